section
-- ===== PART A: goes FIRST, ahead of the names: the tables' words, and 'selects' of the private methods out of them =====
/-- a private method of a class that the tables say can be made, by its rows of tables_1 -/
def lw_okq (q : MethodName × Nat) : Prop := (q.1.cls ≠ "java/lang/invoke/MethodHandle" ∧ q.1.cls ≠ "java/lang/invoke/VarHandle") ∧ Cond.instantiable q.1.cls q.2 ∈ tables_1 ∧ Cond.privateMethod q.1 ∈ tables_1 ∧ Cond.instanceMethod q.1 ∈ tables_1
theorem lw_p0 : lw_okq (⟨"StandInLan$Router", "weighed", "()I"⟩, 11) := ⟨⟨by decide +kernel, by decide +kernel⟩, List.mem_of_getElem? (i := 104) (by decide +kernel), List.mem_of_getElem? (i := 258) (by decide +kernel), List.mem_of_getElem? (i := 259) (by decide +kernel)⟩
theorem lw_p1 : lw_okq (⟨"java/lang/Throwable", "fillInStackTrace", "(I)Ljava/lang/Throwable;"⟩, 6) := ⟨⟨by decide +kernel, by decide +kernel⟩, List.mem_of_getElem? (i := 341) (by decide +kernel), List.mem_of_getElem? (i := 339) (by decide +kernel), List.mem_of_getElem? (i := 340) (by decide +kernel)⟩
theorem lw_p2 : lw_okq (⟨"StandInLan$Router", "becomeActive", "()V"⟩, 11) := ⟨⟨by decide +kernel, by decide +kernel⟩, List.mem_of_getElem? (i := 104) (by decide +kernel), List.mem_of_getElem? (i := 416) (by decide +kernel), List.mem_of_getElem? (i := 417) (by decide +kernel)⟩
theorem lw_p3 : lw_okq (⟨"StandInLan$Router", "advertise", "(I)V"⟩, 11) := ⟨⟨by decide +kernel, by decide +kernel⟩, List.mem_of_getElem? (i := 104) (by decide +kernel), List.mem_of_getElem? (i := 420) (by decide +kernel), List.mem_of_getElem? (i := 421) (by decide +kernel)⟩
theorem lw_p4 : lw_okq (⟨"StandInLan$Router", "sendDraft", "()V"⟩, 11) := ⟨⟨by decide +kernel, by decide +kernel⟩, List.mem_of_getElem? (i := 104) (by decide +kernel), List.mem_of_getElem? (i := 449) (by decide +kernel), List.mem_of_getElem? (i := 450) (by decide +kernel)⟩
theorem lw_p5 : lw_okq (⟨"StandInLan$Router", "becomeBackup", "()V"⟩, 11) := ⟨⟨by decide +kernel, by decide +kernel⟩, List.mem_of_getElem? (i := 104) (by decide +kernel), List.mem_of_getElem? (i := 461) (by decide +kernel), List.mem_of_getElem? (i := 462) (by decide +kernel)⟩
theorem lw_p6 : lw_okq (⟨"StandInLan$Router", "skew", "()I"⟩, 11) := ⟨⟨by decide +kernel, by decide +kernel⟩, List.mem_of_getElem? (i := 104) (by decide +kernel), List.mem_of_getElem? (i := 465) (by decide +kernel), List.mem_of_getElem? (i := 466) (by decide +kernel)⟩
theorem lw_p7 : lw_okq (⟨"StandInLan$Session", "useRates", "()V"⟩, 19) := ⟨⟨by decide +kernel, by decide +kernel⟩, List.mem_of_getElem? (i := 113) (by decide +kernel), List.mem_of_getElem? (i := 501) (by decide +kernel), List.mem_of_getElem? (i := 502) (by decide +kernel)⟩
theorem lw_p8 : lw_okq (⟨"StandInLan", "handOut", "(LStandInLan$Frame;)V"⟩, 3) := ⟨⟨by decide +kernel, by decide +kernel⟩, List.mem_of_getElem? (i := 15) (by decide +kernel), List.mem_of_getElem? (i := 564) (by decide +kernel), List.mem_of_getElem? (i := 565) (by decide +kernel)⟩
theorem lw_p9 : lw_okq (⟨"StandInLan$Router", "isForUs", "(LStandInLan$Frame;)Z"⟩, 11) := ⟨⟨by decide +kernel, by decide +kernel⟩, List.mem_of_getElem? (i := 104) (by decide +kernel), List.mem_of_getElem? (i := 576) (by decide +kernel), List.mem_of_getElem? (i := 577) (by decide +kernel)⟩
theorem lw_p10 : lw_okq (⟨"StandInLan$Router", "hearAsActive", "(LStandInLan$Frame;)V"⟩, 11) := ⟨⟨by decide +kernel, by decide +kernel⟩, List.mem_of_getElem? (i := 104) (by decide +kernel), List.mem_of_getElem? (i := 588) (by decide +kernel), List.mem_of_getElem? (i := 589) (by decide +kernel)⟩
theorem lw_p11 : lw_okq (⟨"StandInLan$Router", "hearAsBackup", "(LStandInLan$Frame;)V"⟩, 11) := ⟨⟨by decide +kernel, by decide +kernel⟩, List.mem_of_getElem? (i := 104) (by decide +kernel), List.mem_of_getElem? (i := 604) (by decide +kernel), List.mem_of_getElem? (i := 605) (by decide +kernel)⟩
theorem lw_p12 : lw_okq (⟨"StandInLan$Router", "hearPacket", "(LStandInLan$Frame;)Z"⟩, 11) := ⟨⟨by decide +kernel, by decide +kernel⟩, List.mem_of_getElem? (i := 104) (by decide +kernel), List.mem_of_getElem? (i := 608) (by decide +kernel), List.mem_of_getElem? (i := 609) (by decide +kernel)⟩
theorem lw_p13 : lw_okq (⟨"StandInLan$Router", "sessionMeant", "(LStandInLan$Frame;)LStandInLan$Session;"⟩, 11) := ⟨⟨by decide +kernel, by decide +kernel⟩, List.mem_of_getElem? (i := 104) (by decide +kernel), List.mem_of_getElem? (i := 615) (by decide +kernel), List.mem_of_getElem? (i := 616) (by decide +kernel)⟩
theorem lw_p14 : lw_okq (⟨"StandInLan$Session", "follow", "()V"⟩, 19) := ⟨⟨by decide +kernel, by decide +kernel⟩, List.mem_of_getElem? (i := 113) (by decide +kernel), List.mem_of_getElem? (i := 630) (by decide +kernel), List.mem_of_getElem? (i := 631) (by decide +kernel)⟩
theorem lw_p15 : lw_okq (⟨"StandInLan$Session", "fall", "(I)V"⟩, 19) := ⟨⟨by decide +kernel, by decide +kernel⟩, List.mem_of_getElem? (i := 113) (by decide +kernel), List.mem_of_getElem? (i := 634) (by decide +kernel), List.mem_of_getElem? (i := 635) (by decide +kernel)⟩
def lw_privs_1 : List (MethodName × Nat) := [(⟨"StandInLan$Router", "weighed", "()I"⟩, 11), (⟨"java/lang/Throwable", "fillInStackTrace", "(I)Ljava/lang/Throwable;"⟩, 6), (⟨"StandInLan$Router", "becomeActive", "()V"⟩, 11), (⟨"StandInLan$Router", "advertise", "(I)V"⟩, 11), (⟨"StandInLan$Router", "sendDraft", "()V"⟩, 11), (⟨"StandInLan$Router", "becomeBackup", "()V"⟩, 11), (⟨"StandInLan$Router", "skew", "()I"⟩, 11), (⟨"StandInLan$Session", "useRates", "()V"⟩, 19), (⟨"StandInLan", "handOut", "(LStandInLan$Frame;)V"⟩, 3), (⟨"StandInLan$Router", "isForUs", "(LStandInLan$Frame;)Z"⟩, 11), (⟨"StandInLan$Router", "hearAsActive", "(LStandInLan$Frame;)V"⟩, 11), (⟨"StandInLan$Router", "hearAsBackup", "(LStandInLan$Frame;)V"⟩, 11), (⟨"StandInLan$Router", "hearPacket", "(LStandInLan$Frame;)Z"⟩, 11), (⟨"StandInLan$Router", "sessionMeant", "(LStandInLan$Frame;)LStandInLan$Session;"⟩, 11), (⟨"StandInLan$Session", "follow", "()V"⟩, 19), (⟨"StandInLan$Session", "fall", "(I)V"⟩, 19)]
theorem lw_r1 : ∀ q ∈ lw_privs_1, lw_okq q := List.forall_mem_cons.mpr ⟨lw_p0, List.forall_mem_cons.mpr ⟨lw_p1, List.forall_mem_cons.mpr ⟨lw_p2, List.forall_mem_cons.mpr ⟨lw_p3, List.forall_mem_cons.mpr ⟨lw_p4, List.forall_mem_cons.mpr ⟨lw_p5, List.forall_mem_cons.mpr ⟨lw_p6, List.forall_mem_cons.mpr ⟨lw_p7, List.forall_mem_cons.mpr ⟨lw_p8, List.forall_mem_cons.mpr ⟨lw_p9, List.forall_mem_cons.mpr ⟨lw_p10, List.forall_mem_cons.mpr ⟨lw_p11, List.forall_mem_cons.mpr ⟨lw_p12, List.forall_mem_cons.mpr ⟨lw_p13, List.forall_mem_cons.mpr ⟨lw_p14, List.forall_mem_cons.mpr ⟨lw_p15, fun _ h => absurd h List.not_mem_nil⟩⟩⟩⟩⟩⟩⟩⟩⟩⟩⟩⟩⟩⟩⟩⟩
theorem lw_p16 : lw_okq (⟨"StandInLan$Session", "comeUp", "()V"⟩, 19) := ⟨⟨by decide +kernel, by decide +kernel⟩, List.mem_of_getElem? (i := 113) (by decide +kernel), List.mem_of_getElem? (i := 638) (by decide +kernel), List.mem_of_getElem? (i := 639) (by decide +kernel)⟩
theorem lw_p17 : lw_okq (⟨"StandInLan$Router", "sendPacket", "(LStandInLan$Session;I)V"⟩, 11) := ⟨⟨by decide +kernel, by decide +kernel⟩, List.mem_of_getElem? (i := 104) (by decide +kernel), List.mem_of_getElem? (i := 642) (by decide +kernel), List.mem_of_getElem? (i := 643) (by decide +kernel)⟩
theorem lw_p18 : lw_okq (⟨"StandInLan$Router", "timerFires", "()V"⟩, 11) := ⟨⟨by decide +kernel, by decide +kernel⟩, List.mem_of_getElem? (i := 104) (by decide +kernel), List.mem_of_getElem? (i := 652) (by decide +kernel), List.mem_of_getElem? (i := 653) (by decide +kernel)⟩
theorem lw_p19 : lw_okq (⟨"StandInLan$Router", "runSession", "(LStandInLan$Session;)V"⟩, 11) := ⟨⟨by decide +kernel, by decide +kernel⟩, List.mem_of_getElem? (i := 104) (by decide +kernel), List.mem_of_getElem? (i := 656) (by decide +kernel), List.mem_of_getElem? (i := 657) (by decide +kernel)⟩
theorem lw_p20 : lw_okq (⟨"StandInLanModel", "is", "(II)I"⟩, 43) := ⟨⟨by decide +kernel, by decide +kernel⟩, List.mem_of_getElem? (i := 677) (by decide +kernel), List.mem_of_getElem? (i := 834) (by decide +kernel), List.mem_of_getElem? (i := 835) (by decide +kernel)⟩
theorem lw_p21 : lw_okq (⟨"StandInLanModel", "weighed", "(I)I"⟩, 43) := ⟨⟨by decide +kernel, by decide +kernel⟩, List.mem_of_getElem? (i := 677) (by decide +kernel), List.mem_of_getElem? (i := 838) (by decide +kernel), List.mem_of_getElem? (i := 839) (by decide +kernel)⟩
theorem lw_p22 : lw_okq (⟨"StandInLanModel", "beActive", "(I)V"⟩, 43) := ⟨⟨by decide +kernel, by decide +kernel⟩, List.mem_of_getElem? (i := 677) (by decide +kernel), List.mem_of_getElem? (i := 845) (by decide +kernel), List.mem_of_getElem? (i := 846) (by decide +kernel)⟩
theorem lw_p23 : lw_okq (⟨"StandInLanModel", "advertise", "(II)V"⟩, 43) := ⟨⟨by decide +kernel, by decide +kernel⟩, List.mem_of_getElem? (i := 677) (by decide +kernel), List.mem_of_getElem? (i := 849) (by decide +kernel), List.mem_of_getElem? (i := 850) (by decide +kernel)⟩
theorem lw_p24 : lw_okq (⟨"StandInLanModel", "put", "(I)V"⟩, 43) := ⟨⟨by decide +kernel, by decide +kernel⟩, List.mem_of_getElem? (i := 677) (by decide +kernel), List.mem_of_getElem? (i := 853) (by decide +kernel), List.mem_of_getElem? (i := 854) (by decide +kernel)⟩
theorem lw_p25 : lw_okq (⟨"StandInLanModel", "putMany", "(II)V"⟩, 43) := ⟨⟨by decide +kernel, by decide +kernel⟩, List.mem_of_getElem? (i := 677) (by decide +kernel), List.mem_of_getElem? (i := 857) (by decide +kernel), List.mem_of_getElem? (i := 858) (by decide +kernel)⟩
theorem lw_p26 : lw_okq (⟨"StandInLanModel", "send", "(IIII)V"⟩, 43) := ⟨⟨by decide +kernel, by decide +kernel⟩, List.mem_of_getElem? (i := 677) (by decide +kernel), List.mem_of_getElem? (i := 869) (by decide +kernel), List.mem_of_getElem? (i := 870) (by decide +kernel)⟩
theorem lw_p27 : lw_okq (⟨"StandInLanModel", "beBackup", "(I)V"⟩, 43) := ⟨⟨by decide +kernel, by decide +kernel⟩, List.mem_of_getElem? (i := 677) (by decide +kernel), List.mem_of_getElem? (i := 873) (by decide +kernel), List.mem_of_getElem? (i := 874) (by decide +kernel)⟩
theorem lw_p28 : lw_okq (⟨"StandInLanModel", "skew", "(I)I"⟩, 43) := ⟨⟨by decide +kernel, by decide +kernel⟩, List.mem_of_getElem? (i := 677) (by decide +kernel), List.mem_of_getElem? (i := 877) (by decide +kernel), List.mem_of_getElem? (i := 878) (by decide +kernel)⟩
theorem lw_p29 : lw_okq (⟨"StandInLanModel", "setSend", "(I)V"⟩, 43) := ⟨⟨by decide +kernel, by decide +kernel⟩, List.mem_of_getElem? (i := 677) (by decide +kernel), List.mem_of_getElem? (i := 896) (by decide +kernel), List.mem_of_getElem? (i := 897) (by decide +kernel)⟩
theorem lw_p30 : lw_okq (⟨"StandInLanModel", "sendTime", "(I)I"⟩, 43) := ⟨⟨by decide +kernel, by decide +kernel⟩, List.mem_of_getElem? (i := 677) (by decide +kernel), List.mem_of_getElem? (i := 900) (by decide +kernel), List.mem_of_getElem? (i := 901) (by decide +kernel)⟩
theorem lw_p31 : lw_okq (⟨"StandInLanModel", "hurry", "(I)V"⟩, 43) := ⟨⟨by decide +kernel, by decide +kernel⟩, List.mem_of_getElem? (i := 677) (by decide +kernel), List.mem_of_getElem? (i := 908) (by decide +kernel), List.mem_of_getElem? (i := 909) (by decide +kernel)⟩
def lw_privs_2 : List (MethodName × Nat) := [(⟨"StandInLan$Session", "comeUp", "()V"⟩, 19), (⟨"StandInLan$Router", "sendPacket", "(LStandInLan$Session;I)V"⟩, 11), (⟨"StandInLan$Router", "timerFires", "()V"⟩, 11), (⟨"StandInLan$Router", "runSession", "(LStandInLan$Session;)V"⟩, 11), (⟨"StandInLanModel", "is", "(II)I"⟩, 43), (⟨"StandInLanModel", "weighed", "(I)I"⟩, 43), (⟨"StandInLanModel", "beActive", "(I)V"⟩, 43), (⟨"StandInLanModel", "advertise", "(II)V"⟩, 43), (⟨"StandInLanModel", "put", "(I)V"⟩, 43), (⟨"StandInLanModel", "putMany", "(II)V"⟩, 43), (⟨"StandInLanModel", "send", "(IIII)V"⟩, 43), (⟨"StandInLanModel", "beBackup", "(I)V"⟩, 43), (⟨"StandInLanModel", "skew", "(I)I"⟩, 43), (⟨"StandInLanModel", "setSend", "(I)V"⟩, 43), (⟨"StandInLanModel", "sendTime", "(I)I"⟩, 43), (⟨"StandInLanModel", "hurry", "(I)V"⟩, 43)]
theorem lw_r2 : ∀ q ∈ lw_privs_2, lw_okq q := List.forall_mem_cons.mpr ⟨lw_p16, List.forall_mem_cons.mpr ⟨lw_p17, List.forall_mem_cons.mpr ⟨lw_p18, List.forall_mem_cons.mpr ⟨lw_p19, List.forall_mem_cons.mpr ⟨lw_p20, List.forall_mem_cons.mpr ⟨lw_p21, List.forall_mem_cons.mpr ⟨lw_p22, List.forall_mem_cons.mpr ⟨lw_p23, List.forall_mem_cons.mpr ⟨lw_p24, List.forall_mem_cons.mpr ⟨lw_p25, List.forall_mem_cons.mpr ⟨lw_p26, List.forall_mem_cons.mpr ⟨lw_p27, List.forall_mem_cons.mpr ⟨lw_p28, List.forall_mem_cons.mpr ⟨lw_p29, List.forall_mem_cons.mpr ⟨lw_p30, List.forall_mem_cons.mpr ⟨lw_p31, fun _ h => absurd h List.not_mem_nil⟩⟩⟩⟩⟩⟩⟩⟩⟩⟩⟩⟩⟩⟩⟩⟩
theorem lw_p32 : lw_okq (⟨"StandInLanModel", "arriveAll", "()V"⟩, 43) := ⟨⟨by decide +kernel, by decide +kernel⟩, List.mem_of_getElem? (i := 677) (by decide +kernel), List.mem_of_getElem? (i := 916) (by decide +kernel), List.mem_of_getElem? (i := 917) (by decide +kernel)⟩
theorem lw_p33 : lw_okq (⟨"StandInLanModel", "forget", "(I)V"⟩, 43) := ⟨⟨by decide +kernel, by decide +kernel⟩, List.mem_of_getElem? (i := 677) (by decide +kernel), List.mem_of_getElem? (i := 920) (by decide +kernel), List.mem_of_getElem? (i := 921) (by decide +kernel)⟩
theorem lw_p34 : lw_okq (⟨"StandInLanModel", "reach", "(IIIII)V"⟩, 43) := ⟨⟨by decide +kernel, by decide +kernel⟩, List.mem_of_getElem? (i := 677) (by decide +kernel), List.mem_of_getElem? (i := 924) (by decide +kernel), List.mem_of_getElem? (i := 925) (by decide +kernel)⟩
theorem lw_p35 : lw_okq (⟨"StandInLanModel", "advertised", "(III)Z"⟩, 43) := ⟨⟨by decide +kernel, by decide +kernel⟩, List.mem_of_getElem? (i := 677) (by decide +kernel), List.mem_of_getElem? (i := 928) (by decide +kernel), List.mem_of_getElem? (i := 929) (by decide +kernel)⟩
theorem lw_p36 : lw_okq (⟨"StandInLanModel", "told", "(II)J"⟩, 43) := ⟨⟨by decide +kernel, by decide +kernel⟩, List.mem_of_getElem? (i := 677) (by decide +kernel), List.mem_of_getElem? (i := 932) (by decide +kernel), List.mem_of_getElem? (i := 933) (by decide +kernel)⟩
theorem lw_p37 : lw_okq (⟨"StandInLanModel", "packeted", "(III)Z"⟩, 43) := ⟨⟨by decide +kernel, by decide +kernel⟩, List.mem_of_getElem? (i := 677) (by decide +kernel), List.mem_of_getElem? (i := 937) (by decide +kernel), List.mem_of_getElem? (i := 938) (by decide +kernel)⟩
theorem lw_p38 : lw_okq (⟨"StandInLanModel", "meant", "(II)I"⟩, 43) := ⟨⟨by decide +kernel, by decide +kernel⟩, List.mem_of_getElem? (i := 677) (by decide +kernel), List.mem_of_getElem? (i := 941) (by decide +kernel), List.mem_of_getElem? (i := 942) (by decide +kernel)⟩
theorem lw_p39 : lw_okq (⟨"StandInLanModel", "turn", "(II)V"⟩, 43) := ⟨⟨by decide +kernel, by decide +kernel⟩, List.mem_of_getElem? (i := 677) (by decide +kernel), List.mem_of_getElem? (i := 952) (by decide +kernel), List.mem_of_getElem? (i := 953) (by decide +kernel)⟩
theorem lw_p40 : lw_okq (⟨"StandInLanModel", "goDown", "(II)V"⟩, 43) := ⟨⟨by decide +kernel, by decide +kernel⟩, List.mem_of_getElem? (i := 677) (by decide +kernel), List.mem_of_getElem? (i := 956) (by decide +kernel), List.mem_of_getElem? (i := 957) (by decide +kernel)⟩
theorem lw_p41 : lw_okq (⟨"StandInLanModel", "goUp", "(I)V"⟩, 43) := ⟨⟨by decide +kernel, by decide +kernel⟩, List.mem_of_getElem? (i := 677) (by decide +kernel), List.mem_of_getElem? (i := 960) (by decide +kernel), List.mem_of_getElem? (i := 961) (by decide +kernel)⟩
theorem lw_p42 : lw_okq (⟨"StandInLanModel", "sendPacket", "(III)V"⟩, 43) := ⟨⟨by decide +kernel, by decide +kernel⟩, List.mem_of_getElem? (i := 677) (by decide +kernel), List.mem_of_getElem? (i := 964) (by decide +kernel), List.mem_of_getElem? (i := 965) (by decide +kernel)⟩
theorem lw_p43 : lw_okq (⟨"StandInLanModel", "work", "(I)V"⟩, 43) := ⟨⟨by decide +kernel, by decide +kernel⟩, List.mem_of_getElem? (i := 677) (by decide +kernel), List.mem_of_getElem? (i := 968) (by decide +kernel), List.mem_of_getElem? (i := 969) (by decide +kernel)⟩
theorem lw_p44 : lw_okq (⟨"StandInLanModel", "timerFires", "(I)V"⟩, 43) := ⟨⟨by decide +kernel, by decide +kernel⟩, List.mem_of_getElem? (i := 677) (by decide +kernel), List.mem_of_getElem? (i := 972) (by decide +kernel), List.mem_of_getElem? (i := 973) (by decide +kernel)⟩
theorem lw_p45 : lw_okq (⟨"StandInLanModel", "detectFires", "(I)V"⟩, 43) := ⟨⟨by decide +kernel, by decide +kernel⟩, List.mem_of_getElem? (i := 677) (by decide +kernel), List.mem_of_getElem? (i := 976) (by decide +kernel), List.mem_of_getElem? (i := 977) (by decide +kernel)⟩
theorem lw_p46 : lw_okq (⟨"StandInLanModel", "raise", "(I)Z"⟩, 43) := ⟨⟨by decide +kernel, by decide +kernel⟩, List.mem_of_getElem? (i := 677) (by decide +kernel), List.mem_of_getElem? (i := 989) (by decide +kernel), List.mem_of_getElem? (i := 990) (by decide +kernel)⟩
def lw_privs_3 : List (MethodName × Nat) := [(⟨"StandInLanModel", "arriveAll", "()V"⟩, 43), (⟨"StandInLanModel", "forget", "(I)V"⟩, 43), (⟨"StandInLanModel", "reach", "(IIIII)V"⟩, 43), (⟨"StandInLanModel", "advertised", "(III)Z"⟩, 43), (⟨"StandInLanModel", "told", "(II)J"⟩, 43), (⟨"StandInLanModel", "packeted", "(III)Z"⟩, 43), (⟨"StandInLanModel", "meant", "(II)I"⟩, 43), (⟨"StandInLanModel", "turn", "(II)V"⟩, 43), (⟨"StandInLanModel", "goDown", "(II)V"⟩, 43), (⟨"StandInLanModel", "goUp", "(I)V"⟩, 43), (⟨"StandInLanModel", "sendPacket", "(III)V"⟩, 43), (⟨"StandInLanModel", "work", "(I)V"⟩, 43), (⟨"StandInLanModel", "timerFires", "(I)V"⟩, 43), (⟨"StandInLanModel", "detectFires", "(I)V"⟩, 43), (⟨"StandInLanModel", "raise", "(I)Z"⟩, 43)]
theorem lw_r3 : ∀ q ∈ lw_privs_3, lw_okq q := List.forall_mem_cons.mpr ⟨lw_p32, List.forall_mem_cons.mpr ⟨lw_p33, List.forall_mem_cons.mpr ⟨lw_p34, List.forall_mem_cons.mpr ⟨lw_p35, List.forall_mem_cons.mpr ⟨lw_p36, List.forall_mem_cons.mpr ⟨lw_p37, List.forall_mem_cons.mpr ⟨lw_p38, List.forall_mem_cons.mpr ⟨lw_p39, List.forall_mem_cons.mpr ⟨lw_p40, List.forall_mem_cons.mpr ⟨lw_p41, List.forall_mem_cons.mpr ⟨lw_p42, List.forall_mem_cons.mpr ⟨lw_p43, List.forall_mem_cons.mpr ⟨lw_p44, List.forall_mem_cons.mpr ⟨lw_p45, List.forall_mem_cons.mpr ⟨lw_p46, fun _ h => absurd h List.not_mem_nil⟩⟩⟩⟩⟩⟩⟩⟩⟩⟩⟩⟩⟩⟩⟩
def lw_privs : List (MethodName × Nat) := lw_privs_1 ++ (lw_privs_2 ++ (lw_privs_3))
def lw_tbl : List Cond := k2_sels lw_privs ++ tables_1
theorem lw_privs_ok : ∀ q ∈ lw_privs, lw_okq q := by
  show ∀ q ∈ lw_privs_1 ++ (lw_privs_2 ++ (lw_privs_3)), lw_okq q
  exact List.forall_mem_append.mpr ⟨lw_r1, List.forall_mem_append.mpr ⟨lw_r2, lw_r3⟩⟩
end
section
/-- the words that every state of the walk has -/
def zT : List Cond := lw_tbl.filter goodWord
theorem zin {w : Cond} (i : Nat) (h : lw_tbl[i]? = some w) (g : goodWord w = true) : w ∈ zT := List.mem_filter.mpr ⟨List.mem_of_getElem? h, g⟩
/-! THE Z LAYER: one walk of one method over ONE pool of cells (all objects of a system), whose contents K describes. Z hides heap, written places, the array of locals. -/
abbrev zX : Type := Program × Launch × Env × Room × State × MethodId × Array Value × List Frame × Method × Code × Nat × Nat
abbrev zG : Type := va_G × List vw_C × List (ClassId × FieldType) × List Nat
abbrev zK : Type := (Nat → va_E) → Prop
def zW (X : zX) (H : Heap) (locs : List Loc) (Q : State → Prop) (g : JFrame) : Prop :=
  W X.1 X.2.1 X.2.2.1 X.2.2.2.1 X.2.2.2.2.1 X.2.2.2.2.2.1 X.2.2.2.2.2.2.1 X.2.2.2.2.2.2.2.1 X.2.2.2.2.2.2.2.2.1 X.2.2.2.2.2.2.2.2.2.1 H locs X.2.2.2.2.2.2.2.2.2.2.1 X.2.2.2.2.2.2.2.2.2.2.2 Q g
abbrev zX.s (X : zX) : State := X.2.2.2.2.1
abbrev zX.R (X : zX) : Room := X.2.2.2.1
abbrev zX.m (X : zX) : MethodId := X.2.2.2.2.2.1
abbrev zX.args (X : zX) : Array Value := X.2.2.2.2.2.2.1
abbrev zX.meth (X : zX) : Method := X.2.2.2.2.2.2.2.2.1
abbrev zX.c (X : zX) : Code := X.2.2.2.2.2.2.2.2.2.1
def Z (X : zX) (G : zG) (A : Nat → Prop) (nL : Nat) (Q : State → Prop) (K : zK) (pc : Nat) (lv : List (Nat × Value)) (st : List Value) : Prop :=
  ∀ (f : Nat → va_E) (H : Heap) (locs : List Loc) (ls : Array Slot), K f → va_P G.1 G.2.1 (va_pl G.2.2.2 f) H → va_S A X.s.heap H locs → lv_has ls nL lv → zW X H locs Q (F0 X.m pc ls st)
/-- what a walk stands on: machine, code, words, tables, the pool's addresses apart and its own, depth d of calls that there is room for -/
def zC (X : zX) (G : zG) (A : Nat → Prop) (cc : ByteArray) (nL : Nat) (own : String) (fr lo : Nat) : Prop :=
  CallFix X.1 X.m X.c cc nL X.s X.args zT own ∧ va_K G.1 G.2.1 G.2.2.1 X.s ∧ G.2.2.2.Nodup ∧ (∀ q ∈ G.2.2.2, A q) ∧ X.meth.locks = false ∧ X.2.2.2.2.2.2.2.2.2.2.1 ≤ X.R.cells ∧ X.2.2.2.2.2.2.2.2.2.2.2 ≤ X.R.slots ∧ fr ≤ X.R.frames ∧ lo ≤ X.R.locals
theorem zD {L : List Nat} {A : Nat → Prop} {f : Nat → va_E} (hn : L.Nodup) (hA : ∀ q ∈ L, A q) : va_D A (va_pl L f) := by
  refine ⟨fun i j p q hi hj e => ?_, fun k q hk => ?_⟩
  · simp only [va_pl, List.getElem?_map] at hi hj
    cases h1 : L[i]? with
    | none => rw [h1] at hi; cases hi
    | some a =>
      cases h2 : L[j]? with
      | none => rw [h2] at hj; cases hj
      | some b =>
        rw [h1] at hi; rw [h2] at hj
        cases hi; cases hj
        have e : a = b := e
        subst e
        have l1 := (List.getElem?_eq_some_iff.mp h1).1
        exact (List.getElem?_inj l1 hn).mp (h1.trans h2.symm)
  · simp only [va_pl, List.getElem?_map] at hk
    cases h1 : L[k]? with
    | none => rw [h1] at hk; cases hk
    | some a =>
      rw [h1] at hk
      cases hk
      exact hA a (List.mem_of_getElem? h1)
section ZR
variable {X : zX} {G : zG} {A : Nat → Prop} {nL : Nat} {Q : State → Prop} {K : zK} {pc : Nat} {lv : List (Nat × Value)} {st : List Value} {cc : ByteArray} {own : String} {fr lo : Nat}
theorem Z_iconst (C : zC X G A cc nL own fr lo) {n : Int} {v : Int32} (hd : decode cc pc = .ok (.iconst n, 1)) (hv : Int32.ofInt n = v) (k : Z X G A nL Q K (pc + 1) lv (.int v :: st)) : Z X G A nL Q K pc lv (st) := fun f H locs ls hf hP hS hl => lv_iconst C.1.1 C.1.2.1 hd hv (k f H locs ls hf hP hS hl)
theorem Z_bipush (C : zC X G A cc nL own fr lo) {n : Int} {v : Int32} (hd : decode cc pc = .ok (.bipush n, 2)) (hv : (Int8.ofInt n).toInt32 = v) (k : Z X G A nL Q K (pc + 2) lv (.int v :: st)) : Z X G A nL Q K pc lv (st) := fun f H locs ls hf hP hS hl => lv_bipush C.1.1 C.1.2.1 hd hv (k f H locs ls hf hP hS hl)
theorem Z_sipush (C : zC X G A cc nL own fr lo) {n : Int} {v : Int32} (hd : decode cc pc = .ok (.sipush n, 3)) (hv : (Int16.ofInt n).toInt32 = v) (k : Z X G A nL Q K (pc + 3) lv (.int v :: st)) : Z X G A nL Q K pc lv (st) := fun f H locs ls hf hP hS hl => lv_sipush C.1.1 C.1.2.1 hd hv (k f H locs ls hf hP hS hl)
theorem Z_lconst (C : zC X G A cc nL own fr lo) {n : Fin 2} {v : Int64} (hd : decode cc pc = .ok (.lconst n, 1)) (hv : Int64.ofNat (n : Nat) = v) (k : Z X G A nL Q K (pc + 1) lv (.long v :: st)) : Z X G A nL Q K pc lv (st) := fun f H locs ls hf hP hS hl => lv_lconst C.1.1 C.1.2.1 hd hv (k f H locs ls hf hP hS hl)
theorem Z_iload_n (C : zC X G A cc nL own fr lo) (j : Nat) {k : Fin 4} {i : Nat} {x : Int32} (hd : decode cc pc = .ok (.iload_n k, 1)) (hi : (k : Nat) = i) (hx : lv[j]? = some (i, .int x)) (k : Z X G A nL Q K (pc + 1) lv (.int x :: st)) : Z X G A nL Q K pc lv (st) := fun f H locs ls hf hP hS hl => lv_iload_n C.1.1 C.1.2.1 hd hi (lv_at hl j hx) (k f H locs ls hf hP hS hl)
theorem Z_iload (C : zC X G A cc nL own fr lo) (j : Nat) {i : Nat} {x : Int32} (hd : decode cc pc = .ok (.iload i, 2)) (hx : lv[j]? = some (i, .int x)) (k : Z X G A nL Q K (pc + 2) lv (.int x :: st)) : Z X G A nL Q K pc lv (st) := fun f H locs ls hf hP hS hl => lv_iload C.1.1 C.1.2.1 hd (lv_at hl j hx) (k f H locs ls hf hP hS hl)
theorem Z_lload_n (C : zC X G A cc nL own fr lo) (j : Nat) {k : Fin 4} {i : Nat} {x : Int64} (hd : decode cc pc = .ok (.lload_n k, 1)) (hi : (k : Nat) = i) (hx : lv[j]? = some (i, .long x)) (k : Z X G A nL Q K (pc + 1) lv (.long x :: st)) : Z X G A nL Q K pc lv (st) := fun f H locs ls hf hP hS hl => lv_lload_n C.1.1 C.1.2.1 hd hi (lv_at hl j hx) (k f H locs ls hf hP hS hl)
theorem Z_lload (C : zC X G A cc nL own fr lo) (j : Nat) {i : Nat} {x : Int64} (hd : decode cc pc = .ok (.lload i, 2)) (hx : lv[j]? = some (i, .long x)) (k : Z X G A nL Q K (pc + 2) lv (.long x :: st)) : Z X G A nL Q K pc lv (st) := fun f H locs ls hf hP hS hl => lv_lload C.1.1 C.1.2.1 hd (lv_at hl j hx) (k f H locs ls hf hP hS hl)
theorem Z_aload_n (C : zC X G A cc nL own fr lo) (j : Nat) {k : Fin 4} {i : Nat} {x : Nat} (hd : decode cc pc = .ok (.aload_n k, 1)) (hi : (k : Nat) = i) (hx : lv[j]? = some (i, .ref x)) (k : Z X G A nL Q K (pc + 1) lv (.ref x :: st)) : Z X G A nL Q K pc lv (st) := fun f H locs ls hf hP hS hl => lv_aload_n C.1.1 C.1.2.1 hd hi (lv_at hl j hx) (k f H locs ls hf hP hS hl)
theorem Z_aload (C : zC X G A cc nL own fr lo) (j : Nat) {i : Nat} {x : Nat} (hd : decode cc pc = .ok (.aload i, 2)) (hx : lv[j]? = some (i, .ref x)) (k : Z X G A nL Q K (pc + 2) lv (.ref x :: st)) : Z X G A nL Q K pc lv (st) := fun f H locs ls hf hP hS hl => lv_aload C.1.1 C.1.2.1 hd (lv_at hl j hx) (k f H locs ls hf hP hS hl)
theorem Z_istore_n {lv' : List (Nat × Value)} (C : zC X G A cc nL own fr lo) {k : Fin 4} {i : Nat} {x : Int32} (hd : decode cc pc = .ok (.istore_n k, 1)) (hi : (k : Nat) = i) (hn : i < nL) (he : (i, Value.int x) :: lv.filter (fun q => !(q.1 == i) && !(q.1 + 1 == i && q.2.category == 2)) = lv') (k : Z X G A nL Q K (pc + 1) lv' st) : Z X G A nL Q K pc lv (.int x :: st) := fun f H locs ls hf hP hS hl => lv_istore_n C.1.1 C.1.2.1 hd hi hl hn he (fun ls hl => k f H locs ls hf hP hS hl)
theorem Z_istore {lv' : List (Nat × Value)} (C : zC X G A cc nL own fr lo) {i : Nat} {x : Int32} (hd : decode cc pc = .ok (.istore i, 2)) (hn : i < nL) (he : (i, Value.int x) :: lv.filter (fun q => !(q.1 == i) && !(q.1 + 1 == i && q.2.category == 2)) = lv') (k : Z X G A nL Q K (pc + 2) lv' st) : Z X G A nL Q K pc lv (.int x :: st) := fun f H locs ls hf hP hS hl => lv_istore C.1.1 C.1.2.1 hd hl hn he (fun ls hl => k f H locs ls hf hP hS hl)
theorem Z_astore_n {lv' : List (Nat × Value)} (C : zC X G A cc nL own fr lo) {k : Fin 4} {i : Nat} {x : Nat} (hd : decode cc pc = .ok (.astore_n k, 1)) (hi : (k : Nat) = i) (hn : i < nL) (he : (i, Value.ref x) :: lv.filter (fun q => !(q.1 == i) && !(q.1 + 1 == i && q.2.category == 2)) = lv') (k : Z X G A nL Q K (pc + 1) lv' st) : Z X G A nL Q K pc lv (.ref x :: st) := fun f H locs ls hf hP hS hl => lv_astore_n C.1.1 C.1.2.1 hd hi hl hn he (fun ls hl => k f H locs ls hf hP hS hl)
theorem Z_astore {lv' : List (Nat × Value)} (C : zC X G A cc nL own fr lo) {i : Nat} {x : Nat} (hd : decode cc pc = .ok (.astore i, 2)) (hn : i < nL) (he : (i, Value.ref x) :: lv.filter (fun q => !(q.1 == i) && !(q.1 + 1 == i && q.2.category == 2)) = lv') (k : Z X G A nL Q K (pc + 2) lv' st) : Z X G A nL Q K pc lv (.ref x :: st) := fun f H locs ls hf hP hS hl => lv_astore C.1.1 C.1.2.1 hd hl hn he (fun ls hl => k f H locs ls hf hP hS hl)
theorem Z_lstore_n {lv' : List (Nat × Value)} (C : zC X G A cc nL own fr lo) {k : Fin 4} {i : Nat} {x : Int64} (hd : decode cc pc = .ok (.lstore_n k, 1)) (hi : (k : Nat) = i) (hn : i + 1 < nL) (he : (i, Value.long x) :: lv.filter (fun q => !(q.1 == i) && (!(q.1 == i + 1) && !(q.1 + 1 == i && q.2.category == 2))) = lv') (k : Z X G A nL Q K (pc + 1) lv' st) : Z X G A nL Q K pc lv (.long x :: st) := fun f H locs ls hf hP hS hl => lv_lstore_n C.1.1 C.1.2.1 hd hi hl hn he (fun ls hl => k f H locs ls hf hP hS hl)
theorem Z_lstore {lv' : List (Nat × Value)} (C : zC X G A cc nL own fr lo) {i : Nat} {x : Int64} (hd : decode cc pc = .ok (.lstore i, 2)) (hn : i + 1 < nL) (he : (i, Value.long x) :: lv.filter (fun q => !(q.1 == i) && (!(q.1 == i + 1) && !(q.1 + 1 == i && q.2.category == 2))) = lv') (k : Z X G A nL Q K (pc + 2) lv' st) : Z X G A nL Q K pc lv (.long x :: st) := fun f H locs ls hf hP hS hl => lv_lstore C.1.1 C.1.2.1 hd hl hn he (fun ls hl => k f H locs ls hf hP hS hl)
theorem Z_iinc {lv' : List (Nat × Value)} (j : Nat) (C : zC X G A cc nL own fr lo) {i : Nat} {n : Int} {x v : Int32} (hd : decode cc pc = .ok (.iinc i n, 3)) (hx : lv[j]? = some (i, .int x)) (hv : x + Int32.ofInt n = v) (hn : i < nL) (he : (i, Value.int v) :: lv.filter (fun q => !(q.1 == i) && !(q.1 + 1 == i && q.2.category == 2)) = lv') (k : Z X G A nL Q K (pc + 3) lv' st) : Z X G A nL Q K pc lv st := fun f H locs ls hf hP hS hl => lv_iinc C.1.1 C.1.2.1 hd hl hx hv hn he (fun ls hl => k f H locs ls hf hP hS hl)
theorem Z_iadd (C : zC X G A cc nL own fr lo) {x y : Int32} (hd : decode cc pc = .ok (.iadd, 1)) (k : Z X G A nL Q K (pc + 1) lv (.int (x + y) :: st)) : Z X G A nL Q K pc lv (.int y :: .int x :: st) := fun f H locs ls hf hP hS hl => lv_iadd C.1.1 C.1.2.1 hd (k f H locs ls hf hP hS hl)
theorem Z_isub (C : zC X G A cc nL own fr lo) {x y : Int32} (hd : decode cc pc = .ok (.isub, 1)) (k : Z X G A nL Q K (pc + 1) lv (.int (x - y) :: st)) : Z X G A nL Q K pc lv (.int y :: .int x :: st) := fun f H locs ls hf hP hS hl => lv_isub C.1.1 C.1.2.1 hd (k f H locs ls hf hP hS hl)
theorem Z_imul (C : zC X G A cc nL own fr lo) {x y : Int32} (hd : decode cc pc = .ok (.imul, 1)) (k : Z X G A nL Q K (pc + 1) lv (.int (x * y) :: st)) : Z X G A nL Q K pc lv (.int y :: .int x :: st) := fun f H locs ls hf hP hS hl => lv_imul C.1.1 C.1.2.1 hd (k f H locs ls hf hP hS hl)
theorem Z_iand (C : zC X G A cc nL own fr lo) {x y : Int32} (hd : decode cc pc = .ok (.iand, 1)) (k : Z X G A nL Q K (pc + 1) lv (.int (x &&& y) :: st)) : Z X G A nL Q K pc lv (.int y :: .int x :: st) := fun f H locs ls hf hP hS hl => lv_iand C.1.1 C.1.2.1 hd (k f H locs ls hf hP hS hl)
theorem Z_ior (C : zC X G A cc nL own fr lo) {x y : Int32} (hd : decode cc pc = .ok (.ior, 1)) (k : Z X G A nL Q K (pc + 1) lv (.int (x ||| y) :: st)) : Z X G A nL Q K pc lv (.int y :: .int x :: st) := fun f H locs ls hf hP hS hl => lv_ior C.1.1 C.1.2.1 hd (k f H locs ls hf hP hS hl)
theorem Z_ixor (C : zC X G A cc nL own fr lo) {x y : Int32} (hd : decode cc pc = .ok (.ixor, 1)) (k : Z X G A nL Q K (pc + 1) lv (.int (x ^^^ y) :: st)) : Z X G A nL Q K pc lv (.int y :: .int x :: st) := fun f H locs ls hf hP hS hl => lv_ixor C.1.1 C.1.2.1 hd (k f H locs ls hf hP hS hl)
theorem Z_ishl (C : zC X G A cc nL own fr lo) {x y : Int32} (hd : decode cc pc = .ok (.ishl, 1)) (k : Z X G A nL Q K (pc + 1) lv (.int (x <<< (y &&& 31)) :: st)) : Z X G A nL Q K pc lv (.int y :: .int x :: st) := fun f H locs ls hf hP hS hl => lv_ishl C.1.1 C.1.2.1 hd (k f H locs ls hf hP hS hl)
theorem Z_ishr (C : zC X G A cc nL own fr lo) {x y : Int32} (hd : decode cc pc = .ok (.ishr, 1)) (k : Z X G A nL Q K (pc + 1) lv (.int (x >>> (y &&& 31)) :: st)) : Z X G A nL Q K pc lv (.int y :: .int x :: st) := fun f H locs ls hf hP hS hl => lv_ishr C.1.1 C.1.2.1 hd (k f H locs ls hf hP hS hl)
theorem Z_idiv (C : zC X G A cc nL own fr lo) {x y : Int32} (hd : decode cc pc = .ok (.idiv, 1)) (hne : ¬ y = 0) (k : Z X G A nL Q K (pc + 1) lv (.int (x / y) :: st)) : Z X G A nL Q K pc lv (.int y :: .int x :: st) := fun f H locs ls hf hP hS hl => lv_idiv C.1.1 C.1.2.1 hd hne (k f H locs ls hf hP hS hl)
theorem Z_irem (C : zC X G A cc nL own fr lo) {x y : Int32} (hd : decode cc pc = .ok (.irem, 1)) (hne : ¬ y = 0) (k : Z X G A nL Q K (pc + 1) lv (.int (x - x / y * y) :: st)) : Z X G A nL Q K pc lv (.int y :: .int x :: st) := fun f H locs ls hf hP hS hl => lv_irem C.1.1 C.1.2.1 hd hne (k f H locs ls hf hP hS hl)
theorem Z_ldiv (C : zC X G A cc nL own fr lo) {x y : Int64} (hd : decode cc pc = .ok (.ldiv, 1)) (hne : ¬ y = 0) (k : Z X G A nL Q K (pc + 1) lv (.long (x / y) :: st)) : Z X G A nL Q K pc lv (.long y :: .long x :: st) := fun f H locs ls hf hP hS hl => lv_ldiv C.1.1 C.1.2.1 hd hne (k f H locs ls hf hP hS hl)
theorem Z_lrem (C : zC X G A cc nL own fr lo) {x y : Int64} (hd : decode cc pc = .ok (.lrem, 1)) (hne : ¬ y = 0) (k : Z X G A nL Q K (pc + 1) lv (.long (x - x / y * y) :: st)) : Z X G A nL Q K pc lv (.long y :: .long x :: st) := fun f H locs ls hf hP hS hl => lv_lrem C.1.1 C.1.2.1 hd hne (k f H locs ls hf hP hS hl)
theorem Z_ineg (C : zC X G A cc nL own fr lo) {x : Int32} (hd : decode cc pc = .ok (.ineg, 1)) (k : Z X G A nL Q K (pc + 1) lv (.int (-x) :: st)) : Z X G A nL Q K pc lv (.int x :: st) := fun f H locs ls hf hP hS hl => lv_ineg C.1.1 C.1.2.1 hd (k f H locs ls hf hP hS hl)
theorem Z_ladd (C : zC X G A cc nL own fr lo) {x y : Int64} (hd : decode cc pc = .ok (.ladd, 1)) (k : Z X G A nL Q K (pc + 1) lv (.long (x + y) :: st)) : Z X G A nL Q K pc lv (.long y :: .long x :: st) := fun f H locs ls hf hP hS hl => lv_ladd C.1.1 C.1.2.1 hd (k f H locs ls hf hP hS hl)
theorem Z_lsub (C : zC X G A cc nL own fr lo) {x y : Int64} (hd : decode cc pc = .ok (.lsub, 1)) (k : Z X G A nL Q K (pc + 1) lv (.long (x - y) :: st)) : Z X G A nL Q K pc lv (.long y :: .long x :: st) := fun f H locs ls hf hP hS hl => lv_lsub C.1.1 C.1.2.1 hd (k f H locs ls hf hP hS hl)
theorem Z_lmul (C : zC X G A cc nL own fr lo) {x y : Int64} (hd : decode cc pc = .ok (.lmul, 1)) (k : Z X G A nL Q K (pc + 1) lv (.long (x * y) :: st)) : Z X G A nL Q K pc lv (.long y :: .long x :: st) := fun f H locs ls hf hP hS hl => lv_lmul C.1.1 C.1.2.1 hd (k f H locs ls hf hP hS hl)
theorem Z_land (C : zC X G A cc nL own fr lo) {x y : Int64} (hd : decode cc pc = .ok (.land, 1)) (k : Z X G A nL Q K (pc + 1) lv (.long (x &&& y) :: st)) : Z X G A nL Q K pc lv (.long y :: .long x :: st) := fun f H locs ls hf hP hS hl => lv_land C.1.1 C.1.2.1 hd (k f H locs ls hf hP hS hl)
theorem Z_lor (C : zC X G A cc nL own fr lo) {x y : Int64} (hd : decode cc pc = .ok (.lor, 1)) (k : Z X G A nL Q K (pc + 1) lv (.long (x ||| y) :: st)) : Z X G A nL Q K pc lv (.long y :: .long x :: st) := fun f H locs ls hf hP hS hl => lv_lor C.1.1 C.1.2.1 hd (k f H locs ls hf hP hS hl)
theorem Z_lxor (C : zC X G A cc nL own fr lo) {x y : Int64} (hd : decode cc pc = .ok (.lxor, 1)) (k : Z X G A nL Q K (pc + 1) lv (.long (x ^^^ y) :: st)) : Z X G A nL Q K pc lv (.long y :: .long x :: st) := fun f H locs ls hf hP hS hl => lv_lxor C.1.1 C.1.2.1 hd (k f H locs ls hf hP hS hl)
theorem Z_iushr (C : zC X G A cc nL own fr lo) {x y : Int32} (hd : decode cc pc = .ok (.iushr, 1)) (k : Z X G A nL Q K (pc + 1) lv (.int ((x.toUInt32 >>> (y.toUInt32 &&& Int32.toUInt32 31)).toInt32) :: st)) : Z X G A nL Q K pc lv (.int y :: .int x :: st) := fun f H locs ls hf hP hS hl => lv_iushr C.1.1 C.1.2.1 hd rfl (k f H locs ls hf hP hS hl)
theorem Z_lushr (C : zC X G A cc nL own fr lo) {x : Int64} {y : Int32} (hd : decode cc pc = .ok (.lushr, 1)) (k : Z X G A nL Q K (pc + 1) lv (.long ((x.toUInt64 >>> (y.toInt64.toUInt64 &&& Int64.toUInt64 63)).toInt64) :: st)) : Z X G A nL Q K pc lv (.int y :: .long x :: st) := fun f H locs ls hf hP hS hl => lv_lushr C.1.1 C.1.2.1 hd rfl (k f H locs ls hf hP hS hl)
theorem Z_lshl (C : zC X G A cc nL own fr lo) {x : Int64} {y : Int32} (hd : decode cc pc = .ok (.lshl, 1)) (k : Z X G A nL Q K (pc + 1) lv (.long (x <<< (y.toInt64 &&& 63)) :: st)) : Z X G A nL Q K pc lv (.int y :: .long x :: st) := fun f H locs ls hf hP hS hl => lv_lshl C.1.1 C.1.2.1 hd rfl (k f H locs ls hf hP hS hl)
theorem Z_lshr (C : zC X G A cc nL own fr lo) {x : Int64} {y : Int32} (hd : decode cc pc = .ok (.lshr, 1)) (k : Z X G A nL Q K (pc + 1) lv (.long (x >>> (y.toInt64 &&& 63)) :: st)) : Z X G A nL Q K pc lv (.int y :: .long x :: st) := fun f H locs ls hf hP hS hl => lv_lshr C.1.1 C.1.2.1 hd rfl (k f H locs ls hf hP hS hl)
theorem Z_i2l (C : zC X G A cc nL own fr lo) {x : Int32} (hd : decode cc pc = .ok (.i2l, 1)) (k : Z X G A nL Q K (pc + 1) lv (.long x.toInt64 :: st)) : Z X G A nL Q K pc lv (.int x :: st) := fun f H locs ls hf hP hS hl => lv_i2l C.1.1 C.1.2.1 hd rfl (k f H locs ls hf hP hS hl)
theorem Z_l2i (C : zC X G A cc nL own fr lo) {x : Int64} (hd : decode cc pc = .ok (.l2i, 1)) (k : Z X G A nL Q K (pc + 1) lv (.int x.toInt32 :: st)) : Z X G A nL Q K pc lv (.long x :: st) := fun f H locs ls hf hP hS hl => lv_l2i C.1.1 C.1.2.1 hd rfl (k f H locs ls hf hP hS hl)
theorem Z_i2b (C : zC X G A cc nL own fr lo) {x : Int32} (hd : decode cc pc = .ok (.i2b, 1)) (k : Z X G A nL Q K (pc + 1) lv (.int x.toInt8.toInt32 :: st)) : Z X G A nL Q K pc lv (.int x :: st) := fun f H locs ls hf hP hS hl => lv_i2b C.1.1 C.1.2.1 hd rfl (k f H locs ls hf hP hS hl)
theorem Z_dup (C : zC X G A cc nL own fr lo) {va : Value} (hd : decode cc pc = .ok (.dup, 1)) (hva : va.category = 1) (k : Z X G A nL Q K (pc + 1) lv (va :: va :: st)) : Z X G A nL Q K pc lv (va :: st) := fun f H locs ls hf hP hS hl => lv_dup C.1.1 C.1.2.1 hd hva (k f H locs ls hf hP hS hl)
theorem Z_pop (C : zC X G A cc nL own fr lo) {va : Value} (hd : decode cc pc = .ok (.pop, 1)) (hva : va.category = 1) (k : Z X G A nL Q K (pc + 1) lv (st)) : Z X G A nL Q K pc lv (va :: st) := fun f H locs ls hf hP hS hl => lv_pop C.1.1 C.1.2.1 hd hva (k f H locs ls hf hP hS hl)
theorem Z_dup_x1 (C : zC X G A cc nL own fr lo) {va vb : Value} (hd : decode cc pc = .ok (.dup_x1, 1)) (hva : va.category = 1) (hvb : vb.category = 1) (k : Z X G A nL Q K (pc + 1) lv (va :: vb :: va :: st)) : Z X G A nL Q K pc lv (va :: vb :: st) := fun f H locs ls hf hP hS hl => lv_dup_x1 C.1.1 C.1.2.1 hd hva hvb (k f H locs ls hf hP hS hl)
theorem Z_dup_x2 (C : zC X G A cc nL own fr lo) {va vb vd : Value} (hd : decode cc pc = .ok (.dup_x2, 1)) (hva : va.category = 1) (hvb : vb.category = 1) (hvd : vd.category = 1) (k : Z X G A nL Q K (pc + 1) lv (va :: vb :: vd :: va :: st)) : Z X G A nL Q K pc lv (va :: vb :: vd :: st) := fun f H locs ls hf hP hS hl => lv_dup_x2 C.1.1 C.1.2.1 hd hva hvb hvd (k f H locs ls hf hP hS hl)
theorem Z_dup2_11 (C : zC X G A cc nL own fr lo) {va vb : Value} (hd : decode cc pc = .ok (.dup2, 1)) (hva : va.category = 1) (hvb : vb.category = 1) (k : Z X G A nL Q K (pc + 1) lv (va :: vb :: va :: vb :: st)) : Z X G A nL Q K pc lv (va :: vb :: st) := fun f H locs ls hf hP hS hl => lv_dup2_11 C.1.1 C.1.2.1 hd hva hvb (k f H locs ls hf hP hS hl)
theorem Z_goto (C : zC X G A cc nL own fr lo) {off : Int} {tgt : Nat} (hd : decode cc pc = .ok (.goto off, 3)) (ht : (pc : Int) + off = (tgt : Int)) (k : Z X G A nL Q K (tgt) lv (st)) : Z X G A nL Q K pc lv (st) := fun f H locs ls hf hP hS hl => lv_goto C.1.1 C.1.2.1 hd ht (k f H locs ls hf hP hS hl)
theorem Z_null (C : zC X G A cc nL own fr lo) (hd : decode cc pc = .ok (.aconst_null, 1)) (k : Z X G A nL Q K (pc + 1) lv (.null :: st)) : Z X G A nL Q K pc lv (st) := fun f H locs ls hf hP hS hl => lv_null C.1.1 C.1.2.1 hd (k f H locs ls hf hP hS hl)
theorem Z_if_eq {tgt : Nat} (C : zC X G A cc nL own fr lo) {x : Int32} {off : Int} (hd : decode cc pc = .ok (.ifCond .eq off, 3)) (ht : (pc : Int) + off = (tgt : Int)) (kt : x = 0 → Z X G A nL Q K tgt lv st) (kf : ¬ x = 0 → Z X G A nL Q K (pc + 3) lv st) : Z X G A nL Q K pc lv (.int x :: st) := fun f H locs ls hf hP hS hl => lv_if_eq C.1.1 C.1.2.1 hd ht (fun h => kt h f H locs ls hf hP hS hl) (fun h => kf h f H locs ls hf hP hS hl)
theorem Z_if_ne {tgt : Nat} (C : zC X G A cc nL own fr lo) {x : Int32} {off : Int} (hd : decode cc pc = .ok (.ifCond .ne off, 3)) (ht : (pc : Int) + off = (tgt : Int)) (kt : ¬ x = 0 → Z X G A nL Q K tgt lv st) (kf : x = 0 → Z X G A nL Q K (pc + 3) lv st) : Z X G A nL Q K pc lv (.int x :: st) := fun f H locs ls hf hP hS hl => lv_if_ne C.1.1 C.1.2.1 hd ht (fun h => kt h f H locs ls hf hP hS hl) (fun h => kf h f H locs ls hf hP hS hl)
theorem Z_if_lt {tgt : Nat} (C : zC X G A cc nL own fr lo) {x : Int32} {off : Int} (hd : decode cc pc = .ok (.ifCond .lt off, 3)) (ht : (pc : Int) + off = (tgt : Int)) (kt : x < 0 → Z X G A nL Q K tgt lv st) (kf : ¬ x < 0 → Z X G A nL Q K (pc + 3) lv st) : Z X G A nL Q K pc lv (.int x :: st) := fun f H locs ls hf hP hS hl => lv_if_lt C.1.1 C.1.2.1 hd ht (fun h => kt h f H locs ls hf hP hS hl) (fun h => kf h f H locs ls hf hP hS hl)
theorem Z_if_ge {tgt : Nat} (C : zC X G A cc nL own fr lo) {x : Int32} {off : Int} (hd : decode cc pc = .ok (.ifCond .ge off, 3)) (ht : (pc : Int) + off = (tgt : Int)) (kt : 0 ≤ x → Z X G A nL Q K tgt lv st) (kf : ¬ 0 ≤ x → Z X G A nL Q K (pc + 3) lv st) : Z X G A nL Q K pc lv (.int x :: st) := fun f H locs ls hf hP hS hl => lv_if_ge C.1.1 C.1.2.1 hd ht (fun h => kt h f H locs ls hf hP hS hl) (fun h => kf h f H locs ls hf hP hS hl)
theorem Z_if_gt {tgt : Nat} (C : zC X G A cc nL own fr lo) {x : Int32} {off : Int} (hd : decode cc pc = .ok (.ifCond .gt off, 3)) (ht : (pc : Int) + off = (tgt : Int)) (kt : 0 < x → Z X G A nL Q K tgt lv st) (kf : ¬ 0 < x → Z X G A nL Q K (pc + 3) lv st) : Z X G A nL Q K pc lv (.int x :: st) := fun f H locs ls hf hP hS hl => lv_if_gt C.1.1 C.1.2.1 hd ht (fun h => kt h f H locs ls hf hP hS hl) (fun h => kf h f H locs ls hf hP hS hl)
theorem Z_if_le {tgt : Nat} (C : zC X G A cc nL own fr lo) {x : Int32} {off : Int} (hd : decode cc pc = .ok (.ifCond .le off, 3)) (ht : (pc : Int) + off = (tgt : Int)) (kt : x ≤ 0 → Z X G A nL Q K tgt lv st) (kf : ¬ x ≤ 0 → Z X G A nL Q K (pc + 3) lv st) : Z X G A nL Q K pc lv (.int x :: st) := fun f H locs ls hf hP hS hl => lv_if_le C.1.1 C.1.2.1 hd ht (fun h => kt h f H locs ls hf hP hS hl) (fun h => kf h f H locs ls hf hP hS hl)
theorem Z_icmp_eq {tgt : Nat} (C : zC X G A cc nL own fr lo) {x y : Int32} {off : Int} (hd : decode cc pc = .ok (.if_icmp .eq off, 3)) (ht : (pc : Int) + off = (tgt : Int)) (kt : x = y → Z X G A nL Q K tgt lv st) (kf : ¬ x = y → Z X G A nL Q K (pc + 3) lv st) : Z X G A nL Q K pc lv (.int y :: .int x :: st) := fun f H locs ls hf hP hS hl => lv_icmp_eq C.1.1 C.1.2.1 hd ht (fun h => kt h f H locs ls hf hP hS hl) (fun h => kf h f H locs ls hf hP hS hl)
theorem Z_icmp_ne {tgt : Nat} (C : zC X G A cc nL own fr lo) {x y : Int32} {off : Int} (hd : decode cc pc = .ok (.if_icmp .ne off, 3)) (ht : (pc : Int) + off = (tgt : Int)) (kt : ¬ x = y → Z X G A nL Q K tgt lv st) (kf : x = y → Z X G A nL Q K (pc + 3) lv st) : Z X G A nL Q K pc lv (.int y :: .int x :: st) := fun f H locs ls hf hP hS hl => lv_icmp_ne C.1.1 C.1.2.1 hd ht (fun h => kt h f H locs ls hf hP hS hl) (fun h => kf h f H locs ls hf hP hS hl)
theorem Z_icmp_lt {tgt : Nat} (C : zC X G A cc nL own fr lo) {x y : Int32} {off : Int} (hd : decode cc pc = .ok (.if_icmp .lt off, 3)) (ht : (pc : Int) + off = (tgt : Int)) (kt : x < y → Z X G A nL Q K tgt lv st) (kf : ¬ x < y → Z X G A nL Q K (pc + 3) lv st) : Z X G A nL Q K pc lv (.int y :: .int x :: st) := fun f H locs ls hf hP hS hl => lv_icmp_lt C.1.1 C.1.2.1 hd ht (fun h => kt h f H locs ls hf hP hS hl) (fun h => kf h f H locs ls hf hP hS hl)
theorem Z_icmp_ge {tgt : Nat} (C : zC X G A cc nL own fr lo) {x y : Int32} {off : Int} (hd : decode cc pc = .ok (.if_icmp .ge off, 3)) (ht : (pc : Int) + off = (tgt : Int)) (kt : y ≤ x → Z X G A nL Q K tgt lv st) (kf : ¬ y ≤ x → Z X G A nL Q K (pc + 3) lv st) : Z X G A nL Q K pc lv (.int y :: .int x :: st) := fun f H locs ls hf hP hS hl => lv_icmp_ge C.1.1 C.1.2.1 hd ht (fun h => kt h f H locs ls hf hP hS hl) (fun h => kf h f H locs ls hf hP hS hl)
theorem Z_icmp_gt {tgt : Nat} (C : zC X G A cc nL own fr lo) {x y : Int32} {off : Int} (hd : decode cc pc = .ok (.if_icmp .gt off, 3)) (ht : (pc : Int) + off = (tgt : Int)) (kt : y < x → Z X G A nL Q K tgt lv st) (kf : ¬ y < x → Z X G A nL Q K (pc + 3) lv st) : Z X G A nL Q K pc lv (.int y :: .int x :: st) := fun f H locs ls hf hP hS hl => lv_icmp_gt C.1.1 C.1.2.1 hd ht (fun h => kt h f H locs ls hf hP hS hl) (fun h => kf h f H locs ls hf hP hS hl)
theorem Z_icmp_le {tgt : Nat} (C : zC X G A cc nL own fr lo) {x y : Int32} {off : Int} (hd : decode cc pc = .ok (.if_icmp .le off, 3)) (ht : (pc : Int) + off = (tgt : Int)) (kt : x ≤ y → Z X G A nL Q K tgt lv st) (kf : ¬ x ≤ y → Z X G A nL Q K (pc + 3) lv st) : Z X G A nL Q K pc lv (.int y :: .int x :: st) := fun f H locs ls hf hP hS hl => lv_icmp_le C.1.1 C.1.2.1 hd ht (fun h => kt h f H locs ls hf hP hS hl) (fun h => kf h f H locs ls hf hP hS hl)
theorem Z_ifnonnull (C : zC X G A cc nL own fr lo) {x : Nat} {off : Int} {tgt : Nat} (hd : decode cc pc = .ok (.ifnonnull off, 3)) (ht : (pc : Int) + off = (tgt : Int)) (k : Z X G A nL Q K (tgt) lv (st)) : Z X G A nL Q K pc lv (.ref x :: st) := fun f H locs ls hf hP hS hl => lv_ifnonnull C.1.1 C.1.2.1 hd ht (k f H locs ls hf hP hS hl)
theorem Z_ifnonnullN (C : zC X G A cc nL own fr lo) {off : Int} (hd : decode cc pc = .ok (.ifnonnull off, 3)) (k : Z X G A nL Q K (pc + 3) lv (st)) : Z X G A nL Q K pc lv (.null :: st) := fun f H locs ls hf hP hS hl => lv_ifnonnullN C.1.1 C.1.2.1 hd (k f H locs ls hf hP hS hl)
theorem Z_ifnull (C : zC X G A cc nL own fr lo) {x : Nat} {off : Int} (hd : decode cc pc = .ok (.ifnull off, 3)) (k : Z X G A nL Q K (pc + 3) lv (st)) : Z X G A nL Q K pc lv (.ref x :: st) := fun f H locs ls hf hP hS hl => lv_ifnull C.1.1 C.1.2.1 hd (k f H locs ls hf hP hS hl)
theorem Z_ifnullN (C : zC X G A cc nL own fr lo) {off : Int} {tgt : Nat} (hd : decode cc pc = .ok (.ifnull off, 3)) (ht : (pc : Int) + off = (tgt : Int)) (k : Z X G A nL Q K (tgt) lv (st)) : Z X G A nL Q K pc lv (.null :: st) := fun f H locs ls hf hP hS hl => lv_ifnullN C.1.1 C.1.2.1 hd ht (k f H locs ls hf hP hS hl)
theorem Z_ldc (C : zC X G A cc nL own fr lo) {index : Nat} {v : Int32} (hw : Cond.constant own index v ∈ zT) (hd : decode cc pc = .ok (.ldc index, 2)) (k : Z X G A nL Q K (pc + 2) lv (.int v :: st)) : Z X G A nL Q K pc lv st := fun f H locs ls hf hP hS hl => lv_ldc C.1.1 C.1.2.1 C.1.2.2.2.1 (C.1.2.2.2.2 _ hw) hd (k f H locs ls hf hP hS hl)
theorem Z_ldcw (C : zC X G A cc nL own fr lo) {index : Nat} {v : Int32} (hw : Cond.constant own index v ∈ zT) (hd : decode cc pc = .ok (.ldc_w index, 3)) (k : Z X G A nL Q K (pc + 3) lv (.int v :: st)) : Z X G A nL Q K pc lv st := fun f H locs ls hf hP hS hl => lv_ldcw C.1.1 C.1.2.1 C.1.2.2.2.1 (C.1.2.2.2.2 _ hw) hd (k f H locs ls hf hP hS hl)
theorem Z_ldc2 (C : zC X G A cc nL own fr lo) {index : Nat} {v : Int64} (hw : Cond.constantLong own index v ∈ zT) (hd : decode cc pc = .ok (.ldc2_w index, 3)) (k : Z X G A nL Q K (pc + 3) lv (.long v :: st)) : Z X G A nL Q K pc lv st := fun f H locs ls hf hP hS hl => lv_ldc2 C.1.1 C.1.2.1 C.1.2.2.2.1 (C.1.2.2.2.2 _ hw) hd (k f H locs ls hf hP hS hl)
/-- memory: the cell at a -/
theorem Z_get (C : zC X G A cc nL own fr lo) {ref CN : String} {T : u_T} {N ci index a : Nat} {fs : List Value} (k : Nat) {v : Value} (ha : a ∈ G.2.2.2) (hm : ∀ f, K f → f a = .inr (ci, fs)) (hc : G.2.1[ci]? = some (CN, T, N)) (hin : ∀ w ∈ u_ws CN T N, w ∈ zT) (hk : k < N) (hlink : Cond.fieldLink own index ref (T k).2.1 (T k).2.2.1 ∈ zT) (href : (T k).1 = ref) (hv : fs[k]? = some v) (hd : decode cc pc = .ok (.getfield index, 3)) (kk : Z X G A nL Q K (pc + 3) lv (v :: st)) : Z X G A nL Q K pc lv (.ref a :: st) := fun f H locs ls hf hP hS hl => by
  obtain ⟨q0, hq⟩ := va_pl_get (X := []) (f := f) ha
  rw [hm f hf] at hq
  exact va_get C.1.1 C.1.2.1 C.1.2.2.2.2 hin C.1.2.2.2.1 C.2.1 hP q0 hq hc k hk (C.1.2.2.2.2 _ hlink) (fun x h => by rw [← href]; exact h) hv hd (kk f H locs ls hf hP hS hl)
theorem Z_put {K' : zK} (C : zC X G A cc nL own fr lo) {ref CN : String} {T : u_T} {N ci index a : Nat} {fs : List Value} (k : Nat) {v : Value} {ty : FieldType} (ty0 : Nat → FieldType) (ha : a ∈ G.2.2.2) (hm : ∀ f, K f → f a = .inr (ci, fs)) (hc : G.2.1[ci]? = some (CN, T, N)) (hin : ∀ w ∈ u_ws CN T N, w ∈ zT) (hty : ∀ k, k < N → parseFieldDescriptor (T k).2.2.1 = some (ty0 k)) (hnm : ∀ a, a < N → ∀ b, b < N → a ≠ b → (T a).2.1 ≠ (T b).2.1) (hk : k < N) (hlink : Cond.fieldLink own index ref (T k).2.1 (T k).2.2.1 ∈ zT) (href : (T k).1 = ref) (hfin : (T k).2.2.2 = false) (hd' : parseFieldDescriptor (T k).2.2.1 = some ty) (hn : narrow ty v = v) (hfit : fits ty v = true) (hl' : k < fs.length) (hK : ∀ f, K f → K' (va_up f a (.inr (ci, fs.set k v)))) (hd : decode cc pc = .ok (.putfield index, 3)) (kk : Z X G A nL Q K' (pc + 3) lv st) : Z X G A nL Q K pc lv (v :: .ref a :: st) := fun f H locs ls hf hP hS hl => by
  obtain ⟨q0, hq⟩ := va_pl_get (X := []) (f := f) ha
  have hD : va_D A (va_pl G.2.2.2 f) := zD C.2.2.1 C.2.2.2.1
  have hq0 := hq
  rw [hm f hf] at hq
  refine va_put C.1.1 C.1.2.1 C.1.2.2.2.2 hin ty0 hty hnm C.1.2.2.2.1 C.2.1 hP hD hS q0 hq hc k hk (C.1.2.2.2.2 _ hlink) (fun x h => by rw [← href]; exact h) hfin hd' hn hfit hl' hd (fun H1 locs1 hP1 hD1 hS1 => ?_)
  have e := va_pl_set (X := []) (e := .inr (ci, fs.set k v)) hD ha hq0
  simp only [List.nil_append] at e
  rw [e] at hP1
  exact kk _ H1 locs1 ls (hK f hf) hP1 hS1 hl
theorem Z_alen (C : zC X G A cc nL own fr lo) {a t0 : Nat} {cA : ClassId} {x : vp_A} {ty : FieldType} {v : Int32} (ha : a ∈ G.2.2.2) (hm : ∀ f, K f → f a = .inl (cA, x)) (ht : G.2.2.1[t0]? = some (cA, ty)) (hv : Int32.ofNat x.1 = v) (hd : decode cc pc = .ok (.arraylength, 1)) (kk : Z X G A nL Q K (pc + 1) lv (.int v :: st)) : Z X G A nL Q K pc lv (.ref a :: st) := fun f H locs ls hf hP hS hl => by
  obtain ⟨q0, hq⟩ := va_pl_get (X := []) (f := f) ha
  rw [hm f hf] at hq
  exact va_alen C.1.1 C.1.2.1 C.2.1 hP q0 t0 hq ht hv hd (kk f H locs ls hf hP hS hl)
theorem Z_iald (C : zC X G A cc nL own fr lo) {a t0 n : Nat} {cA : ClassId} {g : Nat → Int32} {i : Int32} (ha : a ∈ G.2.2.2) (hm : ∀ f, K f → f a = .inl (cA, n, .inl g)) (ht : G.2.2.1[t0]? = some (cA, .int)) (hin : vp_in i n) (hd : decode cc pc = .ok (.iaload, 1)) (kk : Z X G A nL Q K (pc + 1) lv (.int (g i.toNatClampNeg) :: st)) : Z X G A nL Q K pc lv (.int i :: .ref a :: st) := fun f H locs ls hf hP hS hl => by
  obtain ⟨q0, hq⟩ := va_pl_get (X := []) (f := f) ha
  rw [hm f hf] at hq
  exact va_iald C.1.1 C.1.2.1 C.2.1 hP q0 t0 hq ht hin hd (kk f H locs ls hf hP hS hl)
theorem Z_iast {K' : zK} (C : zC X G A cc nL own fr lo) {a t0 n : Nat} {cA : ClassId} {g : Nat → Int32} {i x : Int32} (ha : a ∈ G.2.2.2) (hm : ∀ f, K f → f a = .inl (cA, n, .inl g)) (ht : G.2.2.1[t0]? = some (cA, .int)) (hin : vp_in i n) (hK : ∀ f, K f → K' (va_up f a (.inl (cA, n, .inl (upd g i.toNatClampNeg x))))) (hd : decode cc pc = .ok (.iastore, 1)) (kk : Z X G A nL Q K' (pc + 1) lv st) : Z X G A nL Q K pc lv (.int x :: .int i :: .ref a :: st) := fun f H locs ls hf hP hS hl => by
  obtain ⟨q0, hq⟩ := va_pl_get (X := []) (f := f) ha
  have hD : va_D A (va_pl G.2.2.2 f) := zD C.2.2.1 C.2.2.2.1
  have hq0 := hq
  rw [hm f hf] at hq
  refine va_iast C.1.1 C.1.2.1 C.2.1 hP hD hS q0 t0 hq ht hin hd (fun H1 locs1 hP1 hD1 hS1 => ?_)
  have e := va_pl_set (X := []) (e := .inl (cA, n, .inl (upd g i.toNatClampNeg x))) hD ha hq0
  simp only [List.nil_append] at e
  rw [e] at hP1
  exact kk _ H1 locs1 ls (hK f hf) hP1 hS1 hl
theorem Z_aald (C : zC X G A cc nL own fr lo) {a t0 n : Nat} {cA : ClassId} {CN : String} {g : Nat → Option Nat} {i : Int32} (ha : a ∈ G.2.2.2) (hm : ∀ f, K f → f a = .inl (cA, n, .inr (.inr (.inr (.inr g))))) (ht : G.2.2.1[t0]? = some (cA, .object CN)) (hin : vp_in i n) (hd : decode cc pc = .ok (.aaload, 1)) (kk : Z X G A nL Q K (pc + 1) lv (va_rf (g i.toNatClampNeg) :: st)) : Z X G A nL Q K pc lv (.int i :: .ref a :: st) := fun f H locs ls hf hP hS hl => by
  obtain ⟨q0, hq⟩ := va_pl_get (X := []) (f := f) ha
  rw [hm f hf] at hq
  exact va_aldq C.1.1 C.1.2.1 C.2.1 hP q0 t0 hq ht hin hd (kk f H locs ls hf hP hS hl)
end ZR
end
section
/-! CONTRACTS: functional ones (a method over one pool: these arguments, this state: this answer, that state), returns and calls -/
def zPre (G : zG) (K : zK) (U : State) : Prop := (∃ f, K f ∧ va_P G.1 G.2.1 (va_pl G.2.2.2 f) U.heap) ∧ va_K G.1 G.2.1 G.2.2.1 U
abbrev zA (G : zG) : Nat → Prop := fun q => q ∈ G.2.2.2
def zPost (G : zG) (w : Option Value) (K : zK) : Array Value → State → Outcome → State → Prop := fun _ st oc t => (oc = .returned w ∧ zPre G K t) ∧ va_F (zA G) st t
abbrev zRm (fr lo : Nat) : Room := { frames := fr, cells := 0, slots := 0, locals := lo }
abbrev zWs (y : MethodName) (cc : ByteArray) (nL : Nat) (ret : Option FieldType) : List Cond := Cond.code y cc nL ret :: zT
/-- method y (its code, locals, kind of answer) called with As where the pool holds K: it answers w, the pool holds K' -/
def zF (l : Launch) (y : MethodName) (cc : ByteArray) (nL : Nat) (ret : Option FieldType) (fr lo : Nat) (G : zG) (As : List Value) (K : zK) (w : Option Value) (K' : zK) : Prop :=
  Met l y (zWs y cc nL ret) (zRm fr lo) (va_Pc As (zPre G K)) (zPost G w K') 0 0 (zA G)
def zQ (X : zX) (G : zG) (w : Option Value) (K : zK) : State → Prop := MQ X.2.2.2.2.2.2.2.1 (zPost G w K) X.args X.s 0 0 (zA G)
abbrev zX.l (X : zX) : Launch := X.2.1
def zN (X : zX) : Prop := X.2.2.2.2.2.2.2.2.2.2.1 = 0 ∧ X.2.2.2.2.2.2.2.2.2.2.2 = 0
/-- a contract out of a walk of the body -/
theorem zF.ofZ {l : Launch} {y : MethodName} {fr lo : Nat} {G : zG} {As : List Value} {K K' : zK} {w : Option Value} {cc : ByteArray} {nL : Nat} {ret : Option FieldType}
    (hy : plainName y.cls = true) (hL : G.2.2.2.Nodup) (hE : (lg_sl As).length ≤ nL)
    (body : ∀ X : zX, X.l = l → zN X → X.meth.sig.returnType = ret → zC X G (zA G) cc nL y.cls fr lo → Z X G (zA G) nL (zQ X G w K') K 0 (lv_args 0 As) []) : zF l y cc nL ret fr lo G As K w K' := by
  refine Met.ofW (cc := cc) (maxL := nL) (ret := ret) (ws' := zT) hy rfl ?_
  intro p e s m args below meth c s₁ B hml hv
  obtain ⟨rfl, ⟨f, hf, hP⟩, hK⟩ := hv
  have hts := atoms_spec (ws := zWs y cc nL ret) B.pre
  have hown : s.vm.findClass y.cls = some m.cls := findClass_of_methodNamed B.named
  have hl := lv_entry As (n := nL) hE
  rw [lg_entry_eq]
  exact body (p, l, e, (headSpec (zWs y cc nL ret) (zRm fr lo)).room, s, m, As.toArray, below, meth, c, 0, 0) rfl ⟨rfl, rfl⟩ B.returns ⟨⟨B.exec, B.bytes, hml, hown, fun w h => hts w (List.mem_cons_of_mem _ h)⟩, hK, hL, fun q h => h, B.notSynchronized, Nat.zero_le _, Nat.zero_le _, Nat.le_refl _, Nat.le_refl _⟩ f s.heap [] _ hf hP va_S.rf hl
section ZE
variable {X : zX} {G : zG} {nL : Nat} {K K' : zK} {w : Option Value} {pc : Nat} {lv : List (Nat × Value)} {cc : ByteArray} {own : String} {fr lo : Nat}
theorem Z_iret {v : Int32} (C : zC X G (zA G) cc nL own fr lo) (hN : zN X) (hr : X.meth.sig.returnType = some .int) (hd : decode cc pc = .ok (.ireturn, 1)) (hw : w = some (.int v)) (hK : ∀ f, K f → K' f) : Z X G (zA G) nL (zQ X G w K') K pc lv [.int v] := by
  subst hw
  intro f H locs ls hf hP hS hl
  obtain ⟨p, l, e, R, s, m, args, below, meth, c, n1, n2⟩ := X
  obtain ⟨h1, h2⟩ := hN
  dsimp only at h1 h2
  subst h1; subst h2
  exact W.iret C.1.1 C.1.2.1 hr (fun t ht hW => ⟨⟨rfl, ⟨f, hK f hf, by rw [ht]; exact hP⟩, va_K.moved hW.alike C.2.1⟩, hS.F ht⟩) hS.2.2 hd C.2.2.2.2.1
theorem Z_zret {v : Int32} {ty : FieldType} (C : zC X G (zA G) cc nL own fr lo) (hN : zN X) (hr : X.meth.sig.returnType = some ty) (hn : narrow ty (.int v) = .int v) (hd : decode cc pc = .ok (.ireturn, 1)) (hw : w = some (.int v)) (hK : ∀ f, K f → K' f) : Z X G (zA G) nL (zQ X G w K') K pc lv [.int v] := by
  subst hw
  intro f H locs ls hf hP hS hl
  obtain ⟨p, l, e, R, s, m, args, below, meth, c, n1, n2⟩ := X
  obtain ⟨h1, h2⟩ := hN
  dsimp only at h1 h2
  subst h1; subst h2
  exact W.zret C.1.1 C.1.2.1 hr hn (fun t ht hW => ⟨⟨rfl, ⟨f, hK f hf, by rw [ht]; exact hP⟩, va_K.moved hW.alike C.2.1⟩, hS.F ht⟩) hS.2.2 hd C.2.2.2.2.1
theorem Z_vret (C : zC X G (zA G) cc nL own fr lo) (hN : zN X) (hr : X.meth.sig.returnType = none) (hd : decode cc pc = .ok (.return_, 1)) (hw : w = none) (hK : ∀ f, K f → K' f) : Z X G (zA G) nL (zQ X G w K') K pc lv [] := by
  subst hw
  intro f H locs ls hf hP hS hl
  obtain ⟨p, l, e, R, s, m, args, below, meth, c, n1, n2⟩ := X
  obtain ⟨h1, h2⟩ := hN
  dsimp only at h1 h2
  subst h1; subst h2
  exact W.vret C.1.1 C.1.2.1 hr (fun t ht hW => ⟨⟨rfl, ⟨f, hK f hf, by rw [ht]; exact hP⟩, va_K.moved hW.alike C.2.1⟩, hS.F ht⟩) hS.2.2 hd C.2.2.2.2.1
theorem Z_aret {v : Value} {rt : FieldType} (C : zC X G (zA G) cc nL own fr lo) (hN : zN X) (hr : X.meth.sig.returnType = some rt) (hrt : (∃ n, rt = .object n) ∨ ∃ t, rt = .array t) (hv : v = .null ∨ ∃ a, v = .ref a) (hd : decode cc pc = .ok (.areturn, 1)) (hw : w = some v) (hK : ∀ f, K f → K' f) : Z X G (zA G) nL (zQ X G w K') K pc lv [v] := by
  subst hw
  intro f H locs ls hf hP hS hl
  obtain ⟨p, l, e, R, s, m, args, below, meth, c, n1, n2⟩ := X
  obtain ⟨h1, h2⟩ := hN
  dsimp only at h1 h2
  subst h1; subst h2
  exact W.aret C.1.1 C.1.2.1 hr hrt hv (fun t ht hW => ⟨⟨rfl, ⟨f, hK f hf, by rw [ht]; exact hP⟩, va_K.moved hW.alike C.2.1⟩, hS.F ht⟩) hS.2.2 hd C.2.2.2.2.1
end ZE
section ZCl
variable {X : zX} {G : zG} {A : Nat → Prop} {nL : Nat} {Q : State → Prop} {K K' : zK} {pc : Nat} {lv : List (Nat × Value)} {st rest As : List Value} {cc bytes : ByteArray} {own : String} {fr lo fr' lo' : Nat} {y : MethodName} {w : Option Value} {n b index maxL : Nat} {ret : Option FieldType}
theorem zPre.blind : FrameBlind (va_Pc As (zPre G K)) := fun a U g mk q => by
  obtain ⟨q0, q1, qK⟩ := q
  exact ⟨q0, q1, va_K.moved (u := U) (U := U.calling g mk a) (Vm.Alike.refl U.vm) qK⟩
theorem zPre.at {f : Nat → va_E} {H : Heap} (C : zC X G A cc nL own fr lo) (hf : K f) (hP : va_P G.1 G.2.1 (va_pl G.2.2.2 f) H) : ∀ U : State, U.heap = H → X.s.WarmedH U.vm → va_Pc As (zPre G K) As.toArray U :=
  fun U hU hW => ⟨rfl, ⟨f, hf, by rw [hU]; exact hP⟩, va_K.moved hW.alike C.2.1⟩
/-- behind the run of a call: the walk goes on with the callee's answer and state -/
theorem zBack (C : zC X G A cc nL own fr lo) {H : Heap} {locs : List Loc} {ls : Array Slot} {a : Array Value} (hS : va_S A X.s.heap H locs) (hl : lv_has ls nL lv)
    (hr : va_Run X.1 X.2.1 X.2.2.1 X.2.2.2.1 X.2.2.2.2.1 X.2.2.2.2.2.1 X.2.2.2.2.2.2.1 X.2.2.2.2.2.2.2.1 X.2.2.2.2.2.2.2.2.1 X.2.2.2.2.2.2.2.2.2.1 H locs X.2.2.2.2.2.2.2.2.2.2.1 X.2.2.2.2.2.2.2.2.2.2.2 0 0 (F0 X.m pc ls st) rest (zPost G w K' a) (zA G))
    (k : Z X G A nL Q K' (pc + 3) lv (w.toList ++ rest)) : zW X H locs Q (F0 X.m pc ls st) := by
  intro T hT XX
  obtain ⟨v, st₀, t, T', L, h0, X', hL, e1, e2, ⟨⟨hv, ⟨f', hf', hP'⟩, hK'⟩, hz, hk⟩, stp⟩ := hr T hT XX
  cases hv
  rw [h0] at hz hk
  have hS' : va_S A X.s.heap T'.heap (locs ++ L) := ⟨Nat.le_trans hS.1 (by rw [e1]; exact hz), fun q h1 h2 => by
      rw [e1, hk q (Nat.lt_of_lt_of_le h1 hS.1) (fun z => h2 (C.2.2.2.1 q z))]; exact hS.2.1 q h1 h2, fun q hq => by
      rcases List.mem_append.mp hq with h | h
      · exact hS.2.2 q h
      · exact C.2.2.2.1 _ (hL q h)⟩
  obtain ⟨t2, a1, b1⟩ := k f' T'.heap (locs ++ L) ls hf' (by rw [e1]; exact hP') hS' hl T' rfl X'
  exact ⟨t2, stp t2 a1, b1⟩
/-- what a call's words are, of an instance method; of a static one -/
def zMi (y : MethodName) (bytes : ByteArray) (maxL : Nat) (ret : Option FieldType) (n : Nat) : Prop :=
  Cond.instanceMethod y ∈ zT ∧ Cond.selects y.cls y y ∈ zT ∧ Cond.initialized y.cls ∈ zT ∧ Cond.code y bytes maxL ret ∈ zT ∧ (y.cls ≠ "java/lang/invoke/MethodHandle" ∧ y.cls ≠ "java/lang/invoke/VarHandle") ∧ (parseMethodDescriptor y.desc).map (fun d => d.parameters.length) = some n
def zMs (y : MethodName) (bytes : ByteArray) (maxL : Nat) (ret : Option FieldType) (n : Nat) : Prop :=
  Cond.static y ∈ zT ∧ Cond.initialized y.cls ∈ zT ∧ Cond.code y bytes maxL ret ∈ zT ∧ (y.cls ≠ "java/lang/invoke/MethodHandle" ∧ y.cls ≠ "java/lang/invoke/VarHandle") ∧ (parseMethodDescriptor y.desc).map (fun d => d.parameters.length) = some n
theorem zCB (C : zC X G A cc nL own fr lo) (hini : Cond.initialized y.cls ∈ zT) (hc : Cond.code y bytes maxL ret ∈ zT) (hy : y.cls ≠ "java/lang/invoke/MethodHandle" ∧ y.cls ≠ "java/lang/invoke/VarHandle") (hn : (parseMethodDescriptor y.desc).map (fun d => d.parameters.length) = some n) (hl : Cond.methodLink own index y ∈ zT) (hle : fr' + 1 ≤ fr ∧ 19 + maxL + lo' ≤ lo) :
    CallB X.R X.s X.args own index y bytes maxL ret (zWs y bytes maxL ret) (zRm fr' lo') 0 0 n := by
  have hts := C.1.2.2.2.2
  have good : ∀ w ∈ zWs y bytes maxL ret, w ∈ zT ∧ ((w.onTables && w.keeps) = true ∨ ∃ ty, w = .arrayClass ty) := by
    intro w hw
    have h1 : w ∈ zT := by
      rcases List.mem_cons.mp hw with h | h
      · rw [h]; exact hc
      · exact h
    exact ⟨h1, good_of_word (List.mem_filter.mp h1).2⟩
  have e1 := C.2.2.2.2.2.2.2.1
  have e2 := C.2.2.2.2.2.2.2.2
  refine ⟨rfl, rfl, ?_, ?_, pay_in hts good, List.mem_cons_self, hts _ hc, hts _ hini, hy, fun sig h => ?_, hts _ hl⟩
  · show fr' + 1 ≤ _; omega
  · show 8 + (maxL + 11) + lo' ≤ _; omega
  · rw [h] at hn
    exact (Option.some.inj hn).symm
theorem Z_callV (C : zC X G A cc nL own fr lo) (mi : zMi y bytes maxL ret n) (hlk : Cond.methodLink own index y ∈ zT) (hM : zF X.l y bytes maxL ret fr' lo' G (.ref b :: As) K w K') (hle : fr' + 1 ≤ fr ∧ 19 + maxL + lo' ≤ lo)
    {ci N : Nat} {T : u_T} {fs : List Value} (hb : b ∈ G.2.2.2) (hm : ∀ f, K f → f b = .inr (ci, fs)) (hcl : G.2.1[ci]? = some (y.cls, T, N)) (hn : As.length = n) (hst : st = As.reverse ++ .ref b :: rest) (hrm : (rest.map fun v => v.category).sum ≤ 8) (hd : decode cc pc = .ok (.invokevirtual index, 3))
    (k : Z X G A nL Q K' (pc + 3) lv (w.toList ++ rest)) : Z X G A nL Q K pc lv st := by
  intro f H locs ls hf hP hS hl
  obtain ⟨q0, hq⟩ := va_pl_get (X := []) (f := f) hb
  rw [hm f hf] at hq
  have hcw := zCB C mi.2.2.1 mi.2.2.2.1 mi.2.2.2.2.1 mi.2.2.2.2.2 hlk hle
  exact zBack C hS hl (va_runV (As := As) (rest := rest) C.1 hM ⟨hcw, C.1.2.2.2.2 _ mi.1, C.1.2.2.2.2 _ mi.2.1⟩ ⟨zPre.blind, va_recv C.2.1 hP hcl hq, zPre.at C hf hP⟩ rfl hn hl.1 hst (lv_room hrm) hd ⟨C.2.2.2.2.2.1, C.2.2.2.2.2.2.1⟩) k
theorem Z_callS (C : zC X G A cc nL own fr lo) (mi : zMs y bytes maxL ret n) (hlk : Cond.methodLink own index y ∈ zT) (hM : zF X.l y bytes maxL ret fr' lo' G As K w K') (hle : fr' + 1 ≤ fr ∧ 19 + maxL + lo' ≤ lo)
    (hn : As.length = n) (hst : st = As.reverse ++ rest) (hrm : (rest.map fun v => v.category).sum ≤ 8) (hd : decode cc pc = .ok (.invokestatic index, 3))
    (k : Z X G A nL Q K' (pc + 3) lv (w.toList ++ rest)) : Z X G A nL Q K pc lv st := by
  intro f H locs ls hf hP hS hl
  have hcw := zCB C mi.2.1 mi.2.2.1 mi.2.2.2.1 mi.2.2.2.2 hlk hle
  exact zBack C hS hl (va_runS (As := As) (rest := rest) C.1 hM ⟨hcw, C.1.2.2.2.2 _ mi.1⟩ ⟨zPre.blind, zPre.at C hf hP⟩ rfl hn hl.1 hst (lv_room hrm) hd ⟨C.2.2.2.2.2.1, C.2.2.2.2.2.2.1⟩) k
theorem Z_mmax {x y : Int32} (C : zC X G A cc nL own fr lo) (hlk : Cond.methodLink own index Lib.Math.max.name ∈ zT) (h1 : Cond.static Lib.Math.max.name ∈ zT) (h2 : Cond.initialized "java/lang/Math" ∈ zT) (h3 : Cond.code Lib.Math.max.name Lib.Math.max.code 2 (some .int) ∈ zT) (hle : 1 ≤ fr ∧ (rest.map fun v => v.category).sum + 13 ≤ lo) (hd : decode cc pc = .ok (.invokestatic index, 3))
    (k : Z X G A nL Q K (pc + 3) lv (.int (if x < y then y else x) :: rest)) : Z X G A nL Q K pc lv (.int y :: .int x :: rest) := fun f H locs ls hf hP hS hl =>
  va_mmax C.1.1 C.1.2.1 (by rw [hl.1]; exact C.1.2.2.1) C.1.2.2.2.1 (C.1.2.2.2.2 _ hlk) (C.1.2.2.2.2 _ h1) (C.1.2.2.2.2 _ h2) (C.1.2.2.2.2 _ h3) (Nat.le_trans hle.1 C.2.2.2.2.2.2.2.1) (Nat.le_trans hle.2 C.2.2.2.2.2.2.2.2) C.2.2.2.2.2.1 C.2.2.2.2.2.2.1 hd (k f H locs ls hf hP hS hl)
theorem Z_mmin {x y : Int32} (C : zC X G A cc nL own fr lo) (hlk : Cond.methodLink own index Lib.Math.min.name ∈ zT) (h1 : Cond.static Lib.Math.min.name ∈ zT) (h2 : Cond.initialized "java/lang/Math" ∈ zT) (h3 : Cond.code Lib.Math.min.name Lib.Math.min.code 2 (some .int) ∈ zT) (hle : 1 ≤ fr ∧ (rest.map fun v => v.category).sum + 13 ≤ lo) (hd : decode cc pc = .ok (.invokestatic index, 3))
    (k : Z X G A nL Q K (pc + 3) lv (.int (if y < x then y else x) :: rest)) : Z X G A nL Q K pc lv (.int y :: .int x :: rest) := fun f H locs ls hf hP hS hl =>
  va_mmin C.1.1 C.1.2.1 (by rw [hl.1]; exact C.1.2.2.1) C.1.2.2.2.1 (C.1.2.2.2.2 _ hlk) (C.1.2.2.2.2 _ h1) (C.1.2.2.2.2 _ h2) (C.1.2.2.2.2 _ h3) (Nat.le_trans hle.1 C.2.2.2.2.2.2.2.1) (Nat.le_trans hle.2 C.2.2.2.2.2.2.2.2) C.2.2.2.2.2.1 C.2.2.2.2.2.2.1 hd (k f H locs ls hf hP hS hl)
end ZCl
end
section
def RX0 : String := "StandInLan$Frame"
def TX0 : u_T := fun k => match k with
  | 0 => ("StandInLan$Frame", "bytes", "[I", true)
  | 1 => ("StandInLan$Frame", "length", "I", false)
  | 2 => ("StandInLan$Frame", "kind", "I", false)
  | 3 => ("StandInLan$Frame", "from", "I", false)
  | 4 => ("StandInLan$Frame", "to", "I", false)
  | 5 => ("StandInLan$Frame", "address", "I", false)
  | 6 => ("StandInLan$Frame", "hops", "I", false)
  | 7 => ("StandInLan$Frame", "ports", "I", false)
  | _ => ("StandInLan$Frame", "due", "I", false)
def tyX0 : Nat → FieldType := fun k => match k with
  | 0 => .array .int
  | 1 => .int
  | 2 => .int
  | 3 => .int
  | 4 => .int
  | 5 => .int
  | 6 => .int
  | 7 => .int
  | _ => .int
abbrev wsX00 : List Cond := u_ws RX0 TX0 9
theorem nmX0 : ∀ a, a < 9 → ∀ b, b < 9 → a ≠ b → (TX0 a).2.1 ≠ (TX0 b).2.1 := by decide +kernel
theorem tyX0_ok : ∀ k, k < 9 → parseFieldDescriptor (TX0 k).2.2.1 = some (tyX0 k) := by decide +kernel
def RX1 : String := "StandInLan$Router"
def TX1 : u_T := fun k => match k with
  | 0 => ("StandInLan$Router", "number", "I", true)
  | 1 => ("StandInLan$Router", "wire", "LStandInLan$Wire;", true)
  | 2 => ("StandInLan$Router", "settings", "[I", true)
  | 3 => ("StandInLan$Router", "sessions", "[LStandInLan$Session;", true)
  | 4 => ("StandInLan$Router", "state", "I", false)
  | 5 => ("StandInLan$Router", "timer", "I", false)
  | 6 => ("StandInLan$Router", "known", "I", false)
  | 7 => ("StandInLan$Router", "timesActive", "I", false)
  | 8 => ("StandInLan$Router", "taken", "I", false)
  | 9 => ("StandInLan$Router", "sent", "I", false)
  | _ => ("StandInLan$Router", "noted", "I", false)
def tyX1 : Nat → FieldType := fun k => match k with
  | 0 => .int
  | 1 => .object "StandInLan$Wire"
  | 2 => .array .int
  | 3 => .array (.object "StandInLan$Session")
  | 4 => .int
  | 5 => .int
  | 6 => .int
  | 7 => .int
  | 8 => .int
  | 9 => .int
  | _ => .int
abbrev wsX10 : List Cond := u_ws RX1 TX1 11
theorem nmX1 : ∀ a, a < 11 → ∀ b, b < 11 → a ≠ b → (TX1 a).2.1 ≠ (TX1 b).2.1 := by decide +kernel
theorem tyX1_ok : ∀ k, k < 11 → parseFieldDescriptor (TX1 k).2.2.1 = some (tyX1 k) := by decide +kernel
def RX2 : String := "StandInLan$Session"
def TX2 : u_T := fun k => match k with
  | 0 => ("StandInLan$Session", "number", "I", true)
  | 1 => ("StandInLan$Session", "other", "I", true)
  | 2 => ("StandInLan$Session", "exists", "Z", false)
  | 3 => ("StandInLan$Session", "state", "I", false)
  | 4 => ("StandInLan$Session", "remoteState", "I", false)
  | 5 => ("StandInLan$Session", "remoteNumber", "I", false)
  | 6 => ("StandInLan$Session", "diagnosis", "I", false)
  | 7 => ("StandInLan$Session", "tx", "I", false)
  | 8 => ("StandInLan$Session", "rx", "I", false)
  | 9 => ("StandInLan$Session", "multiplier", "I", false)
  | 10 => ("StandInLan$Session", "itsRx", "I", false)
  | 11 => ("StandInLan$Session", "itsTx", "I", false)
  | 12 => ("StandInLan$Session", "itsMultiplier", "I", false)
  | 13 => ("StandInLan$Session", "polls", "Z", false)
  | 14 => ("StandInLan$Session", "txInUse", "I", false)
  | 15 => ("StandInLan$Session", "rxInUse", "I", false)
  | 16 => ("StandInLan$Session", "sendTimer", "I", false)
  | 17 => ("StandInLan$Session", "detectTimer", "I", false)
  | _ => ("StandInLan$Session", "timesUp", "I", false)
def tyX2 : Nat → FieldType := fun k => match k with
  | 0 => .int
  | 1 => .int
  | 2 => .boolean
  | 3 => .int
  | 4 => .int
  | 5 => .int
  | 6 => .int
  | 7 => .int
  | 8 => .int
  | 9 => .int
  | 10 => .int
  | 11 => .int
  | 12 => .int
  | 13 => .boolean
  | 14 => .int
  | 15 => .int
  | 16 => .int
  | 17 => .int
  | _ => .int
abbrev wsX20 : List Cond := u_ws RX2 TX2 19
theorem nmX2 : ∀ a, a < 19 → ∀ b, b < 19 → a ≠ b → (TX2 a).2.1 ≠ (TX2 b).2.1 := by decide +kernel
theorem tyX2_ok : ∀ k, k < 19 → parseFieldDescriptor (TX2 k).2.2.1 = some (tyX2 k) := by decide +kernel
def RX3 : String := "StandInLan$Wire"
def TX3 : u_T := fun k => match k with
  | 0 => ("StandInLan$Wire", "places", "[I", true)
  | 1 => ("StandInLan$Wire", "way", "[LStandInLan$Frame;", true)
  | 2 => ("StandInLan$Wire", "count", "I", false)
  | 3 => ("StandInLan$Wire", "clock", "I", false)
  | 4 => ("StandInLan$Wire", "draft", "LStandInLan$Frame;", false)
  | _ => ("StandInLan$Wire", "taken", "LStandInLan$Frame;", false)
def tyX3 : Nat → FieldType := fun k => match k with
  | 0 => .array .int
  | 1 => .array (.object "StandInLan$Frame")
  | 2 => .int
  | 3 => .int
  | 4 => .object "StandInLan$Frame"
  | _ => .object "StandInLan$Frame"
abbrev wsX30 : List Cond := u_ws RX3 TX3 6
theorem nmX3 : ∀ a, a < 6 → ∀ b, b < 6 → a ≠ b → (TX3 a).2.1 ≠ (TX3 b).2.1 := by decide +kernel
theorem tyX3_ok : ∀ k, k < 6 → parseFieldDescriptor (TX3 k).2.2.1 = some (tyX3 k) := by decide +kernel
def RX4 : String := "StandInLan"
def TX4 : u_T := fun k => match k with
  | 0 => ("StandInLan", "wire", "LStandInLan$Wire;", true)
  | 1 => ("StandInLan", "routers", "[LStandInLan$Router;", true)
  | _ => ("StandInLan", "tape", "LStandInLan$Frame;", true)
def tyX4 : Nat → FieldType := fun k => match k with
  | 0 => .object "StandInLan$Wire"
  | 1 => .array (.object "StandInLan$Router")
  | _ => .object "StandInLan$Frame"
abbrev wsX40 : List Cond := u_ws RX4 TX4 3
theorem nmX4 : ∀ a, a < 3 → ∀ b, b < 3 → a ≠ b → (TX4 a).2.1 ≠ (TX4 b).2.1 := by decide +kernel
theorem tyX4_ok : ∀ k, k < 3 → parseFieldDescriptor (TX4 k).2.2.1 = some (tyX4 k) := by decide +kernel
def RX5 : String := "StandInLanModel"
def TX5 : u_T := fun k => match k with
  | _ => ("", "", "", false)
def tyX5 : Nat → FieldType := fun k => match k with
  | _ => .int
abbrev wsX50 : List Cond := u_ws RX5 TX5 0
theorem nmX5 : ∀ a, a < 0 → ∀ b, b < 0 → a ≠ b → (TX5 a).2.1 ≠ (TX5 b).2.1 := by decide +kernel
theorem tyX5_ok : ∀ k, k < 0 → parseFieldDescriptor (TX5 k).2.2.1 = some (tyX5 k) := by decide +kernel

def RXL : String := "StandInLanLaw"
abbrev b_L_init : ByteArray := prog_1_method_1_code
def y_L_init : MethodName := ⟨RX4, "<init>", "()V"⟩
abbrev b_L_set : ByteArray := prog_1_method_2_code
def y_L_set : MethodName := ⟨RX4, "set", "(III)V"⟩
abbrev b_L_start : ByteArray := prog_1_method_3_code
def y_L_start : MethodName := ⟨RX4, "start", "(I)V"⟩
abbrev b_L_stop : ByteArray := prog_1_method_4_code
def y_L_stop : MethodName := ⟨RX4, "stop", "(IZ)V"⟩
abbrev b_L_open : ByteArray := prog_1_method_5_code
def y_L_open : MethodName := ⟨RX4, "open", "(IIIII)V"⟩
abbrev b_L_change : ByteArray := prog_1_method_6_code
def y_L_change : MethodName := ⟨RX4, "change", "(IIII)V"⟩
abbrev b_L_ask : ByteArray := prog_1_method_7_code
def y_L_ask : MethodName := ⟨RX4, "ask", "(I)V"⟩
abbrev b_L_tick : ByteArray := prog_1_method_8_code
def y_L_tick : MethodName := ⟨RX4, "tick", "(I)I"⟩
abbrev b_L_type : ByteArray := prog_1_method_9_code
def y_L_type : MethodName := ⟨RX4, "type", "(JI)Z"⟩
abbrev b_L_arrive : ByteArray := prog_1_method_10_code
def y_L_arrive : MethodName := ⟨RX4, "arrive", "(IIIII)Z"⟩
abbrev b_L_router : ByteArray := prog_1_method_11_code
def y_L_router : MethodName := ⟨RX4, "router", "(II)I"⟩
abbrev b_L_session : ByteArray := prog_1_method_12_code
def y_L_session : MethodName := ⟨RX4, "session", "(III)I"⟩
abbrev b_L_port : ByteArray := prog_1_method_13_code
def y_L_port : MethodName := ⟨RX4, "port", "(I)I"⟩
abbrev b_L_flying : ByteArray := prog_1_method_14_code
def y_L_flying : MethodName := ⟨RX4, "flying", "()I"⟩
abbrev b_L_frame : ByteArray := prog_1_method_15_code
def y_L_frame : MethodName := ⟨RX4, "frame", "(II)I"⟩
abbrev b_L_isRouter : ByteArray := prog_1_method_16_code
def y_L_isRouter : MethodName := ⟨RX4, "isRouter", "(I)Z"⟩
abbrev b_L_isRate : ByteArray := prog_1_method_17_code
def y_L_isRate : MethodName := ⟨RX4, "isRate", "(I)Z"⟩
abbrev b_L_handOut : ByteArray := prog_1_method_18_code
def y_L_handOut : MethodName := ⟨RX4, "handOut", "(LStandInLan$Frame;)V"⟩
abbrev b_M_init : ByteArray := prog_7_method_1_code
def y_M_init : MethodName := ⟨RX5, "<init>", "()V"⟩
abbrev b_M_thrown : ByteArray := prog_7_method_2_code
def y_M_thrown : MethodName := ⟨RX5, "thrown", "()I"⟩
abbrev b_M_raise : ByteArray := prog_7_method_3_code
def y_M_raise : MethodName := ⟨RX5, "raise", "(I)Z"⟩
abbrev b_M_isRouter : ByteArray := prog_7_method_4_code
def y_M_isRouter : MethodName := ⟨RX5, "isRouter", "(I)Z"⟩
abbrev b_M_is : ByteArray := prog_7_method_5_code
def y_M_is : MethodName := ⟨RX5, "is", "(II)I"⟩
abbrev b_M_fits : ByteArray := prog_7_method_6_code
def y_M_fits : MethodName := ⟨RX5, "fits", "(II)Z"⟩
abbrev b_M_set : ByteArray := prog_7_method_7_code
def y_M_set : MethodName := ⟨RX5, "set", "(III)V"⟩
abbrev b_M_put : ByteArray := prog_7_method_8_code
def y_M_put : MethodName := ⟨RX5, "put", "(I)V"⟩
abbrev b_M_putMany : ByteArray := prog_7_method_9_code
def y_M_putMany : MethodName := ⟨RX5, "putMany", "(II)V"⟩
abbrev b_M_send : ByteArray := prog_7_method_10_code
def y_M_send : MethodName := ⟨RX5, "send", "(IIII)V"⟩
abbrev b_M_forget : ByteArray := prog_7_method_11_code
def y_M_forget : MethodName := ⟨RX5, "forget", "(I)V"⟩
abbrev b_M_weighed : ByteArray := prog_7_method_12_code
def y_M_weighed : MethodName := ⟨RX5, "weighed", "(I)I"⟩
abbrev b_M_max : ByteArray := prog_7_method_13_code
def y_M_max : MethodName := ⟨RX5, "max", "(II)I"⟩
abbrev b_M_atLeastOne : ByteArray := prog_7_method_14_code
def y_M_atLeastOne : MethodName := ⟨RX5, "atLeastOne", "(I)I"⟩
abbrev b_M_skew : ByteArray := prog_7_method_15_code
def y_M_skew : MethodName := ⟨RX5, "skew", "(I)I"⟩
abbrev b_M_fold : ByteArray := prog_7_method_16_code
def y_M_fold : MethodName := ⟨RX5, "fold", "(I)I"⟩
abbrev b_M_sum : ByteArray := prog_7_method_17_code
def y_M_sum : MethodName := ⟨RX5, "sum", "([II)I"⟩
abbrev b_M_advertise : ByteArray := prog_7_method_18_code
def y_M_advertise : MethodName := ⟨RX5, "advertise", "(II)V"⟩
abbrev b_M_beActive : ByteArray := prog_7_method_19_code
def y_M_beActive : MethodName := ⟨RX5, "beActive", "(I)V"⟩
abbrev b_M_beBackup : ByteArray := prog_7_method_20_code
def y_M_beBackup : MethodName := ⟨RX5, "beBackup", "(I)V"⟩
abbrev b_M_start : ByteArray := prog_7_method_21_code
def y_M_start : MethodName := ⟨RX5, "start", "(I)V"⟩
abbrev b_M_stop : ByteArray := prog_7_method_22_code
def y_M_stop : MethodName := ⟨RX5, "stop", "(IZ)V"⟩
abbrev b_M_timerFires : ByteArray := prog_7_method_23_code
def y_M_timerFires : MethodName := ⟨RX5, "timerFires", "(I)V"⟩
abbrev b_M_told : ByteArray := prog_7_method_24_code
def y_M_told : MethodName := ⟨RX5, "told", "(II)J"⟩
abbrev b_M_advertised : ByteArray := prog_7_method_25_code
def y_M_advertised : MethodName := ⟨RX5, "advertised", "(III)Z"⟩
abbrev b_M_ask : ByteArray := prog_7_method_26_code
def y_M_ask : MethodName := ⟨RX5, "ask", "(I)V"⟩
abbrev b_M_sendTime : ByteArray := prog_7_method_27_code
def y_M_sendTime : MethodName := ⟨RX5, "sendTime", "(I)I"⟩
abbrev b_M_setSend : ByteArray := prog_7_method_28_code
def y_M_setSend : MethodName := ⟨RX5, "setSend", "(I)V"⟩
abbrev b_M_hurry : ByteArray := prog_7_method_29_code
def y_M_hurry : MethodName := ⟨RX5, "hurry", "(I)V"⟩
abbrev b_M_sendPacket : ByteArray := prog_7_method_30_code
def y_M_sendPacket : MethodName := ⟨RX5, "sendPacket", "(III)V"⟩
abbrev b_M_open : ByteArray := prog_7_method_31_code
def y_M_open : MethodName := ⟨RX5, "open", "(IIIII)V"⟩
abbrev b_M_change : ByteArray := prog_7_method_32_code
def y_M_change : MethodName := ⟨RX5, "change", "(IIII)V"⟩
abbrev b_M_meant : ByteArray := prog_7_method_33_code
def y_M_meant : MethodName := ⟨RX5, "meant", "(II)I"⟩
abbrev b_M_capped : ByteArray := prog_7_method_34_code
def y_M_capped : MethodName := ⟨RX5, "capped", "(J)I"⟩
abbrev b_M_goDown : ByteArray := prog_7_method_35_code
def y_M_goDown : MethodName := ⟨RX5, "goDown", "(II)V"⟩
abbrev b_M_goUp : ByteArray := prog_7_method_36_code
def y_M_goUp : MethodName := ⟨RX5, "goUp", "(I)V"⟩
abbrev b_M_turn : ByteArray := prog_7_method_37_code
def y_M_turn : MethodName := ⟨RX5, "turn", "(II)V"⟩
abbrev b_M_packeted : ByteArray := prog_7_method_38_code
def y_M_packeted : MethodName := ⟨RX5, "packeted", "(III)Z"⟩
abbrev b_M_detectFires : ByteArray := prog_7_method_39_code
def y_M_detectFires : MethodName := ⟨RX5, "detectFires", "(I)V"⟩
abbrev b_M_reach : ByteArray := prog_7_method_40_code
def y_M_reach : MethodName := ⟨RX5, "reach", "(IIIII)V"⟩
abbrev b_M_arriveAll : ByteArray := prog_7_method_41_code
def y_M_arriveAll : MethodName := ⟨RX5, "arriveAll", "()V"⟩
abbrev b_M_work : ByteArray := prog_7_method_42_code
def y_M_work : MethodName := ⟨RX5, "work", "(I)V"⟩
abbrev b_M_tick : ByteArray := prog_7_method_43_code
def y_M_tick : MethodName := ⟨RX5, "tick", "(I)I"⟩
abbrev b_M_type : ByteArray := prog_7_method_44_code
def y_M_type : MethodName := ⟨RX5, "type", "(JI)Z"⟩
abbrev b_M_arrive : ByteArray := prog_7_method_45_code
def y_M_arrive : MethodName := ⟨RX5, "arrive", "(IIIII)Z"⟩
abbrev b_M_router : ByteArray := prog_7_method_46_code
def y_M_router : MethodName := ⟨RX5, "router", "(II)I"⟩
abbrev b_M_session : ByteArray := prog_7_method_47_code
def y_M_session : MethodName := ⟨RX5, "session", "(III)I"⟩
abbrev b_M_port : ByteArray := prog_7_method_48_code
def y_M_port : MethodName := ⟨RX5, "port", "(I)I"⟩
abbrev b_M_flying : ByteArray := prog_7_method_49_code
def y_M_flying : MethodName := ⟨RX5, "flying", "()I"⟩
abbrev b_M_frame : ByteArray := prog_7_method_50_code
def y_M_frame : MethodName := ⟨RX5, "frame", "(II)I"⟩
abbrev b_F_init : ByteArray := prog_2_method_1_code
def y_F_init : MethodName := ⟨RX0, "<init>", "()V"⟩
abbrev b_F_put : ByteArray := prog_2_method_2_code
def y_F_put : MethodName := ⟨RX0, "put", "(I)V"⟩
abbrev b_F_putTwo : ByteArray := prog_2_method_3_code
def y_F_putTwo : MethodName := ⟨RX0, "putTwo", "(I)V"⟩
abbrev b_F_putFour : ByteArray := prog_2_method_4_code
def y_F_putFour : MethodName := ⟨RX0, "putFour", "(I)V"⟩
abbrev b_F_byteAt : ByteArray := prog_2_method_5_code
def y_F_byteAt : MethodName := ⟨RX0, "byteAt", "(I)I"⟩
abbrev b_F_twoAt : ByteArray := prog_2_method_6_code
def y_F_twoAt : MethodName := ⟨RX0, "twoAt", "(I)I"⟩
abbrev b_F_fourAt : ByteArray := prog_2_method_7_code
def y_F_fourAt : MethodName := ⟨RX0, "fourAt", "(I)I"⟩
abbrev b_F_sum : ByteArray := prog_2_method_8_code
def y_F_sum : MethodName := ⟨RX0, "sum", "()I"⟩
abbrev b_F_putCheckAt : ByteArray := prog_2_method_9_code
def y_F_putCheckAt : MethodName := ⟨RX0, "putCheckAt", "(I)V"⟩
abbrev b_R_init : ByteArray := prog_3_method_1_code
def y_R_init : MethodName := ⟨RX1, "<init>", "(ILStandInLan$Wire;)V"⟩
abbrev b_R_tell : ByteArray := prog_3_method_2_code
def y_R_tell : MethodName := ⟨RX1, "tell", "(I)I"⟩
abbrev b_R_wake : ByteArray := prog_3_method_3_code
def y_R_wake : MethodName := ⟨RX1, "wake", "()V"⟩
abbrev b_R_sayGoodbye : ByteArray := prog_3_method_4_code
def y_R_sayGoodbye : MethodName := ⟨RX1, "sayGoodbye", "()V"⟩
abbrev b_R_forgetAll : ByteArray := prog_3_method_5_code
def y_R_forgetAll : MethodName := ⟨RX1, "forgetAll", "()V"⟩
abbrev b_R_weighed : ByteArray := prog_3_method_6_code
def y_R_weighed : MethodName := ⟨RX1, "weighed", "()I"⟩
abbrev b_R_skew : ByteArray := prog_3_method_7_code
def y_R_skew : MethodName := ⟨RX1, "skew", "()I"⟩
abbrev b_R_becomeActive : ByteArray := prog_3_method_8_code
def y_R_becomeActive : MethodName := ⟨RX1, "becomeActive", "()V"⟩
abbrev b_R_becomeBackup : ByteArray := prog_3_method_9_code
def y_R_becomeBackup : MethodName := ⟨RX1, "becomeBackup", "()V"⟩
abbrev b_R_advertise : ByteArray := prog_3_method_10_code
def y_R_advertise : MethodName := ⟨RX1, "advertise", "(I)V"⟩
abbrev b_R_sendEmpty : ByteArray := prog_3_method_11_code
def y_R_sendEmpty : MethodName := ⟨RX1, "sendEmpty", "(III)V"⟩
abbrev b_R_sendPacket : ByteArray := prog_3_method_12_code
def y_R_sendPacket : MethodName := ⟨RX1, "sendPacket", "(LStandInLan$Session;I)V"⟩
abbrev b_R_sendDraft : ByteArray := prog_3_method_13_code
def y_R_sendDraft : MethodName := ⟨RX1, "sendDraft", "()V"⟩
abbrev b_R_minds : ByteArray := prog_3_method_14_code
def y_R_minds : MethodName := ⟨RX1, "minds", "(LStandInLan$Frame;)Z"⟩
abbrev b_R_hear : ByteArray := prog_3_method_15_code
def y_R_hear : MethodName := ⟨RX1, "hear", "(LStandInLan$Frame;)Z"⟩
abbrev b_R_isForUs : ByteArray := prog_3_method_16_code
def y_R_isForUs : MethodName := ⟨RX1, "isForUs", "(LStandInLan$Frame;)Z"⟩
abbrev b_R_hearAsBackup : ByteArray := prog_3_method_17_code
def y_R_hearAsBackup : MethodName := ⟨RX1, "hearAsBackup", "(LStandInLan$Frame;)V"⟩
abbrev b_R_hearAsActive : ByteArray := prog_3_method_18_code
def y_R_hearAsActive : MethodName := ⟨RX1, "hearAsActive", "(LStandInLan$Frame;)V"⟩
abbrev b_R_intervalIn : ByteArray := prog_3_method_19_code
def y_R_intervalIn : MethodName := ⟨RX1, "intervalIn", "(LStandInLan$Frame;)I"⟩
abbrev b_R_isAbove : ByteArray := prog_3_method_20_code
def y_R_isAbove : MethodName := ⟨RX1, "isAbove", "(II)Z"⟩
abbrev b_R_hearPacket : ByteArray := prog_3_method_21_code
def y_R_hearPacket : MethodName := ⟨RX1, "hearPacket", "(LStandInLan$Frame;)Z"⟩
abbrev b_R_isWhole : ByteArray := prog_3_method_22_code
def y_R_isWhole : MethodName := ⟨RX1, "isWhole", "(LStandInLan$Frame;)Z"⟩
abbrev b_R_sessionMeant : ByteArray := prog_3_method_23_code
def y_R_sessionMeant : MethodName := ⟨RX1, "sessionMeant", "(LStandInLan$Frame;)LStandInLan$Session;"⟩
abbrev b_R_runTimers : ByteArray := prog_3_method_24_code
def y_R_runTimers : MethodName := ⟨RX1, "runTimers", "()V"⟩
abbrev b_R_timerFires : ByteArray := prog_3_method_25_code
def y_R_timerFires : MethodName := ⟨RX1, "timerFires", "()V"⟩
abbrev b_R_runSession : ByteArray := prog_3_method_26_code
def y_R_runSession : MethodName := ⟨RX1, "runSession", "(LStandInLan$Session;)V"⟩
abbrev b_S_init : ByteArray := prog_4_method_1_code
def y_S_init : MethodName := ⟨RX2, "<init>", "(II)V"⟩
abbrev b_S_begin : ByteArray := prog_4_method_2_code
def y_S_begin : MethodName := ⟨RX2, "begin", "(III)V"⟩
abbrev b_S_wantRates : ByteArray := prog_4_method_3_code
def y_S_wantRates : MethodName := ⟨RX2, "wantRates", "(II)V"⟩
abbrev b_S_shut : ByteArray := prog_4_method_4_code
def y_S_shut : MethodName := ⟨RX2, "shut", "()V"⟩
abbrev b_S_useRates : ByteArray := prog_4_method_5_code
def y_S_useRates : MethodName := ⟨RX2, "useRates", "()V"⟩
abbrev b_S_slowed : ByteArray := prog_4_method_6_code
def y_S_slowed : MethodName := ⟨RX2, "slowed", "(I)I"⟩
abbrev b_S_sendPause : ByteArray := prog_4_method_7_code
def y_S_sendPause : MethodName := ⟨RX2, "sendPause", "()I"⟩
abbrev b_S_hurrySend : ByteArray := prog_4_method_8_code
def y_S_hurrySend : MethodName := ⟨RX2, "hurrySend", "()V"⟩
abbrev b_S_learn : ByteArray := prog_4_method_9_code
def y_S_learn : MethodName := ⟨RX2, "learn", "(LStandInLan$Frame;)Z"⟩
abbrev b_S_told : ByteArray := prog_4_method_10_code
def y_S_told : MethodName := ⟨RX2, "told", "(I)I"⟩
abbrev b_S_follow : ByteArray := prog_4_method_11_code
def y_S_follow : MethodName := ⟨RX2, "follow", "()V"⟩
abbrev b_S_comeUp : ByteArray := prog_4_method_12_code
def y_S_comeUp : MethodName := ⟨RX2, "comeUp", "()V"⟩
abbrev b_S_fall : ByteArray := prog_4_method_13_code
def y_S_fall : MethodName := ⟨RX2, "fall", "(I)V"⟩
abbrev b_S_runDetect : ByteArray := prog_4_method_14_code
def y_S_runDetect : MethodName := ⟨RX2, "runDetect", "()V"⟩
abbrev b_S_sendFires : ByteArray := prog_4_method_15_code
def y_S_sendFires : MethodName := ⟨RX2, "sendFires", "()Z"⟩
abbrev b_S_tell : ByteArray := prog_4_method_16_code
def y_S_tell : MethodName := ⟨RX2, "tell", "(I)I"⟩
abbrev b_W_init : ByteArray := prog_5_method_1_code
def y_W_init : MethodName := ⟨RX3, "<init>", "()V"⟩
abbrev b_W_placeOf : ByteArray := prog_5_method_2_code
def y_W_placeOf : MethodName := ⟨RX3, "placeOf", "(I)I"⟩
abbrev b_W_countDue : ByteArray := prog_5_method_3_code
def y_W_countDue : MethodName := ⟨RX3, "countDue", "()I"⟩
abbrev b_W_takeDue : ByteArray := prog_5_method_4_code
def y_W_takeDue : MethodName := ⟨RX3, "takeDue", "()LStandInLan$Frame;"⟩
abbrev b_W_newDraft : ByteArray := prog_5_method_5_code
def y_W_newDraft : MethodName := ⟨RX3, "newDraft", "(IIII)LStandInLan$Frame;"⟩
abbrev b_W_carryDraft : ByteArray := prog_5_method_6_code
def y_W_carryDraft : MethodName := ⟨RX3, "carryDraft", "(II)V"⟩
abbrev b_J_set : ByteArray := method_3_code
def y_J_set : MethodName := ⟨RXL, "set", "(LStandInLan;III)I"⟩
abbrev b_J_start : ByteArray := method_4_code
def y_J_start : MethodName := ⟨RXL, "start", "(LStandInLan;I)I"⟩
abbrev b_J_stop : ByteArray := method_5_code
def y_J_stop : MethodName := ⟨RXL, "stop", "(LStandInLan;IZ)I"⟩
abbrev b_J_open : ByteArray := method_6_code
def y_J_open : MethodName := ⟨RXL, "open", "(LStandInLan;IIIII)I"⟩
abbrev b_J_change : ByteArray := method_7_code
def y_J_change : MethodName := ⟨RXL, "change", "(LStandInLan;IIII)I"⟩
abbrev b_J_ask : ByteArray := method_8_code
def y_J_ask : MethodName := ⟨RXL, "ask", "(LStandInLan;I)I"⟩
abbrev b_J_tick : ByteArray := method_9_code
def y_J_tick : MethodName := ⟨RXL, "tick", "(LStandInLan;I[J)I"⟩
abbrev b_J_arrive : ByteArray := method_10_code
def y_J_arrive : MethodName := ⟨RXL, "arrive", "(LStandInLan;IIIII[J)I"⟩
abbrev b_J_law : ByteArray := code
def y_J_law : MethodName := ⟨RXL, "law", "([I)Z"⟩
end
section
theorem d_S_init_0 : decode b_S_init 0 = .ok (.aload_n 0, 1) := by decide +kernel
theorem d_S_init_1 : decode b_S_init 1 = .ok (.invokespecial 3, 3) := by decide +kernel
theorem d_S_init_4 : decode b_S_init 4 = .ok (.aload_n 0, 1) := by decide +kernel
theorem d_S_init_5 : decode b_S_init 5 = .ok (.iload_n 1, 1) := by decide +kernel
theorem d_S_init_6 : decode b_S_init 6 = .ok (.putfield 9, 3) := by decide +kernel
theorem d_S_init_9 : decode b_S_init 9 = .ok (.aload_n 0, 1) := by decide +kernel
theorem d_S_init_10 : decode b_S_init 10 = .ok (.iload_n 2, 1) := by decide +kernel
theorem d_S_init_11 : decode b_S_init 11 = .ok (.putfield 15, 3) := by decide +kernel
theorem d_S_init_14 : decode b_S_init 14 = .ok (.return_, 1) := by decide +kernel
theorem d_S_begin_0 : decode b_S_begin 0 = .ok (.aload_n 0, 1) := by decide +kernel
theorem d_S_begin_1 : decode b_S_begin 1 = .ok (.iconst 1, 1) := by decide +kernel
theorem d_S_begin_2 : decode b_S_begin 2 = .ok (.putfield 18, 3) := by decide +kernel
theorem d_S_begin_5 : decode b_S_begin 5 = .ok (.aload_n 0, 1) := by decide +kernel
theorem d_S_begin_6 : decode b_S_begin 6 = .ok (.iconst 1, 1) := by decide +kernel
theorem d_S_begin_7 : decode b_S_begin 7 = .ok (.putfield 22, 3) := by decide +kernel
theorem d_S_begin_10 : decode b_S_begin 10 = .ok (.aload_n 0, 1) := by decide +kernel
theorem d_S_begin_11 : decode b_S_begin 11 = .ok (.iconst 1, 1) := by decide +kernel
theorem d_S_begin_12 : decode b_S_begin 12 = .ok (.putfield 25, 3) := by decide +kernel
theorem d_S_begin_15 : decode b_S_begin 15 = .ok (.aload_n 0, 1) := by decide +kernel
theorem d_S_begin_16 : decode b_S_begin 16 = .ok (.iconst 0, 1) := by decide +kernel
theorem d_S_begin_17 : decode b_S_begin 17 = .ok (.putfield 28, 3) := by decide +kernel
theorem d_S_begin_20 : decode b_S_begin 20 = .ok (.aload_n 0, 1) := by decide +kernel
theorem d_S_begin_21 : decode b_S_begin 21 = .ok (.iconst 0, 1) := by decide +kernel
theorem d_S_begin_22 : decode b_S_begin 22 = .ok (.putfield 31, 3) := by decide +kernel
theorem d_S_begin_25 : decode b_S_begin 25 = .ok (.aload_n 0, 1) := by decide +kernel
theorem d_S_begin_26 : decode b_S_begin 26 = .ok (.iload_n 1, 1) := by decide +kernel
theorem d_S_begin_27 : decode b_S_begin 27 = .ok (.putfield 34, 3) := by decide +kernel
theorem d_S_begin_30 : decode b_S_begin 30 = .ok (.aload_n 0, 1) := by decide +kernel
theorem d_S_begin_31 : decode b_S_begin 31 = .ok (.iload_n 2, 1) := by decide +kernel
theorem d_S_begin_32 : decode b_S_begin 32 = .ok (.putfield 37, 3) := by decide +kernel
theorem d_S_begin_35 : decode b_S_begin 35 = .ok (.aload_n 0, 1) := by decide +kernel
theorem d_S_begin_36 : decode b_S_begin 36 = .ok (.iload_n 3, 1) := by decide +kernel
theorem d_S_begin_37 : decode b_S_begin 37 = .ok (.putfield 40, 3) := by decide +kernel
theorem d_S_begin_40 : decode b_S_begin 40 = .ok (.aload_n 0, 1) := by decide +kernel
theorem d_S_begin_41 : decode b_S_begin 41 = .ok (.iconst 1, 1) := by decide +kernel
theorem d_S_begin_42 : decode b_S_begin 42 = .ok (.putfield 43, 3) := by decide +kernel
theorem d_S_begin_45 : decode b_S_begin 45 = .ok (.aload_n 0, 1) := by decide +kernel
theorem d_S_begin_46 : decode b_S_begin 46 = .ok (.iconst 0, 1) := by decide +kernel
theorem d_S_begin_47 : decode b_S_begin 47 = .ok (.putfield 46, 3) := by decide +kernel
theorem d_S_begin_50 : decode b_S_begin 50 = .ok (.aload_n 0, 1) := by decide +kernel
theorem d_S_begin_51 : decode b_S_begin 51 = .ok (.iconst 0, 1) := by decide +kernel
theorem d_S_begin_52 : decode b_S_begin 52 = .ok (.putfield 49, 3) := by decide +kernel
theorem d_S_begin_55 : decode b_S_begin 55 = .ok (.aload_n 0, 1) := by decide +kernel
theorem d_S_begin_56 : decode b_S_begin 56 = .ok (.iconst 0, 1) := by decide +kernel
theorem d_S_begin_57 : decode b_S_begin 57 = .ok (.putfield 52, 3) := by decide +kernel
theorem d_S_begin_60 : decode b_S_begin 60 = .ok (.aload_n 0, 1) := by decide +kernel
theorem d_S_begin_61 : decode b_S_begin 61 = .ok (.invokevirtual 55, 3) := by decide +kernel
theorem d_S_begin_64 : decode b_S_begin 64 = .ok (.aload_n 0, 1) := by decide +kernel
theorem d_S_begin_65 : decode b_S_begin 65 = .ok (.iconst 0, 1) := by decide +kernel
theorem d_S_begin_66 : decode b_S_begin 66 = .ok (.putfield 58, 3) := by decide +kernel
theorem d_S_begin_69 : decode b_S_begin 69 = .ok (.aload_n 0, 1) := by decide +kernel
theorem d_S_begin_70 : decode b_S_begin 70 = .ok (.iconst 0, 1) := by decide +kernel
theorem d_S_begin_71 : decode b_S_begin 71 = .ok (.putfield 61, 3) := by decide +kernel
theorem d_S_begin_74 : decode b_S_begin 74 = .ok (.aload_n 0, 1) := by decide +kernel
theorem d_S_begin_75 : decode b_S_begin 75 = .ok (.aload_n 0, 1) := by decide +kernel
theorem d_S_begin_76 : decode b_S_begin 76 = .ok (.invokevirtual 64, 3) := by decide +kernel
theorem d_S_begin_79 : decode b_S_begin 79 = .ok (.putfield 68, 3) := by decide +kernel
theorem d_S_begin_82 : decode b_S_begin 82 = .ok (.return_, 1) := by decide +kernel
theorem d_S_wantRates_0 : decode b_S_wantRates 0 = .ok (.aload_n 0, 1) := by decide +kernel
theorem d_S_wantRates_1 : decode b_S_wantRates 1 = .ok (.iload_n 1, 1) := by decide +kernel
theorem d_S_wantRates_2 : decode b_S_wantRates 2 = .ok (.putfield 34, 3) := by decide +kernel
theorem d_S_wantRates_5 : decode b_S_wantRates 5 = .ok (.aload_n 0, 1) := by decide +kernel
theorem d_S_wantRates_6 : decode b_S_wantRates 6 = .ok (.iload_n 2, 1) := by decide +kernel
theorem d_S_wantRates_7 : decode b_S_wantRates 7 = .ok (.putfield 37, 3) := by decide +kernel
theorem d_S_wantRates_10 : decode b_S_wantRates 10 = .ok (.aload_n 0, 1) := by decide +kernel
theorem d_S_wantRates_11 : decode b_S_wantRates 11 = .ok (.getfield 22, 3) := by decide +kernel
theorem d_S_wantRates_14 : decode b_S_wantRates 14 = .ok (.iconst 3, 1) := by decide +kernel
theorem d_S_wantRates_15 : decode b_S_wantRates 15 = .ok (.if_icmp .eq 10, 3) := by decide +kernel
theorem d_S_wantRates_18 : decode b_S_wantRates 18 = .ok (.aload_n 0, 1) := by decide +kernel
theorem d_S_wantRates_19 : decode b_S_wantRates 19 = .ok (.invokevirtual 55, 3) := by decide +kernel
theorem d_S_wantRates_22 : decode b_S_wantRates 22 = .ok (.goto 38, 3) := by decide +kernel
theorem d_S_wantRates_25 : decode b_S_wantRates 25 = .ok (.aload_n 0, 1) := by decide +kernel
theorem d_S_wantRates_26 : decode b_S_wantRates 26 = .ok (.iconst 1, 1) := by decide +kernel
theorem d_S_wantRates_27 : decode b_S_wantRates 27 = .ok (.putfield 52, 3) := by decide +kernel
theorem d_S_wantRates_30 : decode b_S_wantRates 30 = .ok (.aload_n 0, 1) := by decide +kernel
theorem d_S_wantRates_31 : decode b_S_wantRates 31 = .ok (.aload_n 0, 1) := by decide +kernel
theorem d_S_wantRates_32 : decode b_S_wantRates 32 = .ok (.getfield 71, 3) := by decide +kernel
theorem d_S_wantRates_35 : decode b_S_wantRates 35 = .ok (.aload_n 0, 1) := by decide +kernel
theorem d_S_wantRates_36 : decode b_S_wantRates 36 = .ok (.getfield 34, 3) := by decide +kernel
theorem d_S_wantRates_39 : decode b_S_wantRates 39 = .ok (.invokestatic 74, 3) := by decide +kernel
theorem d_S_wantRates_42 : decode b_S_wantRates 42 = .ok (.putfield 71, 3) := by decide +kernel
theorem d_S_wantRates_45 : decode b_S_wantRates 45 = .ok (.aload_n 0, 1) := by decide +kernel
theorem d_S_wantRates_46 : decode b_S_wantRates 46 = .ok (.aload_n 0, 1) := by decide +kernel
theorem d_S_wantRates_47 : decode b_S_wantRates 47 = .ok (.getfield 80, 3) := by decide +kernel
theorem d_S_wantRates_50 : decode b_S_wantRates 50 = .ok (.aload_n 0, 1) := by decide +kernel
theorem d_S_wantRates_51 : decode b_S_wantRates 51 = .ok (.getfield 37, 3) := by decide +kernel
theorem d_S_wantRates_54 : decode b_S_wantRates 54 = .ok (.invokestatic 83, 3) := by decide +kernel
theorem d_S_wantRates_57 : decode b_S_wantRates 57 = .ok (.putfield 80, 3) := by decide +kernel
theorem d_S_wantRates_60 : decode b_S_wantRates 60 = .ok (.aload_n 0, 1) := by decide +kernel
theorem d_S_wantRates_61 : decode b_S_wantRates 61 = .ok (.invokevirtual 86, 3) := by decide +kernel
theorem d_S_wantRates_64 : decode b_S_wantRates 64 = .ok (.return_, 1) := by decide +kernel
theorem d_S_shut_0 : decode b_S_shut 0 = .ok (.aload_n 0, 1) := by decide +kernel
theorem d_S_shut_1 : decode b_S_shut 1 = .ok (.iconst 0, 1) := by decide +kernel
theorem d_S_shut_2 : decode b_S_shut 2 = .ok (.putfield 22, 3) := by decide +kernel
theorem d_S_shut_5 : decode b_S_shut 5 = .ok (.aload_n 0, 1) := by decide +kernel
theorem d_S_shut_6 : decode b_S_shut 6 = .ok (.bipush 7, 2) := by decide +kernel
theorem d_S_shut_8 : decode b_S_shut 8 = .ok (.putfield 31, 3) := by decide +kernel
theorem d_S_shut_11 : decode b_S_shut 11 = .ok (.aload_n 0, 1) := by decide +kernel
theorem d_S_shut_12 : decode b_S_shut 12 = .ok (.iconst 0, 1) := by decide +kernel
theorem d_S_shut_13 : decode b_S_shut 13 = .ok (.putfield 52, 3) := by decide +kernel
theorem d_S_shut_16 : decode b_S_shut 16 = .ok (.return_, 1) := by decide +kernel
theorem d_S_useRates_0 : decode b_S_useRates 0 = .ok (.aload_n 0, 1) := by decide +kernel
theorem d_S_useRates_1 : decode b_S_useRates 1 = .ok (.aload_n 0, 1) := by decide +kernel
theorem d_S_useRates_2 : decode b_S_useRates 2 = .ok (.getfield 34, 3) := by decide +kernel
theorem d_S_useRates_5 : decode b_S_useRates 5 = .ok (.putfield 71, 3) := by decide +kernel
theorem d_S_useRates_8 : decode b_S_useRates 8 = .ok (.aload_n 0, 1) := by decide +kernel
theorem d_S_useRates_9 : decode b_S_useRates 9 = .ok (.aload_n 0, 1) := by decide +kernel
theorem d_S_useRates_10 : decode b_S_useRates 10 = .ok (.getfield 37, 3) := by decide +kernel
theorem d_S_useRates_13 : decode b_S_useRates 13 = .ok (.putfield 80, 3) := by decide +kernel
theorem d_S_useRates_16 : decode b_S_useRates 16 = .ok (.return_, 1) := by decide +kernel
theorem d_S_slowed_0 : decode b_S_slowed 0 = .ok (.aload_n 0, 1) := by decide +kernel
theorem d_S_slowed_1 : decode b_S_slowed 1 = .ok (.getfield 22, 3) := by decide +kernel
theorem d_S_slowed_4 : decode b_S_slowed 4 = .ok (.iconst 3, 1) := by decide +kernel
theorem d_S_slowed_5 : decode b_S_slowed 5 = .ok (.if_icmp .ne 7, 3) := by decide +kernel
theorem d_S_slowed_8 : decode b_S_slowed 8 = .ok (.iload_n 1, 1) := by decide +kernel
theorem d_S_slowed_9 : decode b_S_slowed 9 = .ok (.goto 9, 3) := by decide +kernel
theorem d_S_slowed_12 : decode b_S_slowed 12 = .ok (.iload_n 1, 1) := by decide +kernel
theorem d_S_slowed_13 : decode b_S_slowed 13 = .ok (.bipush 100, 2) := by decide +kernel
theorem d_S_slowed_15 : decode b_S_slowed 15 = .ok (.invokestatic 83, 3) := by decide +kernel
theorem d_S_slowed_18 : decode b_S_slowed 18 = .ok (.ireturn, 1) := by decide +kernel
theorem d_S_sendPause_0 : decode b_S_sendPause 0 = .ok (.aload_n 0, 1) := by decide +kernel
theorem d_S_sendPause_1 : decode b_S_sendPause 1 = .ok (.getfield 43, 3) := by decide +kernel
theorem d_S_sendPause_4 : decode b_S_sendPause 4 = .ok (.ifCond .ne 7, 3) := by decide +kernel
theorem d_S_sendPause_7 : decode b_S_sendPause 7 = .ok (.iconst 0, 1) := by decide +kernel
theorem d_S_sendPause_8 : decode b_S_sendPause 8 = .ok (.goto 18, 3) := by decide +kernel
theorem d_S_sendPause_11 : decode b_S_sendPause 11 = .ok (.aload_n 0, 1) := by decide +kernel
theorem d_S_sendPause_12 : decode b_S_sendPause 12 = .ok (.aload_n 0, 1) := by decide +kernel
theorem d_S_sendPause_13 : decode b_S_sendPause 13 = .ok (.getfield 71, 3) := by decide +kernel
theorem d_S_sendPause_16 : decode b_S_sendPause 16 = .ok (.invokevirtual 89, 3) := by decide +kernel
theorem d_S_sendPause_19 : decode b_S_sendPause 19 = .ok (.aload_n 0, 1) := by decide +kernel
theorem d_S_sendPause_20 : decode b_S_sendPause 20 = .ok (.getfield 43, 3) := by decide +kernel
theorem d_S_sendPause_23 : decode b_S_sendPause 23 = .ok (.invokestatic 83, 3) := by decide +kernel
theorem d_S_sendPause_26 : decode b_S_sendPause 26 = .ok (.ireturn, 1) := by decide +kernel
theorem d_S_hurrySend_0 : decode b_S_hurrySend 0 = .ok (.aload_n 0, 1) := by decide +kernel
theorem d_S_hurrySend_1 : decode b_S_hurrySend 1 = .ok (.invokevirtual 64, 3) := by decide +kernel
theorem d_S_hurrySend_4 : decode b_S_hurrySend 4 = .ok (.istore_n 1, 1) := by decide +kernel
theorem d_S_hurrySend_5 : decode b_S_hurrySend 5 = .ok (.iload_n 1, 1) := by decide +kernel
theorem d_S_hurrySend_6 : decode b_S_hurrySend 6 = .ok (.ifCond .eq 18, 3) := by decide +kernel
theorem d_S_hurrySend_9 : decode b_S_hurrySend 9 = .ok (.aload_n 0, 1) := by decide +kernel
theorem d_S_hurrySend_10 : decode b_S_hurrySend 10 = .ok (.getfield 68, 3) := by decide +kernel
theorem d_S_hurrySend_13 : decode b_S_hurrySend 13 = .ok (.ifCond .eq 11, 3) := by decide +kernel
theorem d_S_hurrySend_16 : decode b_S_hurrySend 16 = .ok (.aload_n 0, 1) := by decide +kernel
theorem d_S_hurrySend_17 : decode b_S_hurrySend 17 = .ok (.getfield 68, 3) := by decide +kernel
theorem d_S_hurrySend_20 : decode b_S_hurrySend 20 = .ok (.iload_n 1, 1) := by decide +kernel
theorem d_S_hurrySend_21 : decode b_S_hurrySend 21 = .ok (.if_icmp .le 8, 3) := by decide +kernel
theorem d_S_hurrySend_24 : decode b_S_hurrySend 24 = .ok (.aload_n 0, 1) := by decide +kernel
theorem d_S_hurrySend_25 : decode b_S_hurrySend 25 = .ok (.iload_n 1, 1) := by decide +kernel
theorem d_S_hurrySend_26 : decode b_S_hurrySend 26 = .ok (.putfield 68, 3) := by decide +kernel
theorem d_S_hurrySend_29 : decode b_S_hurrySend 29 = .ok (.return_, 1) := by decide +kernel
theorem d_S_learn_0 : decode b_S_learn 0 = .ok (.aload_n 0, 1) := by decide +kernel
theorem d_S_learn_1 : decode b_S_learn 1 = .ok (.getfield 43, 3) := by decide +kernel
theorem d_S_learn_4 : decode b_S_learn 4 = .ok (.istore_n 2, 1) := by decide +kernel
theorem d_S_learn_5 : decode b_S_learn 5 = .ok (.aload_n 0, 1) := by decide +kernel
theorem d_S_learn_6 : decode b_S_learn 6 = .ok (.getfield 22, 3) := by decide +kernel
theorem d_S_learn_9 : decode b_S_learn 9 = .ok (.istore_n 3, 1) := by decide +kernel
theorem d_S_learn_10 : decode b_S_learn 10 = .ok (.aload_n 1, 1) := by decide +kernel
theorem d_S_learn_11 : decode b_S_learn 11 = .ok (.iconst 1, 1) := by decide +kernel
theorem d_S_learn_12 : decode b_S_learn 12 = .ok (.invokevirtual 93, 3) := by decide +kernel
theorem d_S_learn_15 : decode b_S_learn 15 = .ok (.istore 4, 2) := by decide +kernel
theorem d_S_learn_17 : decode b_S_learn 17 = .ok (.aload_n 0, 1) := by decide +kernel
theorem d_S_learn_18 : decode b_S_learn 18 = .ok (.aload_n 1, 1) := by decide +kernel
theorem d_S_learn_19 : decode b_S_learn 19 = .ok (.iconst 4, 1) := by decide +kernel
theorem d_S_learn_20 : decode b_S_learn 20 = .ok (.invokevirtual 98, 3) := by decide +kernel
theorem d_S_learn_23 : decode b_S_learn 23 = .ok (.invokestatic 101, 3) := by decide +kernel
theorem d_S_learn_26 : decode b_S_learn 26 = .ok (.putfield 28, 3) := by decide +kernel
theorem d_S_learn_29 : decode b_S_learn 29 = .ok (.aload_n 0, 1) := by decide +kernel
theorem d_S_learn_30 : decode b_S_learn 30 = .ok (.iload 4, 2) := by decide +kernel
theorem d_S_learn_32 : decode b_S_learn 32 = .ok (.bipush 64, 2) := by decide +kernel
theorem d_S_learn_34 : decode b_S_learn 34 = .ok (.idiv, 1) := by decide +kernel
theorem d_S_learn_35 : decode b_S_learn 35 = .ok (.putfield 25, 3) := by decide +kernel
theorem d_S_learn_38 : decode b_S_learn 38 = .ok (.aload_n 0, 1) := by decide +kernel
theorem d_S_learn_39 : decode b_S_learn 39 = .ok (.aload_n 1, 1) := by decide +kernel
theorem d_S_learn_40 : decode b_S_learn 40 = .ok (.iconst 2, 1) := by decide +kernel
theorem d_S_learn_41 : decode b_S_learn 41 = .ok (.invokevirtual 93, 3) := by decide +kernel
theorem d_S_learn_44 : decode b_S_learn 44 = .ok (.putfield 49, 3) := by decide +kernel
theorem d_S_learn_47 : decode b_S_learn 47 = .ok (.aload_n 0, 1) := by decide +kernel
theorem d_S_learn_48 : decode b_S_learn 48 = .ok (.aload_n 1, 1) := by decide +kernel
theorem d_S_learn_49 : decode b_S_learn 49 = .ok (.bipush 12, 2) := by decide +kernel
theorem d_S_learn_51 : decode b_S_learn 51 = .ok (.invokevirtual 98, 3) := by decide +kernel
theorem d_S_learn_54 : decode b_S_learn 54 = .ok (.invokestatic 101, 3) := by decide +kernel
theorem d_S_learn_57 : decode b_S_learn 57 = .ok (.putfield 46, 3) := by decide +kernel
theorem d_S_learn_60 : decode b_S_learn 60 = .ok (.aload_n 0, 1) := by decide +kernel
theorem d_S_learn_61 : decode b_S_learn 61 = .ok (.aload_n 1, 1) := by decide +kernel
theorem d_S_learn_62 : decode b_S_learn 62 = .ok (.bipush 16, 2) := by decide +kernel
theorem d_S_learn_64 : decode b_S_learn 64 = .ok (.invokevirtual 98, 3) := by decide +kernel
theorem d_S_learn_67 : decode b_S_learn 67 = .ok (.invokestatic 101, 3) := by decide +kernel
theorem d_S_learn_70 : decode b_S_learn 70 = .ok (.putfield 43, 3) := by decide +kernel
theorem d_S_learn_73 : decode b_S_learn 73 = .ok (.aload_n 0, 1) := by decide +kernel
theorem d_S_learn_74 : decode b_S_learn 74 = .ok (.getfield 52, 3) := by decide +kernel
theorem d_S_learn_77 : decode b_S_learn 77 = .ok (.ifCond .eq 20, 3) := by decide +kernel
theorem d_S_learn_80 : decode b_S_learn 80 = .ok (.iload 4, 2) := by decide +kernel
theorem d_S_learn_82 : decode b_S_learn 82 = .ok (.bipush 16, 2) := by decide +kernel
theorem d_S_learn_84 : decode b_S_learn 84 = .ok (.iand, 1) := by decide +kernel
theorem d_S_learn_85 : decode b_S_learn 85 = .ok (.ifCond .eq 12, 3) := by decide +kernel
theorem d_S_learn_88 : decode b_S_learn 88 = .ok (.aload_n 0, 1) := by decide +kernel
theorem d_S_learn_89 : decode b_S_learn 89 = .ok (.iconst 0, 1) := by decide +kernel
theorem d_S_learn_90 : decode b_S_learn 90 = .ok (.putfield 52, 3) := by decide +kernel
theorem d_S_learn_93 : decode b_S_learn 93 = .ok (.aload_n 0, 1) := by decide +kernel
theorem d_S_learn_94 : decode b_S_learn 94 = .ok (.invokevirtual 55, 3) := by decide +kernel
theorem d_S_learn_97 : decode b_S_learn 97 = .ok (.aload_n 0, 1) := by decide +kernel
theorem d_S_learn_98 : decode b_S_learn 98 = .ok (.ldc 104, 2) := by decide +kernel
theorem d_S_learn_100 : decode b_S_learn 100 = .ok (.aload_n 0, 1) := by decide +kernel
theorem d_S_learn_101 : decode b_S_learn 101 = .ok (.getfield 49, 3) := by decide +kernel
theorem d_S_learn_104 : decode b_S_learn 104 = .ok (.aload_n 0, 1) := by decide +kernel
theorem d_S_learn_105 : decode b_S_learn 105 = .ok (.getfield 80, 3) := by decide +kernel
theorem d_S_learn_108 : decode b_S_learn 108 = .ok (.aload_n 0, 1) := by decide +kernel
theorem d_S_learn_109 : decode b_S_learn 109 = .ok (.getfield 46, 3) := by decide +kernel
theorem d_S_learn_112 : decode b_S_learn 112 = .ok (.invokestatic 83, 3) := by decide +kernel
theorem d_S_learn_115 : decode b_S_learn 115 = .ok (.imul, 1) := by decide +kernel
theorem d_S_learn_116 : decode b_S_learn 116 = .ok (.invokestatic 74, 3) := by decide +kernel
theorem d_S_learn_119 : decode b_S_learn 119 = .ok (.putfield 58, 3) := by decide +kernel
theorem d_S_learn_122 : decode b_S_learn 122 = .ok (.aload_n 0, 1) := by decide +kernel
theorem d_S_learn_123 : decode b_S_learn 123 = .ok (.invokevirtual 105, 3) := by decide +kernel
theorem d_S_learn_126 : decode b_S_learn 126 = .ok (.aload_n 0, 1) := by decide +kernel
theorem d_S_learn_127 : decode b_S_learn 127 = .ok (.getfield 43, 3) := by decide +kernel
theorem d_S_learn_130 : decode b_S_learn 130 = .ok (.iload_n 2, 1) := by decide +kernel
theorem d_S_learn_131 : decode b_S_learn 131 = .ok (.if_icmp .ne 11, 3) := by decide +kernel
theorem d_S_learn_134 : decode b_S_learn 134 = .ok (.aload_n 0, 1) := by decide +kernel
theorem d_S_learn_135 : decode b_S_learn 135 = .ok (.getfield 22, 3) := by decide +kernel
theorem d_S_learn_138 : decode b_S_learn 138 = .ok (.iload_n 3, 1) := by decide +kernel
theorem d_S_learn_139 : decode b_S_learn 139 = .ok (.if_icmp .eq 7, 3) := by decide +kernel
theorem d_S_learn_142 : decode b_S_learn 142 = .ok (.iconst 1, 1) := by decide +kernel
theorem d_S_learn_143 : decode b_S_learn 143 = .ok (.goto 4, 3) := by decide +kernel
theorem d_S_learn_146 : decode b_S_learn 146 = .ok (.iconst 0, 1) := by decide +kernel
theorem d_S_learn_147 : decode b_S_learn 147 = .ok (.ireturn, 1) := by decide +kernel
theorem d_S_told_0 : decode b_S_told 0 = .ok (.iload_n 0, 1) := by decide +kernel
theorem d_S_told_1 : decode b_S_told 1 = .ok (.ifCond .lt 9, 3) := by decide +kernel
theorem d_S_told_4 : decode b_S_told 4 = .ok (.iload_n 0, 1) := by decide +kernel
theorem d_S_told_5 : decode b_S_told 5 = .ok (.ldc 108, 2) := by decide +kernel
theorem d_S_told_7 : decode b_S_told 7 = .ok (.if_icmp .le 8, 3) := by decide +kernel
theorem d_S_told_10 : decode b_S_told 10 = .ok (.ldc 108, 2) := by decide +kernel
theorem d_S_told_12 : decode b_S_told 12 = .ok (.goto 4, 3) := by decide +kernel
theorem d_S_told_15 : decode b_S_told 15 = .ok (.iload_n 0, 1) := by decide +kernel
theorem d_S_told_16 : decode b_S_told 16 = .ok (.ireturn, 1) := by decide +kernel
theorem d_S_follow_0 : decode b_S_follow 0 = .ok (.aload_n 0, 1) := by decide +kernel
theorem d_S_follow_1 : decode b_S_follow 1 = .ok (.getfield 22, 3) := by decide +kernel
theorem d_S_follow_4 : decode b_S_follow 4 = .ok (.ifCond .ne 4, 3) := by decide +kernel
theorem d_S_follow_7 : decode b_S_follow 7 = .ok (.return_, 1) := by decide +kernel
theorem d_S_follow_8 : decode b_S_follow 8 = .ok (.aload_n 0, 1) := by decide +kernel
theorem d_S_follow_9 : decode b_S_follow 9 = .ok (.getfield 25, 3) := by decide +kernel
theorem d_S_follow_12 : decode b_S_follow 12 = .ok (.ifCond .ne 11, 3) := by decide +kernel
theorem d_S_follow_15 : decode b_S_follow 15 = .ok (.aload_n 0, 1) := by decide +kernel
theorem d_S_follow_16 : decode b_S_follow 16 = .ok (.iconst 3, 1) := by decide +kernel
theorem d_S_follow_17 : decode b_S_follow 17 = .ok (.invokevirtual 109, 3) := by decide +kernel
theorem d_S_follow_20 : decode b_S_follow 20 = .ok (.goto 78, 3) := by decide +kernel
theorem d_S_follow_23 : decode b_S_follow 23 = .ok (.aload_n 0, 1) := by decide +kernel
theorem d_S_follow_24 : decode b_S_follow 24 = .ok (.getfield 22, 3) := by decide +kernel
theorem d_S_follow_27 : decode b_S_follow 27 = .ok (.iconst 1, 1) := by decide +kernel
theorem d_S_follow_28 : decode b_S_follow 28 = .ok (.if_icmp .ne 34, 3) := by decide +kernel
theorem d_S_follow_31 : decode b_S_follow 31 = .ok (.aload_n 0, 1) := by decide +kernel
theorem d_S_follow_32 : decode b_S_follow 32 = .ok (.getfield 25, 3) := by decide +kernel
theorem d_S_follow_35 : decode b_S_follow 35 = .ok (.iconst 1, 1) := by decide +kernel
theorem d_S_follow_36 : decode b_S_follow 36 = .ok (.if_icmp .ne 11, 3) := by decide +kernel
theorem d_S_follow_39 : decode b_S_follow 39 = .ok (.aload_n 0, 1) := by decide +kernel
theorem d_S_follow_40 : decode b_S_follow 40 = .ok (.iconst 2, 1) := by decide +kernel
theorem d_S_follow_41 : decode b_S_follow 41 = .ok (.putfield 22, 3) := by decide +kernel
theorem d_S_follow_44 : decode b_S_follow 44 = .ok (.goto 54, 3) := by decide +kernel
theorem d_S_follow_47 : decode b_S_follow 47 = .ok (.aload_n 0, 1) := by decide +kernel
theorem d_S_follow_48 : decode b_S_follow 48 = .ok (.getfield 25, 3) := by decide +kernel
theorem d_S_follow_51 : decode b_S_follow 51 = .ok (.iconst 2, 1) := by decide +kernel
theorem d_S_follow_52 : decode b_S_follow 52 = .ok (.if_icmp .ne 46, 3) := by decide +kernel
theorem d_S_follow_55 : decode b_S_follow 55 = .ok (.aload_n 0, 1) := by decide +kernel
theorem d_S_follow_56 : decode b_S_follow 56 = .ok (.invokevirtual 113, 3) := by decide +kernel
theorem d_S_follow_59 : decode b_S_follow 59 = .ok (.goto 39, 3) := by decide +kernel
theorem d_S_follow_62 : decode b_S_follow 62 = .ok (.aload_n 0, 1) := by decide +kernel
theorem d_S_follow_63 : decode b_S_follow 63 = .ok (.getfield 22, 3) := by decide +kernel
theorem d_S_follow_66 : decode b_S_follow 66 = .ok (.iconst 2, 1) := by decide +kernel
theorem d_S_follow_67 : decode b_S_follow 67 = .ok (.if_icmp .ne 18, 3) := by decide +kernel
theorem d_S_follow_70 : decode b_S_follow 70 = .ok (.aload_n 0, 1) := by decide +kernel
theorem d_S_follow_71 : decode b_S_follow 71 = .ok (.getfield 25, 3) := by decide +kernel
theorem d_S_follow_74 : decode b_S_follow 74 = .ok (.iconst 1, 1) := by decide +kernel
theorem d_S_follow_75 : decode b_S_follow 75 = .ok (.if_icmp .eq 23, 3) := by decide +kernel
theorem d_S_follow_78 : decode b_S_follow 78 = .ok (.aload_n 0, 1) := by decide +kernel
theorem d_S_follow_79 : decode b_S_follow 79 = .ok (.invokevirtual 113, 3) := by decide +kernel
theorem d_S_follow_82 : decode b_S_follow 82 = .ok (.goto 16, 3) := by decide +kernel
theorem d_S_follow_85 : decode b_S_follow 85 = .ok (.aload_n 0, 1) := by decide +kernel
theorem d_S_follow_86 : decode b_S_follow 86 = .ok (.getfield 25, 3) := by decide +kernel
theorem d_S_follow_89 : decode b_S_follow 89 = .ok (.iconst 1, 1) := by decide +kernel
theorem d_S_follow_90 : decode b_S_follow 90 = .ok (.if_icmp .ne 8, 3) := by decide +kernel
theorem d_S_follow_93 : decode b_S_follow 93 = .ok (.aload_n 0, 1) := by decide +kernel
theorem d_S_follow_94 : decode b_S_follow 94 = .ok (.iconst 3, 1) := by decide +kernel
theorem d_S_follow_95 : decode b_S_follow 95 = .ok (.invokevirtual 109, 3) := by decide +kernel
theorem d_S_follow_98 : decode b_S_follow 98 = .ok (.return_, 1) := by decide +kernel
theorem d_S_comeUp_0 : decode b_S_comeUp 0 = .ok (.aload_n 0, 1) := by decide +kernel
theorem d_S_comeUp_1 : decode b_S_comeUp 1 = .ok (.iconst 3, 1) := by decide +kernel
theorem d_S_comeUp_2 : decode b_S_comeUp 2 = .ok (.putfield 22, 3) := by decide +kernel
theorem d_S_comeUp_5 : decode b_S_comeUp 5 = .ok (.aload_n 0, 1) := by decide +kernel
theorem d_S_comeUp_6 : decode b_S_comeUp 6 = .ok (.dup, 1) := by decide +kernel
theorem d_S_comeUp_7 : decode b_S_comeUp 7 = .ok (.getfield 61, 3) := by decide +kernel
theorem d_S_comeUp_10 : decode b_S_comeUp 10 = .ok (.iconst 1, 1) := by decide +kernel
theorem d_S_comeUp_11 : decode b_S_comeUp 11 = .ok (.iadd, 1) := by decide +kernel
theorem d_S_comeUp_12 : decode b_S_comeUp 12 = .ok (.putfield 61, 3) := by decide +kernel
theorem d_S_comeUp_15 : decode b_S_comeUp 15 = .ok (.return_, 1) := by decide +kernel
theorem d_S_fall_0 : decode b_S_fall 0 = .ok (.aload_n 0, 1) := by decide +kernel
theorem d_S_fall_1 : decode b_S_fall 1 = .ok (.getfield 22, 3) := by decide +kernel
theorem d_S_fall_4 : decode b_S_fall 4 = .ok (.iconst 2, 1) := by decide +kernel
theorem d_S_fall_5 : decode b_S_fall 5 = .ok (.if_icmp .eq 11, 3) := by decide +kernel
theorem d_S_fall_8 : decode b_S_fall 8 = .ok (.aload_n 0, 1) := by decide +kernel
theorem d_S_fall_9 : decode b_S_fall 9 = .ok (.getfield 22, 3) := by decide +kernel
theorem d_S_fall_12 : decode b_S_fall 12 = .ok (.iconst 3, 1) := by decide +kernel
theorem d_S_fall_13 : decode b_S_fall 13 = .ok (.if_icmp .ne 13, 3) := by decide +kernel
theorem d_S_fall_16 : decode b_S_fall 16 = .ok (.aload_n 0, 1) := by decide +kernel
theorem d_S_fall_17 : decode b_S_fall 17 = .ok (.iload_n 1, 1) := by decide +kernel
theorem d_S_fall_18 : decode b_S_fall 18 = .ok (.putfield 31, 3) := by decide +kernel
theorem d_S_fall_21 : decode b_S_fall 21 = .ok (.aload_n 0, 1) := by decide +kernel
theorem d_S_fall_22 : decode b_S_fall 22 = .ok (.iconst 1, 1) := by decide +kernel
theorem d_S_fall_23 : decode b_S_fall 23 = .ok (.putfield 22, 3) := by decide +kernel
theorem d_S_fall_26 : decode b_S_fall 26 = .ok (.return_, 1) := by decide +kernel
theorem d_S_runDetect_0 : decode b_S_runDetect 0 = .ok (.aload_n 0, 1) := by decide +kernel
theorem d_S_runDetect_1 : decode b_S_runDetect 1 = .ok (.getfield 58, 3) := by decide +kernel
theorem d_S_runDetect_4 : decode b_S_runDetect 4 = .ok (.ifCond .le 30, 3) := by decide +kernel
theorem d_S_runDetect_7 : decode b_S_runDetect 7 = .ok (.aload_n 0, 1) := by decide +kernel
theorem d_S_runDetect_8 : decode b_S_runDetect 8 = .ok (.dup, 1) := by decide +kernel
theorem d_S_runDetect_9 : decode b_S_runDetect 9 = .ok (.getfield 58, 3) := by decide +kernel
theorem d_S_runDetect_12 : decode b_S_runDetect 12 = .ok (.iconst 1, 1) := by decide +kernel
theorem d_S_runDetect_13 : decode b_S_runDetect 13 = .ok (.isub, 1) := by decide +kernel
theorem d_S_runDetect_14 : decode b_S_runDetect 14 = .ok (.putfield 58, 3) := by decide +kernel
theorem d_S_runDetect_17 : decode b_S_runDetect 17 = .ok (.aload_n 0, 1) := by decide +kernel
theorem d_S_runDetect_18 : decode b_S_runDetect 18 = .ok (.getfield 58, 3) := by decide +kernel
theorem d_S_runDetect_21 : decode b_S_runDetect 21 = .ok (.ifCond .ne 13, 3) := by decide +kernel
theorem d_S_runDetect_24 : decode b_S_runDetect 24 = .ok (.aload_n 0, 1) := by decide +kernel
theorem d_S_runDetect_25 : decode b_S_runDetect 25 = .ok (.iconst 0, 1) := by decide +kernel
theorem d_S_runDetect_26 : decode b_S_runDetect 26 = .ok (.putfield 28, 3) := by decide +kernel
theorem d_S_runDetect_29 : decode b_S_runDetect 29 = .ok (.aload_n 0, 1) := by decide +kernel
theorem d_S_runDetect_30 : decode b_S_runDetect 30 = .ok (.iconst 1, 1) := by decide +kernel
theorem d_S_runDetect_31 : decode b_S_runDetect 31 = .ok (.invokevirtual 109, 3) := by decide +kernel
theorem d_S_runDetect_34 : decode b_S_runDetect 34 = .ok (.return_, 1) := by decide +kernel
theorem d_S_sendFires_0 : decode b_S_sendFires 0 = .ok (.aload_n 0, 1) := by decide +kernel
theorem d_S_sendFires_1 : decode b_S_sendFires 1 = .ok (.getfield 68, 3) := by decide +kernel
theorem d_S_sendFires_4 : decode b_S_sendFires 4 = .ok (.ifCond .le 26, 3) := by decide +kernel
theorem d_S_sendFires_7 : decode b_S_sendFires 7 = .ok (.aload_n 0, 1) := by decide +kernel
theorem d_S_sendFires_8 : decode b_S_sendFires 8 = .ok (.dup, 1) := by decide +kernel
theorem d_S_sendFires_9 : decode b_S_sendFires 9 = .ok (.getfield 68, 3) := by decide +kernel
theorem d_S_sendFires_12 : decode b_S_sendFires 12 = .ok (.iconst 1, 1) := by decide +kernel
theorem d_S_sendFires_13 : decode b_S_sendFires 13 = .ok (.isub, 1) := by decide +kernel
theorem d_S_sendFires_14 : decode b_S_sendFires 14 = .ok (.putfield 68, 3) := by decide +kernel
theorem d_S_sendFires_17 : decode b_S_sendFires 17 = .ok (.aload_n 0, 1) := by decide +kernel
theorem d_S_sendFires_18 : decode b_S_sendFires 18 = .ok (.getfield 68, 3) := by decide +kernel
theorem d_S_sendFires_21 : decode b_S_sendFires 21 = .ok (.ifCond .ne 7, 3) := by decide +kernel
theorem d_S_sendFires_24 : decode b_S_sendFires 24 = .ok (.iconst 1, 1) := by decide +kernel
theorem d_S_sendFires_25 : decode b_S_sendFires 25 = .ok (.goto 4, 3) := by decide +kernel
theorem d_S_sendFires_28 : decode b_S_sendFires 28 = .ok (.iconst 0, 1) := by decide +kernel
theorem d_S_sendFires_29 : decode b_S_sendFires 29 = .ok (.ireturn, 1) := by decide +kernel
theorem d_S_sendFires_30 : decode b_S_sendFires 30 = .ok (.iconst 0, 1) := by decide +kernel
theorem d_S_sendFires_31 : decode b_S_sendFires 31 = .ok (.ireturn, 1) := by decide +kernel
theorem d_S_tell_0 : decode b_S_tell 0 = .ok (.iload_n 1, 1) := by decide +kernel
theorem d_S_tell_1 : decode b_S_tell 1 = .ok (.tableswitch 131 0 11 #[63, 68, 73, 78, 83, 88, 93, 98, 103, 116, 121, 126], 63) := by decide +kernel
theorem d_S_tell_64 : decode b_S_tell 64 = .ok (.aload_n 0, 1) := by decide +kernel
theorem d_S_tell_65 : decode b_S_tell 65 = .ok (.getfield 22, 3) := by decide +kernel
theorem d_S_tell_68 : decode b_S_tell 68 = .ok (.ireturn, 1) := by decide +kernel
theorem d_S_tell_69 : decode b_S_tell 69 = .ok (.aload_n 0, 1) := by decide +kernel
theorem d_S_tell_70 : decode b_S_tell 70 = .ok (.getfield 25, 3) := by decide +kernel
theorem d_S_tell_73 : decode b_S_tell 73 = .ok (.ireturn, 1) := by decide +kernel
theorem d_S_tell_74 : decode b_S_tell 74 = .ok (.aload_n 0, 1) := by decide +kernel
theorem d_S_tell_75 : decode b_S_tell 75 = .ok (.getfield 28, 3) := by decide +kernel
theorem d_S_tell_78 : decode b_S_tell 78 = .ok (.ireturn, 1) := by decide +kernel
theorem d_S_tell_79 : decode b_S_tell 79 = .ok (.aload_n 0, 1) := by decide +kernel
theorem d_S_tell_80 : decode b_S_tell 80 = .ok (.getfield 31, 3) := by decide +kernel
theorem d_S_tell_83 : decode b_S_tell 83 = .ok (.ireturn, 1) := by decide +kernel
theorem d_S_tell_84 : decode b_S_tell 84 = .ok (.aload_n 0, 1) := by decide +kernel
theorem d_S_tell_85 : decode b_S_tell 85 = .ok (.getfield 68, 3) := by decide +kernel
theorem d_S_tell_88 : decode b_S_tell 88 = .ok (.ireturn, 1) := by decide +kernel
theorem d_S_tell_89 : decode b_S_tell 89 = .ok (.aload_n 0, 1) := by decide +kernel
theorem d_S_tell_90 : decode b_S_tell 90 = .ok (.getfield 58, 3) := by decide +kernel
theorem d_S_tell_93 : decode b_S_tell 93 = .ok (.ireturn, 1) := by decide +kernel
theorem d_S_tell_94 : decode b_S_tell 94 = .ok (.aload_n 0, 1) := by decide +kernel
theorem d_S_tell_95 : decode b_S_tell 95 = .ok (.getfield 71, 3) := by decide +kernel
theorem d_S_tell_98 : decode b_S_tell 98 = .ok (.ireturn, 1) := by decide +kernel
theorem d_S_tell_99 : decode b_S_tell 99 = .ok (.aload_n 0, 1) := by decide +kernel
theorem d_S_tell_100 : decode b_S_tell 100 = .ok (.getfield 80, 3) := by decide +kernel
theorem d_S_tell_103 : decode b_S_tell 103 = .ok (.ireturn, 1) := by decide +kernel
theorem d_S_tell_104 : decode b_S_tell 104 = .ok (.aload_n 0, 1) := by decide +kernel
theorem d_S_tell_105 : decode b_S_tell 105 = .ok (.getfield 52, 3) := by decide +kernel
theorem d_S_tell_108 : decode b_S_tell 108 = .ok (.ifCond .eq 7, 3) := by decide +kernel
theorem d_S_tell_111 : decode b_S_tell 111 = .ok (.iconst 1, 1) := by decide +kernel
theorem d_S_tell_112 : decode b_S_tell 112 = .ok (.goto 4, 3) := by decide +kernel
theorem d_S_tell_115 : decode b_S_tell 115 = .ok (.iconst 0, 1) := by decide +kernel
theorem d_S_tell_116 : decode b_S_tell 116 = .ok (.ireturn, 1) := by decide +kernel
theorem d_S_tell_117 : decode b_S_tell 117 = .ok (.aload_n 0, 1) := by decide +kernel
theorem d_S_tell_118 : decode b_S_tell 118 = .ok (.getfield 43, 3) := by decide +kernel
theorem d_S_tell_121 : decode b_S_tell 121 = .ok (.ireturn, 1) := by decide +kernel
theorem d_S_tell_122 : decode b_S_tell 122 = .ok (.aload_n 0, 1) := by decide +kernel
theorem d_S_tell_123 : decode b_S_tell 123 = .ok (.getfield 46, 3) := by decide +kernel
theorem d_S_tell_126 : decode b_S_tell 126 = .ok (.ireturn, 1) := by decide +kernel
theorem d_S_tell_127 : decode b_S_tell 127 = .ok (.aload_n 0, 1) := by decide +kernel
theorem d_S_tell_128 : decode b_S_tell 128 = .ok (.getfield 61, 3) := by decide +kernel
theorem d_S_tell_131 : decode b_S_tell 131 = .ok (.ireturn, 1) := by decide +kernel
theorem d_S_tell_132 : decode b_S_tell 132 = .ok (.iconst (-1), 1) := by decide +kernel
theorem d_S_tell_133 : decode b_S_tell 133 = .ok (.ireturn, 1) := by decide +kernel
end
section
theorem fl_F_9 : Cond.fieldLink RX0 9 "StandInLan$Frame" "bytes" "[I" ∈ zT := zin 82 (by decide +kernel) (by decide +kernel)
theorem fl_F_15 : Cond.fieldLink RX0 15 "StandInLan$Frame" "length" "I" ∈ zT := zin 83 (by decide +kernel) (by decide +kernel)
theorem fl_W_39 : Cond.fieldLink RX3 39 "StandInLan$Frame" "length" "I" ∈ zT := zin 84 (by decide +kernel) (by decide +kernel)
theorem fl_L_136 : Cond.fieldLink RX4 136 "StandInLan$Frame" "length" "I" ∈ zT := zin 85 (by decide +kernel) (by decide +kernel)
theorem fl_R_159 : Cond.fieldLink RX1 159 "StandInLan$Frame" "length" "I" ∈ zT := zin 86 (by decide +kernel) (by decide +kernel)
theorem fl_W_42 : Cond.fieldLink RX3 42 "StandInLan$Frame" "kind" "I" ∈ zT := zin 87 (by decide +kernel) (by decide +kernel)
theorem fl_L_145 : Cond.fieldLink RX4 145 "StandInLan$Frame" "kind" "I" ∈ zT := zin 88 (by decide +kernel) (by decide +kernel)
theorem fl_R_133 : Cond.fieldLink RX1 133 "StandInLan$Frame" "kind" "I" ∈ zT := zin 89 (by decide +kernel) (by decide +kernel)
theorem fl_W_45 : Cond.fieldLink RX3 45 "StandInLan$Frame" "from" "I" ∈ zT := zin 90 (by decide +kernel) (by decide +kernel)
theorem fl_L_148 : Cond.fieldLink RX4 148 "StandInLan$Frame" "from" "I" ∈ zT := zin 91 (by decide +kernel) (by decide +kernel)
theorem fl_R_150 : Cond.fieldLink RX1 150 "StandInLan$Frame" "from" "I" ∈ zT := zin 92 (by decide +kernel) (by decide +kernel)
theorem fl_W_48 : Cond.fieldLink RX3 48 "StandInLan$Frame" "to" "I" ∈ zT := zin 93 (by decide +kernel) (by decide +kernel)
theorem fl_R_130 : Cond.fieldLink RX1 130 "StandInLan$Frame" "to" "I" ∈ zT := zin 94 (by decide +kernel) (by decide +kernel)
theorem fl_L_179 : Cond.fieldLink RX4 179 "StandInLan$Frame" "to" "I" ∈ zT := zin 95 (by decide +kernel) (by decide +kernel)
theorem fl_W_51 : Cond.fieldLink RX3 51 "StandInLan$Frame" "address" "I" ∈ zT := zin 96 (by decide +kernel) (by decide +kernel)
theorem fl_F_27 : Cond.fieldLink RX0 27 "StandInLan$Frame" "address" "I" ∈ zT := zin 97 (by decide +kernel) (by decide +kernel)
theorem fl_L_154 : Cond.fieldLink RX4 154 "StandInLan$Frame" "address" "I" ∈ zT := zin 98 (by decide +kernel) (by decide +kernel)
theorem fl_R_153 : Cond.fieldLink RX1 153 "StandInLan$Frame" "address" "I" ∈ zT := zin 99 (by decide +kernel) (by decide +kernel)
theorem fl_W_54 : Cond.fieldLink RX3 54 "StandInLan$Frame" "hops" "I" ∈ zT := zin 100 (by decide +kernel) (by decide +kernel)
theorem fl_L_151 : Cond.fieldLink RX4 151 "StandInLan$Frame" "hops" "I" ∈ zT := zin 101 (by decide +kernel) (by decide +kernel)
theorem fl_R_156 : Cond.fieldLink RX1 156 "StandInLan$Frame" "hops" "I" ∈ zT := zin 102 (by decide +kernel) (by decide +kernel)
theorem fl_W_57 : Cond.fieldLink RX3 57 "StandInLan$Frame" "ports" "I" ∈ zT := zin 103 (by decide +kernel) (by decide +kernel)
theorem fl_L_182 : Cond.fieldLink RX4 182 "StandInLan$Frame" "ports" "I" ∈ zT := zin 104 (by decide +kernel) (by decide +kernel)
theorem fl_W_33 : Cond.fieldLink RX3 33 "StandInLan$Frame" "due" "I" ∈ zT := zin 105 (by decide +kernel) (by decide +kernel)
theorem fl_L_176 : Cond.fieldLink RX4 176 "StandInLan$Frame" "due" "I" ∈ zT := zin 106 (by decide +kernel) (by decide +kernel)
theorem fl_W_9 : Cond.fieldLink RX3 9 "StandInLan$Wire" "places" "[I" ∈ zT := zin 127 (by decide +kernel) (by decide +kernel)
theorem fl_W_17 : Cond.fieldLink RX3 17 "StandInLan$Wire" "way" "[LStandInLan$Frame;" ∈ zT := zin 128 (by decide +kernel) (by decide +kernel)
theorem fl_L_172 : Cond.fieldLink RX4 172 "StandInLan$Wire" "way" "[LStandInLan$Frame;" ∈ zT := zin 129 (by decide +kernel) (by decide +kernel)
theorem fl_W_29 : Cond.fieldLink RX3 29 "StandInLan$Wire" "count" "I" ∈ zT := zin 130 (by decide +kernel) (by decide +kernel)
theorem fl_L_169 : Cond.fieldLink RX4 169 "StandInLan$Wire" "count" "I" ∈ zT := zin 131 (by decide +kernel) (by decide +kernel)
theorem fl_W_36 : Cond.fieldLink RX3 36 "StandInLan$Wire" "clock" "I" ∈ zT := zin 132 (by decide +kernel) (by decide +kernel)
theorem fl_L_118 : Cond.fieldLink RX4 118 "StandInLan$Wire" "clock" "I" ∈ zT := zin 133 (by decide +kernel) (by decide +kernel)
theorem fl_W_22 : Cond.fieldLink RX3 22 "StandInLan$Wire" "draft" "LStandInLan$Frame;" ∈ zT := zin 134 (by decide +kernel) (by decide +kernel)
theorem fl_W_26 : Cond.fieldLink RX3 26 "StandInLan$Wire" "taken" "LStandInLan$Frame;" ∈ zT := zin 135 (by decide +kernel) (by decide +kernel)
theorem fl_S_9 : Cond.fieldLink RX2 9 "StandInLan$Session" "number" "I" ∈ zT := zin 165 (by decide +kernel) (by decide +kernel)
theorem fl_R_113 : Cond.fieldLink RX1 113 "StandInLan$Session" "number" "I" ∈ zT := zin 166 (by decide +kernel) (by decide +kernel)
theorem fl_S_15 : Cond.fieldLink RX2 15 "StandInLan$Session" "other" "I" ∈ zT := zin 167 (by decide +kernel) (by decide +kernel)
theorem fl_R_104 : Cond.fieldLink RX1 104 "StandInLan$Session" "other" "I" ∈ zT := zin 168 (by decide +kernel) (by decide +kernel)
theorem fl_S_18 : Cond.fieldLink RX2 18 "StandInLan$Session" "exists" "Z" ∈ zT := zin 169 (by decide +kernel) (by decide +kernel)
theorem fl_R_69 : Cond.fieldLink RX1 69 "StandInLan$Session" "exists" "Z" ∈ zT := zin 170 (by decide +kernel) (by decide +kernel)
theorem fl_L_97 : Cond.fieldLink RX4 97 "StandInLan$Session" "exists" "Z" ∈ zT := zin 171 (by decide +kernel) (by decide +kernel)
theorem fl_S_22 : Cond.fieldLink RX2 22 "StandInLan$Session" "state" "I" ∈ zT := zin 172 (by decide +kernel) (by decide +kernel)
theorem fl_L_101 : Cond.fieldLink RX4 101 "StandInLan$Session" "state" "I" ∈ zT := zin 173 (by decide +kernel) (by decide +kernel)
theorem fl_R_73 : Cond.fieldLink RX1 73 "StandInLan$Session" "state" "I" ∈ zT := zin 174 (by decide +kernel) (by decide +kernel)
theorem fl_S_25 : Cond.fieldLink RX2 25 "StandInLan$Session" "remoteState" "I" ∈ zT := zin 175 (by decide +kernel) (by decide +kernel)
theorem fl_S_28 : Cond.fieldLink RX2 28 "StandInLan$Session" "remoteNumber" "I" ∈ zT := zin 176 (by decide +kernel) (by decide +kernel)
theorem fl_R_114 : Cond.fieldLink RX1 114 "StandInLan$Session" "remoteNumber" "I" ∈ zT := zin 177 (by decide +kernel) (by decide +kernel)
theorem fl_S_31 : Cond.fieldLink RX2 31 "StandInLan$Session" "diagnosis" "I" ∈ zT := zin 178 (by decide +kernel) (by decide +kernel)
theorem fl_R_107 : Cond.fieldLink RX1 107 "StandInLan$Session" "diagnosis" "I" ∈ zT := zin 179 (by decide +kernel) (by decide +kernel)
theorem fl_S_34 : Cond.fieldLink RX2 34 "StandInLan$Session" "tx" "I" ∈ zT := zin 180 (by decide +kernel) (by decide +kernel)
theorem fl_R_117 : Cond.fieldLink RX1 117 "StandInLan$Session" "tx" "I" ∈ zT := zin 181 (by decide +kernel) (by decide +kernel)
theorem fl_S_37 : Cond.fieldLink RX2 37 "StandInLan$Session" "rx" "I" ∈ zT := zin 182 (by decide +kernel) (by decide +kernel)
theorem fl_R_124 : Cond.fieldLink RX1 124 "StandInLan$Session" "rx" "I" ∈ zT := zin 183 (by decide +kernel) (by decide +kernel)
theorem fl_S_40 : Cond.fieldLink RX2 40 "StandInLan$Session" "multiplier" "I" ∈ zT := zin 184 (by decide +kernel) (by decide +kernel)
theorem fl_R_110 : Cond.fieldLink RX1 110 "StandInLan$Session" "multiplier" "I" ∈ zT := zin 185 (by decide +kernel) (by decide +kernel)
theorem fl_S_43 : Cond.fieldLink RX2 43 "StandInLan$Session" "itsRx" "I" ∈ zT := zin 186 (by decide +kernel) (by decide +kernel)
theorem fl_S_46 : Cond.fieldLink RX2 46 "StandInLan$Session" "itsTx" "I" ∈ zT := zin 187 (by decide +kernel) (by decide +kernel)
theorem fl_S_49 : Cond.fieldLink RX2 49 "StandInLan$Session" "itsMultiplier" "I" ∈ zT := zin 188 (by decide +kernel) (by decide +kernel)
theorem fl_S_52 : Cond.fieldLink RX2 52 "StandInLan$Session" "polls" "Z" ∈ zT := zin 189 (by decide +kernel) (by decide +kernel)
theorem fl_R_222 : Cond.fieldLink RX1 222 "StandInLan$Session" "polls" "Z" ∈ zT := zin 190 (by decide +kernel) (by decide +kernel)
theorem fl_S_71 : Cond.fieldLink RX2 71 "StandInLan$Session" "txInUse" "I" ∈ zT := zin 191 (by decide +kernel) (by decide +kernel)
theorem fl_S_80 : Cond.fieldLink RX2 80 "StandInLan$Session" "rxInUse" "I" ∈ zT := zin 192 (by decide +kernel) (by decide +kernel)
theorem fl_S_68 : Cond.fieldLink RX2 68 "StandInLan$Session" "sendTimer" "I" ∈ zT := zin 193 (by decide +kernel) (by decide +kernel)
theorem fl_R_228 : Cond.fieldLink RX1 228 "StandInLan$Session" "sendTimer" "I" ∈ zT := zin 194 (by decide +kernel) (by decide +kernel)
theorem fl_S_58 : Cond.fieldLink RX2 58 "StandInLan$Session" "detectTimer" "I" ∈ zT := zin 195 (by decide +kernel) (by decide +kernel)
theorem fl_S_61 : Cond.fieldLink RX2 61 "StandInLan$Session" "timesUp" "I" ∈ zT := zin 196 (by decide +kernel) (by decide +kernel)
theorem fl_R_9 : Cond.fieldLink RX1 9 "StandInLan$Router" "number" "I" ∈ zT := zin 236 (by decide +kernel) (by decide +kernel)
theorem fl_R_15 : Cond.fieldLink RX1 15 "StandInLan$Router" "wire" "LStandInLan$Wire;" ∈ zT := zin 237 (by decide +kernel) (by decide +kernel)
theorem fl_R_21 : Cond.fieldLink RX1 21 "StandInLan$Router" "settings" "[I" ∈ zT := zin 238 (by decide +kernel) (by decide +kernel)
theorem fl_L_55 : Cond.fieldLink RX4 55 "StandInLan$Router" "settings" "[I" ∈ zT := zin 239 (by decide +kernel) (by decide +kernel)
theorem fl_R_27 : Cond.fieldLink RX1 27 "StandInLan$Router" "sessions" "[LStandInLan$Session;" ∈ zT := zin 240 (by decide +kernel) (by decide +kernel)
theorem fl_L_87 : Cond.fieldLink RX4 87 "StandInLan$Router" "sessions" "[LStandInLan$Session;" ∈ zT := zin 241 (by decide +kernel) (by decide +kernel)
theorem fl_R_34 : Cond.fieldLink RX1 34 "StandInLan$Router" "state" "I" ∈ zT := zin 242 (by decide +kernel) (by decide +kernel)
theorem fl_L_60 : Cond.fieldLink RX4 60 "StandInLan$Router" "state" "I" ∈ zT := zin 243 (by decide +kernel) (by decide +kernel)
theorem fl_R_37 : Cond.fieldLink RX1 37 "StandInLan$Router" "timer" "I" ∈ zT := zin 244 (by decide +kernel) (by decide +kernel)
theorem fl_R_44 : Cond.fieldLink RX1 44 "StandInLan$Router" "known" "I" ∈ zT := zin 245 (by decide +kernel) (by decide +kernel)
theorem fl_R_47 : Cond.fieldLink RX1 47 "StandInLan$Router" "timesActive" "I" ∈ zT := zin 246 (by decide +kernel) (by decide +kernel)
theorem fl_R_50 : Cond.fieldLink RX1 50 "StandInLan$Router" "taken" "I" ∈ zT := zin 247 (by decide +kernel) (by decide +kernel)
theorem fl_R_53 : Cond.fieldLink RX1 53 "StandInLan$Router" "sent" "I" ∈ zT := zin 248 (by decide +kernel) (by decide +kernel)
theorem fl_R_56 : Cond.fieldLink RX1 56 "StandInLan$Router" "noted" "I" ∈ zT := zin 249 (by decide +kernel) (by decide +kernel)
theorem fl_L_17 : Cond.fieldLink RX4 17 "StandInLan" "wire" "LStandInLan$Wire;" ∈ zT := zin 275 (by decide +kernel) (by decide +kernel)
theorem fl_L_21 : Cond.fieldLink RX4 21 "StandInLan" "routers" "[LStandInLan$Router;" ∈ zT := zin 276 (by decide +kernel) (by decide +kernel)
theorem fl_L_28 : Cond.fieldLink RX4 28 "StandInLan" "tape" "LStandInLan$Frame;" ∈ zT := zin 277 (by decide +kernel) (by decide +kernel)
theorem fl_L_36 : Cond.fieldLink RX4 36 "StandInLan" "LEAST" "[I" ∈ zT := zin 345 (by decide +kernel) (by decide +kernel)
theorem fl_L_40 : Cond.fieldLink RX4 40 "StandInLan" "MOST" "[I" ∈ zT := zin 347 (by decide +kernel) (by decide +kernel)
theorem fl_M_124 : Cond.fieldLink RX5 124 "StandInLanModel" "thrown" "I" ∈ zT := zin 731 (by decide +kernel) (by decide +kernel)
theorem fl_M_150 : Cond.fieldLink RX5 150 "StandInLanModel" "clock" "I" ∈ zT := zin 732 (by decide +kernel) (by decide +kernel)
theorem fl_M_7 : Cond.fieldLink RX5 7 "StandInLanModel" "setting" "[I" ∈ zT := zin 733 (by decide +kernel) (by decide +kernel)
theorem fl_M_13 : Cond.fieldLink RX5 13 "StandInLanModel" "role" "[I" ∈ zT := zin 734 (by decide +kernel) (by decide +kernel)
theorem fl_M_16 : Cond.fieldLink RX5 16 "StandInLanModel" "timer" "[I" ∈ zT := zin 735 (by decide +kernel) (by decide +kernel)
theorem fl_M_19 : Cond.fieldLink RX5 19 "StandInLanModel" "known" "[I" ∈ zT := zin 736 (by decide +kernel) (by decide +kernel)
theorem fl_M_22 : Cond.fieldLink RX5 22 "StandInLanModel" "became" "[I" ∈ zT := zin 737 (by decide +kernel) (by decide +kernel)
theorem fl_M_25 : Cond.fieldLink RX5 25 "StandInLanModel" "took" "[I" ∈ zT := zin 738 (by decide +kernel) (by decide +kernel)
theorem fl_M_28 : Cond.fieldLink RX5 28 "StandInLanModel" "sent" "[I" ∈ zT := zin 739 (by decide +kernel) (by decide +kernel)
theorem fl_M_31 : Cond.fieldLink RX5 31 "StandInLanModel" "noted" "[I" ∈ zT := zin 740 (by decide +kernel) (by decide +kernel)
theorem fl_M_34 : Cond.fieldLink RX5 34 "StandInLanModel" "learned" "[I" ∈ zT := zin 741 (by decide +kernel) (by decide +kernel)
theorem fl_M_37 : Cond.fieldLink RX5 37 "StandInLanModel" "there" "[Z" ∈ zT := zin 742 (by decide +kernel) (by decide +kernel)
theorem fl_M_41 : Cond.fieldLink RX5 41 "StandInLanModel" "state" "[I" ∈ zT := zin 743 (by decide +kernel) (by decide +kernel)
theorem fl_M_44 : Cond.fieldLink RX5 44 "StandInLanModel" "farState" "[I" ∈ zT := zin 744 (by decide +kernel) (by decide +kernel)
theorem fl_M_47 : Cond.fieldLink RX5 47 "StandInLanModel" "farNumber" "[I" ∈ zT := zin 745 (by decide +kernel) (by decide +kernel)
theorem fl_M_50 : Cond.fieldLink RX5 50 "StandInLanModel" "diagnosis" "[I" ∈ zT := zin 746 (by decide +kernel) (by decide +kernel)
theorem fl_M_53 : Cond.fieldLink RX5 53 "StandInLanModel" "tx" "[I" ∈ zT := zin 747 (by decide +kernel) (by decide +kernel)
theorem fl_M_56 : Cond.fieldLink RX5 56 "StandInLanModel" "rx" "[I" ∈ zT := zin 748 (by decide +kernel) (by decide +kernel)
theorem fl_M_59 : Cond.fieldLink RX5 59 "StandInLanModel" "txUsed" "[I" ∈ zT := zin 749 (by decide +kernel) (by decide +kernel)
theorem fl_M_62 : Cond.fieldLink RX5 62 "StandInLanModel" "rxUsed" "[I" ∈ zT := zin 750 (by decide +kernel) (by decide +kernel)
theorem fl_M_65 : Cond.fieldLink RX5 65 "StandInLanModel" "multiplier" "[I" ∈ zT := zin 751 (by decide +kernel) (by decide +kernel)
theorem fl_M_68 : Cond.fieldLink RX5 68 "StandInLanModel" "farRx" "[I" ∈ zT := zin 752 (by decide +kernel) (by decide +kernel)
theorem fl_M_71 : Cond.fieldLink RX5 71 "StandInLanModel" "farTx" "[I" ∈ zT := zin 753 (by decide +kernel) (by decide +kernel)
theorem fl_M_74 : Cond.fieldLink RX5 74 "StandInLanModel" "farMultiplier" "[I" ∈ zT := zin 754 (by decide +kernel) (by decide +kernel)
theorem fl_M_77 : Cond.fieldLink RX5 77 "StandInLanModel" "polls" "[Z" ∈ zT := zin 755 (by decide +kernel) (by decide +kernel)
theorem fl_M_80 : Cond.fieldLink RX5 80 "StandInLanModel" "sends" "[I" ∈ zT := zin 756 (by decide +kernel) (by decide +kernel)
theorem fl_M_83 : Cond.fieldLink RX5 83 "StandInLanModel" "detects" "[I" ∈ zT := zin 757 (by decide +kernel) (by decide +kernel)
theorem fl_M_86 : Cond.fieldLink RX5 86 "StandInLanModel" "ups" "[I" ∈ zT := zin 758 (by decide +kernel) (by decide +kernel)
theorem fl_M_147 : Cond.fieldLink RX5 147 "StandInLanModel" "flying" "I" ∈ zT := zin 759 (by decide +kernel) (by decide +kernel)
theorem fl_M_89 : Cond.fieldLink RX5 89 "StandInLanModel" "due" "[I" ∈ zT := zin 760 (by decide +kernel) (by decide +kernel)
theorem fl_M_92 : Cond.fieldLink RX5 92 "StandInLanModel" "kind" "[I" ∈ zT := zin 761 (by decide +kernel) (by decide +kernel)
theorem fl_M_95 : Cond.fieldLink RX5 95 "StandInLanModel" "from" "[I" ∈ zT := zin 762 (by decide +kernel) (by decide +kernel)
theorem fl_M_98 : Cond.fieldLink RX5 98 "StandInLanModel" "to" "[I" ∈ zT := zin 763 (by decide +kernel) (by decide +kernel)
theorem fl_M_101 : Cond.fieldLink RX5 101 "StandInLanModel" "address" "[I" ∈ zT := zin 764 (by decide +kernel) (by decide +kernel)
theorem fl_M_104 : Cond.fieldLink RX5 104 "StandInLanModel" "ports" "[I" ∈ zT := zin 765 (by decide +kernel) (by decide +kernel)
theorem fl_M_107 : Cond.fieldLink RX5 107 "StandInLanModel" "length" "[I" ∈ zT := zin 766 (by decide +kernel) (by decide +kernel)
theorem fl_M_110 : Cond.fieldLink RX5 110 "StandInLanModel" "bytes" "[I" ∈ zT := zin 767 (by decide +kernel) (by decide +kernel)
theorem fl_M_113 : Cond.fieldLink RX5 113 "StandInLanModel" "packet" "[I" ∈ zT := zin 768 (by decide +kernel) (by decide +kernel)
theorem fl_M_136 : Cond.fieldLink RX5 136 "StandInLanModel" "size" "I" ∈ zT := zin 769 (by decide +kernel) (by decide +kernel)
theorem fl_M_116 : Cond.fieldLink RX5 116 "StandInLanModel" "heard" "[I" ∈ zT := zin 770 (by decide +kernel) (by decide +kernel)
theorem fl_M_192 : Cond.fieldLink RX5 192 "StandInLanModel" "heardSize" "I" ∈ zT := zin 771 (by decide +kernel) (by decide +kernel)
theorem fl_M_119 : Cond.fieldLink RX5 119 "StandInLanModel" "tape" "[I" ∈ zT := zin 772 (by decide +kernel) (by decide +kernel)
theorem fl_M_262 : Cond.fieldLink RX5 262 "StandInLanModel" "taped" "I" ∈ zT := zin 773 (by decide +kernel) (by decide +kernel)
theorem ml_J_46 : Cond.methodLink RXL 46 y_L_init ∈ zT := zin 63 (by decide +kernel) (by decide +kernel)
theorem ml_L_1 : Cond.methodLink RX4 1 ⟨"java/lang/Object", "<init>", "()V"⟩ ∈ zT := zin 66 (by decide +kernel) (by decide +kernel)
theorem ml_L_9 : Cond.methodLink RX4 9 y_W_init ∈ zT := zin 71 (by decide +kernel) (by decide +kernel)
theorem ml_W_3 : Cond.methodLink RX3 3 ⟨"java/lang/Object", "<init>", "()V"⟩ ∈ zT := zin 74 (by decide +kernel) (by decide +kernel)
theorem ml_W_21 : Cond.methodLink RX3 21 y_F_init ∈ zT := zin 78 (by decide +kernel) (by decide +kernel)
theorem ml_F_3 : Cond.methodLink RX0 3 ⟨"java/lang/Object", "<init>", "()V"⟩ ∈ zT := zin 81 (by decide +kernel) (by decide +kernel)
theorem ml_L_14 : Cond.methodLink RX4 14 y_R_init ∈ zT := zin 152 (by decide +kernel) (by decide +kernel)
theorem ml_R_3 : Cond.methodLink RX1 3 ⟨"java/lang/Object", "<init>", "()V"⟩ ∈ zT := zin 155 (by decide +kernel) (by decide +kernel)
theorem ml_R_31 : Cond.methodLink RX1 31 y_S_init ∈ zT := zin 161 (by decide +kernel) (by decide +kernel)
theorem ml_S_3 : Cond.methodLink RX2 3 ⟨"java/lang/Object", "<init>", "()V"⟩ ∈ zT := zin 164 (by decide +kernel) (by decide +kernel)
theorem ml_L_27 : Cond.methodLink RX4 27 y_F_init ∈ zT := zin 274 (by decide +kernel) (by decide +kernel)
theorem ml_J_85 : Cond.methodLink RXL 85 y_L_type ∈ zT := zin 285 (by decide +kernel) (by decide +kernel)
theorem ml_L_139 : Cond.methodLink RX4 139 y_F_put ∈ zT := zin 289 (by decide +kernel) (by decide +kernel)
theorem ml_J_94 : Cond.methodLink RXL 94 y_L_router ∈ zT := zin 293 (by decide +kernel) (by decide +kernel)
theorem ml_L_32 : Cond.methodLink RX4 32 y_L_isRouter ∈ zT := zin 297 (by decide +kernel) (by decide +kernel)
theorem ml_L_161 : Cond.methodLink RX4 161 y_R_tell ∈ zT := zin 300 (by decide +kernel) (by decide +kernel)
theorem ml_R_40 : Cond.methodLink RX1 40 y_R_weighed ∈ zT := zin 304 (by decide +kernel) (by decide +kernel)
theorem ml_J_99 : Cond.methodLink RXL 99 y_L_session ∈ zT := zin 308 (by decide +kernel) (by decide +kernel)
theorem ml_L_165 : Cond.methodLink RX4 165 y_S_tell ∈ zT := zin 312 (by decide +kernel) (by decide +kernel)
theorem ml_J_104 : Cond.methodLink RXL 104 y_L_port ∈ zT := zin 316 (by decide +kernel) (by decide +kernel)
theorem ml_L_166 : Cond.methodLink RX4 166 y_W_placeOf ∈ zT := zin 320 (by decide +kernel) (by decide +kernel)
theorem ml_J_108 : Cond.methodLink RXL 108 y_L_flying ∈ zT := zin 324 (by decide +kernel) (by decide +kernel)
theorem ml_J_112 : Cond.methodLink RXL 112 y_L_frame ∈ zT := zin 328 (by decide +kernel) (by decide +kernel)
theorem ml_L_185 : Cond.methodLink RX4 185 y_F_byteAt ∈ zT := zin 332 (by decide +kernel) (by decide +kernel)
theorem ml_J_50 : Cond.methodLink RXL 50 y_J_set ∈ zT := zin 336 (by decide +kernel) (by decide +kernel)
theorem ml_J_7 : Cond.methodLink RXL 7 y_L_set ∈ zT := zin 341 (by decide +kernel) (by decide +kernel)
theorem ml_L_47 : Cond.methodLink RX4 47 ⟨"java/lang/IndexOutOfBoundsException", "<init>", "(Ljava/lang/String;)V"⟩ ∈ zT := zin 391 (by decide +kernel) (by decide +kernel)
theorem ml_L_54 : Cond.methodLink RX4 54 ⟨"java/lang/IllegalArgumentException", "<init>", "(Ljava/lang/String;)V"⟩ ∈ zT := zin 427 (by decide +kernel) (by decide +kernel)
theorem ml_J_60 : Cond.methodLink RXL 60 y_J_start ∈ zT := zin 433 (by decide +kernel) (by decide +kernel)
theorem ml_J_17 : Cond.methodLink RXL 17 y_L_start ∈ zT := zin 437 (by decide +kernel) (by decide +kernel)
theorem ml_L_68 : Cond.methodLink RX4 68 ⟨"java/lang/IllegalStateException", "<init>", "(Ljava/lang/String;)V"⟩ ∈ zT := zin 452 (by decide +kernel) (by decide +kernel)
theorem ml_L_69 : Cond.methodLink RX4 69 y_R_wake ∈ zT := zin 458 (by decide +kernel) (by decide +kernel)
theorem ml_R_59 : Cond.methodLink RX1 59 y_R_becomeActive ∈ zT := zin 462 (by decide +kernel) (by decide +kernel)
theorem ml_R_65 : Cond.methodLink RX1 65 y_R_advertise ∈ zT := zin 466 (by decide +kernel) (by decide +kernel)
theorem ml_R_81 : Cond.methodLink RX1 81 y_W_newDraft ∈ zT := zin 470 (by decide +kernel) (by decide +kernel)
theorem ml_R_87 : Cond.methodLink RX1 87 y_F_put ∈ zT := zin 474 (by decide +kernel) (by decide +kernel)
theorem ml_R_92 : Cond.methodLink RX1 92 y_F_putTwo ∈ zT := zin 475 (by decide +kernel) (by decide +kernel)
theorem ml_F_19 : Cond.methodLink RX0 19 y_F_put ∈ zT := zin 479 (by decide +kernel) (by decide +kernel)
theorem ml_R_95 : Cond.methodLink RX1 95 y_F_putFour ∈ zT := zin 480 (by decide +kernel) (by decide +kernel)
theorem ml_R_98 : Cond.methodLink RX1 98 y_F_putCheckAt ∈ zT := zin 484 (by decide +kernel) (by decide +kernel)
theorem ml_F_33 : Cond.methodLink RX0 33 y_F_sum ∈ zT := zin 489 (by decide +kernel) (by decide +kernel)
theorem ml_R_101 : Cond.methodLink RX1 101 y_R_sendDraft ∈ zT := zin 495 (by decide +kernel) (by decide +kernel)
theorem ml_R_127 : Cond.methodLink RX1 127 y_W_carryDraft ∈ zT := zin 499 (by decide +kernel) (by decide +kernel)
theorem ml_R_74 : Cond.methodLink RX1 74 y_R_sendEmpty ∈ zT := zin 503 (by decide +kernel) (by decide +kernel)
theorem ml_R_62 : Cond.methodLink RX1 62 y_R_becomeBackup ∈ zT := zin 507 (by decide +kernel) (by decide +kernel)
theorem ml_R_78 : Cond.methodLink RX1 78 y_R_skew ∈ zT := zin 511 (by decide +kernel) (by decide +kernel)
theorem ml_J_64 : Cond.methodLink RXL 64 y_J_stop ∈ zT := zin 515 (by decide +kernel) (by decide +kernel)
theorem ml_J_23 : Cond.methodLink RXL 23 y_L_stop ∈ zT := zin 518 (by decide +kernel) (by decide +kernel)
theorem ml_L_74 : Cond.methodLink RX4 74 y_R_sayGoodbye ∈ zT := zin 523 (by decide +kernel) (by decide +kernel)
theorem ml_L_77 : Cond.methodLink RX4 77 y_R_forgetAll ∈ zT := zin 527 (by decide +kernel) (by decide +kernel)
theorem ml_J_68 : Cond.methodLink RXL 68 y_J_open ∈ zT := zin 531 (by decide +kernel) (by decide +kernel)
theorem ml_J_27 : Cond.methodLink RXL 27 y_L_open ∈ zT := zin 534 (by decide +kernel) (by decide +kernel)
theorem ml_L_82 : Cond.methodLink RX4 82 y_L_isRate ∈ zT := zin 539 (by decide +kernel) (by decide +kernel)
theorem ml_L_91 : Cond.methodLink RX4 91 y_S_begin ∈ zT := zin 543 (by decide +kernel) (by decide +kernel)
theorem ml_S_55 : Cond.methodLink RX2 55 y_S_useRates ∈ zT := zin 547 (by decide +kernel) (by decide +kernel)
theorem ml_S_64 : Cond.methodLink RX2 64 y_S_sendPause ∈ zT := zin 551 (by decide +kernel) (by decide +kernel)
theorem ml_S_89 : Cond.methodLink RX2 89 y_S_slowed ∈ zT := zin 555 (by decide +kernel) (by decide +kernel)
theorem ml_S_83 : Cond.methodLink RX2 83 Lib.Math.max.name ∈ zT := zin 559 (by decide +kernel) (by decide +kernel)
theorem ml_J_72 : Cond.methodLink RXL 72 y_J_change ∈ zT := zin 562 (by decide +kernel) (by decide +kernel)
theorem ml_J_31 : Cond.methodLink RXL 31 y_L_change ∈ zT := zin 565 (by decide +kernel) (by decide +kernel)
theorem ml_L_106 : Cond.methodLink RX4 106 y_S_shut ∈ zT := zin 571 (by decide +kernel) (by decide +kernel)
theorem ml_L_109 : Cond.methodLink RX4 109 y_S_wantRates ∈ zT := zin 575 (by decide +kernel) (by decide +kernel)
theorem ml_S_74 : Cond.methodLink RX2 74 Lib.Math.min.name ∈ zT := zin 579 (by decide +kernel) (by decide +kernel)
theorem ml_S_86 : Cond.methodLink RX2 86 y_S_hurrySend ∈ zT := zin 582 (by decide +kernel) (by decide +kernel)
theorem ml_J_76 : Cond.methodLink RXL 76 y_J_ask ∈ zT := zin 586 (by decide +kernel) (by decide +kernel)
theorem ml_J_35 : Cond.methodLink RXL 35 y_L_ask ∈ zT := zin 589 (by decide +kernel) (by decide +kernel)
theorem ml_L_113 : Cond.methodLink RX4 113 y_R_sendEmpty ∈ zT := zin 593 (by decide +kernel) (by decide +kernel)
theorem ml_J_79 : Cond.methodLink RXL 79 y_J_tick ∈ zT := zin 594 (by decide +kernel) (by decide +kernel)
theorem ml_J_38 : Cond.methodLink RXL 38 y_L_tick ∈ zT := zin 597 (by decide +kernel) (by decide +kernel)
theorem ml_L_121 : Cond.methodLink RX4 121 y_W_countDue ∈ zT := zin 602 (by decide +kernel) (by decide +kernel)
theorem ml_L_125 : Cond.methodLink RX4 125 y_W_takeDue ∈ zT := zin 606 (by decide +kernel) (by decide +kernel)
theorem ml_L_129 : Cond.methodLink RX4 129 y_L_handOut ∈ zT := zin 610 (by decide +kernel) (by decide +kernel)
theorem ml_L_188 : Cond.methodLink RX4 188 y_R_minds ∈ zT := zin 614 (by decide +kernel) (by decide +kernel)
theorem ml_L_157 : Cond.methodLink RX4 157 y_R_hear ∈ zT := zin 618 (by decide +kernel) (by decide +kernel)
theorem ml_R_136 : Cond.methodLink RX1 136 y_R_isForUs ∈ zT := zin 622 (by decide +kernel) (by decide +kernel)
theorem ml_R_162 : Cond.methodLink RX1 162 y_F_byteAt ∈ zT := zin 626 (by decide +kernel) (by decide +kernel)
theorem ml_R_165 : Cond.methodLink RX1 165 y_F_fourAt ∈ zT := zin 627 (by decide +kernel) (by decide +kernel)
theorem ml_F_23 : Cond.methodLink RX0 23 y_F_byteAt ∈ zT := zin 631 (by decide +kernel) (by decide +kernel)
theorem ml_R_168 : Cond.methodLink RX1 168 y_F_sum ∈ zT := zin 632 (by decide +kernel) (by decide +kernel)
theorem ml_R_140 : Cond.methodLink RX1 140 y_R_hearAsActive ∈ zT := zin 634 (by decide +kernel) (by decide +kernel)
theorem ml_R_182 : Cond.methodLink RX1 182 y_R_isAbove ∈ zT := zin 638 (by decide +kernel) (by decide +kernel)
theorem ml_R_178 : Cond.methodLink RX1 178 y_R_intervalIn ∈ zT := zin 642 (by decide +kernel) (by decide +kernel)
theorem ml_R_186 : Cond.methodLink RX1 186 y_F_twoAt ∈ zT := zin 645 (by decide +kernel) (by decide +kernel)
theorem ml_R_172 : Cond.methodLink RX1 172 Lib.Math.max.name ∈ zT := zin 649 (by decide +kernel) (by decide +kernel)
theorem ml_R_144 : Cond.methodLink RX1 144 y_R_hearAsBackup ∈ zT := zin 650 (by decide +kernel) (by decide +kernel)
theorem ml_R_147 : Cond.methodLink RX1 147 y_R_hearPacket ∈ zT := zin 654 (by decide +kernel) (by decide +kernel)
theorem ml_R_191 : Cond.methodLink RX1 191 y_R_isWhole ∈ zT := zin 658 (by decide +kernel) (by decide +kernel)
theorem ml_R_194 : Cond.methodLink RX1 194 y_R_sessionMeant ∈ zT := zin 661 (by decide +kernel) (by decide +kernel)
theorem ml_R_198 : Cond.methodLink RX1 198 y_S_learn ∈ zT := zin 665 (by decide +kernel) (by decide +kernel)
theorem ml_S_93 : Cond.methodLink RX2 93 y_F_byteAt ∈ zT := zin 669 (by decide +kernel) (by decide +kernel)
theorem ml_S_98 : Cond.methodLink RX2 98 y_F_fourAt ∈ zT := zin 670 (by decide +kernel) (by decide +kernel)
theorem ml_S_101 : Cond.methodLink RX2 101 y_S_told ∈ zT := zin 671 (by decide +kernel) (by decide +kernel)
theorem ml_S_105 : Cond.methodLink RX2 105 y_S_follow ∈ zT := zin 676 (by decide +kernel) (by decide +kernel)
theorem ml_S_109 : Cond.methodLink RX2 109 y_S_fall ∈ zT := zin 680 (by decide +kernel) (by decide +kernel)
theorem ml_S_113 : Cond.methodLink RX2 113 y_S_comeUp ∈ zT := zin 684 (by decide +kernel) (by decide +kernel)
theorem ml_R_201 : Cond.methodLink RX1 201 y_R_sendPacket ∈ zT := zin 688 (by decide +kernel) (by decide +kernel)
theorem ml_R_120 : Cond.methodLink RX1 120 y_S_slowed ∈ zT := zin 692 (by decide +kernel) (by decide +kernel)
theorem ml_R_205 : Cond.methodLink RX1 205 y_S_hurrySend ∈ zT := zin 693 (by decide +kernel) (by decide +kernel)
theorem ml_L_133 : Cond.methodLink RX4 133 y_R_runTimers ∈ zT := zin 694 (by decide +kernel) (by decide +kernel)
theorem ml_R_208 : Cond.methodLink RX1 208 y_R_timerFires ∈ zT := zin 698 (by decide +kernel) (by decide +kernel)
theorem ml_R_211 : Cond.methodLink RX1 211 y_R_runSession ∈ zT := zin 702 (by decide +kernel) (by decide +kernel)
theorem ml_R_215 : Cond.methodLink RX1 215 y_S_runDetect ∈ zT := zin 706 (by decide +kernel) (by decide +kernel)
theorem ml_R_218 : Cond.methodLink RX1 218 y_S_sendFires ∈ zT := zin 710 (by decide +kernel) (by decide +kernel)
theorem ml_R_225 : Cond.methodLink RX1 225 y_S_sendPause ∈ zT := zin 714 (by decide +kernel) (by decide +kernel)
theorem ml_J_90 : Cond.methodLink RXL 90 y_J_arrive ∈ zT := zin 715 (by decide +kernel) (by decide +kernel)
theorem ml_J_42 : Cond.methodLink RXL 42 y_L_arrive ∈ zT := zin 718 (by decide +kernel) (by decide +kernel)
theorem ml_J_49 : Cond.methodLink RXL 49 y_M_init ∈ zT := zin 725 (by decide +kernel) (by decide +kernel)
theorem ml_M_1 : Cond.methodLink RX5 1 ⟨"java/lang/Object", "<init>", "()V"⟩ ∈ zT := zin 728 (by decide +kernel) (by decide +kernel)
theorem ml_J_56 : Cond.methodLink RXL 56 y_M_thrown ∈ zT := zin 862 (by decide +kernel) (by decide +kernel)
theorem ml_J_55 : Cond.methodLink RXL 55 y_M_set ∈ zT := zin 866 (by decide +kernel) (by decide +kernel)
theorem ml_M_128 : Cond.methodLink RX5 128 y_M_isRouter ∈ zT := zin 870 (by decide +kernel) (by decide +kernel)
theorem ml_M_132 : Cond.methodLink RX5 132 y_M_fits ∈ zT := zin 873 (by decide +kernel) (by decide +kernel)
theorem ml_J_63 : Cond.methodLink RXL 63 y_M_start ∈ zT := zin 876 (by decide +kernel) (by decide +kernel)
theorem ml_M_143 : Cond.methodLink RX5 143 y_M_is ∈ zT := zin 880 (by decide +kernel) (by decide +kernel)
theorem ml_M_156 : Cond.methodLink RX5 156 y_M_weighed ∈ zT := zin 884 (by decide +kernel) (by decide +kernel)
theorem ml_M_153 : Cond.methodLink RX5 153 y_M_max ∈ zT := zin 888 (by decide +kernel) (by decide +kernel)
theorem ml_M_186 : Cond.methodLink RX5 186 y_M_beActive ∈ zT := zin 891 (by decide +kernel) (by decide +kernel)
theorem ml_M_177 : Cond.methodLink RX5 177 y_M_advertise ∈ zT := zin 895 (by decide +kernel) (by decide +kernel)
theorem ml_M_139 : Cond.methodLink RX5 139 y_M_put ∈ zT := zin 899 (by decide +kernel) (by decide +kernel)
theorem ml_M_165 : Cond.methodLink RX5 165 y_M_putMany ∈ zT := zin 903 (by decide +kernel) (by decide +kernel)
theorem ml_M_169 : Cond.methodLink RX5 169 y_M_sum ∈ zT := zin 908 (by decide +kernel) (by decide +kernel)
theorem ml_M_162 : Cond.methodLink RX5 162 y_M_fold ∈ zT := zin 912 (by decide +kernel) (by decide +kernel)
theorem ml_M_173 : Cond.methodLink RX5 173 y_M_send ∈ zT := zin 915 (by decide +kernel) (by decide +kernel)
theorem ml_M_189 : Cond.methodLink RX5 189 y_M_beBackup ∈ zT := zin 919 (by decide +kernel) (by decide +kernel)
theorem ml_M_180 : Cond.methodLink RX5 180 y_M_skew ∈ zT := zin 923 (by decide +kernel) (by decide +kernel)
theorem ml_M_183 : Cond.methodLink RX5 183 y_M_atLeastOne ∈ zT := zin 927 (by decide +kernel) (by decide +kernel)
theorem ml_J_67 : Cond.methodLink RXL 67 y_M_stop ∈ zT := zin 930 (by decide +kernel) (by decide +kernel)
theorem ml_J_78 : Cond.methodLink RXL 78 y_M_ask ∈ zT := zin 934 (by decide +kernel) (by decide +kernel)
theorem ml_J_71 : Cond.methodLink RXL 71 y_M_open ∈ zT := zin 938 (by decide +kernel) (by decide +kernel)
theorem ml_M_204 : Cond.methodLink RX5 204 y_M_setSend ∈ zT := zin 942 (by decide +kernel) (by decide +kernel)
theorem ml_M_201 : Cond.methodLink RX5 201 y_M_sendTime ∈ zT := zin 946 (by decide +kernel) (by decide +kernel)
theorem ml_J_75 : Cond.methodLink RXL 75 y_M_change ∈ zT := zin 950 (by decide +kernel) (by decide +kernel)
theorem ml_M_207 : Cond.methodLink RX5 207 y_M_hurry ∈ zT := zin 954 (by decide +kernel) (by decide +kernel)
theorem ml_J_82 : Cond.methodLink RXL 82 y_M_tick ∈ zT := zin 958 (by decide +kernel) (by decide +kernel)
theorem ml_M_256 : Cond.methodLink RX5 256 y_M_arriveAll ∈ zT := zin 962 (by decide +kernel) (by decide +kernel)
theorem ml_M_243 : Cond.methodLink RX5 243 y_M_forget ∈ zT := zin 966 (by decide +kernel) (by decide +kernel)
theorem ml_M_246 : Cond.methodLink RX5 246 y_M_reach ∈ zT := zin 970 (by decide +kernel) (by decide +kernel)
theorem ml_M_236 : Cond.methodLink RX5 236 y_M_advertised ∈ zT := zin 974 (by decide +kernel) (by decide +kernel)
theorem ml_M_195 : Cond.methodLink RX5 195 y_M_told ∈ zT := zin 978 (by decide +kernel) (by decide +kernel)
theorem ml_M_240 : Cond.methodLink RX5 240 y_M_packeted ∈ zT := zin 983 (by decide +kernel) (by decide +kernel)
theorem ml_M_219 : Cond.methodLink RX5 219 y_M_meant ∈ zT := zin 987 (by decide +kernel) (by decide +kernel)
theorem ml_M_222 : Cond.methodLink RX5 222 y_M_capped ∈ zT := zin 991 (by decide +kernel) (by decide +kernel)
theorem ml_M_229 : Cond.methodLink RX5 229 y_M_turn ∈ zT := zin 998 (by decide +kernel) (by decide +kernel)
theorem ml_M_213 : Cond.methodLink RX5 213 y_M_goDown ∈ zT := zin 1002 (by decide +kernel) (by decide +kernel)
theorem ml_M_216 : Cond.methodLink RX5 216 y_M_goUp ∈ zT := zin 1006 (by decide +kernel) (by decide +kernel)
theorem ml_M_232 : Cond.methodLink RX5 232 y_M_sendPacket ∈ zT := zin 1010 (by decide +kernel) (by decide +kernel)
theorem ml_M_259 : Cond.methodLink RX5 259 y_M_work ∈ zT := zin 1014 (by decide +kernel) (by decide +kernel)
theorem ml_M_250 : Cond.methodLink RX5 250 y_M_timerFires ∈ zT := zin 1018 (by decide +kernel) (by decide +kernel)
theorem ml_M_253 : Cond.methodLink RX5 253 y_M_detectFires ∈ zT := zin 1022 (by decide +kernel) (by decide +kernel)
theorem ml_J_89 : Cond.methodLink RXL 89 y_M_type ∈ zT := zin 1026 (by decide +kernel) (by decide +kernel)
theorem ml_J_93 : Cond.methodLink RXL 93 y_M_arrive ∈ zT := zin 1031 (by decide +kernel) (by decide +kernel)
theorem ml_M_267 : Cond.methodLink RX5 267 y_M_raise ∈ zT := zin 1035 (by decide +kernel) (by decide +kernel)
theorem ml_J_98 : Cond.methodLink RXL 98 y_M_router ∈ zT := zin 1039 (by decide +kernel) (by decide +kernel)
theorem ml_J_103 : Cond.methodLink RXL 103 y_M_session ∈ zT := zin 1043 (by decide +kernel) (by decide +kernel)
theorem ml_J_107 : Cond.methodLink RXL 107 y_M_port ∈ zT := zin 1047 (by decide +kernel) (by decide +kernel)
theorem ml_J_111 : Cond.methodLink RXL 111 y_M_flying ∈ zT := zin 1051 (by decide +kernel) (by decide +kernel)
theorem ml_J_115 : Cond.methodLink RXL 115 y_M_frame ∈ zT := zin 1055 (by decide +kernel) (by decide +kernel)
theorem co_R_19 : Cond.constant RX1 19 (167772160) ∈ zT := zin 156 (by decide +kernel) (by decide +kernel)
theorem co_R_20 : Cond.constant RX1 20 (167772400) ∈ zT := zin 157 (by decide +kernel) (by decide +kernel)
theorem co_F_30 : Cond.constant RX0 30 (65535) ∈ zT := zin 488 (by decide +kernel) (by decide +kernel)
theorem co_F_31 : Cond.constant RX0 31 (57344) ∈ zT := zin 493 (by decide +kernel) (by decide +kernel)
theorem co_F_32 : Cond.constant RX0 32 (65536) ∈ zT := zin 494 (by decide +kernel) (by decide +kernel)
theorem co_R_171 : Cond.constant RX1 171 (65535) ∈ zT := zin 633 (by decide +kernel) (by decide +kernel)
theorem co_S_108 : Cond.constant RX2 108 (100000) ∈ zT := zin 674 (by decide +kernel) (by decide +kernel)
theorem co_S_104 : Cond.constant RX2 104 (10000000) ∈ zT := zin 675 (by decide +kernel) (by decide +kernel)
theorem co_M_122 : Cond.constant RX5 122 (167772160) ∈ zT := zin 729 (by decide +kernel) (by decide +kernel)
theorem co_M_123 : Cond.constant RX5 123 (167772400) ∈ zT := zin 730 (by decide +kernel) (by decide +kernel)
theorem co_M_160 : Cond.constant RX5 160 (65535) ∈ zT := zin 907 (by decide +kernel) (by decide +kernel)
theorem co_M_161 : Cond.constant RX5 161 (57344) ∈ zT := zin 911 (by decide +kernel) (by decide +kernel)
theorem co_M_212 : Cond.constant RX5 212 (100000) ∈ zT := zin 995 (by decide +kernel) (by decide +kernel)
theorem co_M_228 : Cond.constant RX5 228 (10000000) ∈ zT := zin 997 (by decide +kernel) (by decide +kernel)
theorem cl_R_189 : Cond.constantLong RX1 189 (4294967295) ∈ zT := zin 641 (by decide +kernel) (by decide +kernel)
theorem cl_M_199 : Cond.constantLong RX5 199 (4294967295) ∈ zT := zin 982 (by decide +kernel) (by decide +kernel)
theorem cl_M_210 : Cond.constantLong RX5 210 (100000) ∈ zT := zin 994 (by decide +kernel) (by decide +kernel)
theorem cl_M_226 : Cond.constantLong RX5 226 (10000000) ∈ zT := zin 996 (by decide +kernel) (by decide +kernel)
theorem cl_M_265 : Cond.constantLong RX5 265 (255) ∈ zT := zin 1030 (by decide +kernel) (by decide +kernel)
theorem cl_J_83 : Cond.constantLong RXL 83 (4294967295) ∈ zT := zin 1059 (by decide +kernel) (by decide +kernel)
theorem mi_L_set : zMi y_L_set b_L_set 4 none 3 := ⟨zin 342 (by decide +kernel) (by decide +kernel), zin 343 (by decide +kernel) (by decide +kernel), zin 48 (by decide +kernel) (by decide +kernel), zin 344 (by decide +kernel) (by decide +kernel), (by decide +kernel), (by decide +kernel)⟩
theorem mi_L_start : zMi y_L_start b_L_start 2 none 1 := ⟨zin 438 (by decide +kernel) (by decide +kernel), zin 439 (by decide +kernel) (by decide +kernel), zin 48 (by decide +kernel) (by decide +kernel), zin 440 (by decide +kernel) (by decide +kernel), (by decide +kernel), (by decide +kernel)⟩
theorem mi_L_stop : zMi y_L_stop b_L_stop 3 none 2 := ⟨zin 519 (by decide +kernel) (by decide +kernel), zin 520 (by decide +kernel) (by decide +kernel), zin 48 (by decide +kernel) (by decide +kernel), zin 521 (by decide +kernel) (by decide +kernel), (by decide +kernel), (by decide +kernel)⟩
theorem mi_L_open : zMi y_L_open b_L_open 6 none 5 := ⟨zin 535 (by decide +kernel) (by decide +kernel), zin 536 (by decide +kernel) (by decide +kernel), zin 48 (by decide +kernel) (by decide +kernel), zin 537 (by decide +kernel) (by decide +kernel), (by decide +kernel), (by decide +kernel)⟩
theorem mi_L_change : zMi y_L_change b_L_change 7 none 4 := ⟨zin 566 (by decide +kernel) (by decide +kernel), zin 567 (by decide +kernel) (by decide +kernel), zin 48 (by decide +kernel) (by decide +kernel), zin 568 (by decide +kernel) (by decide +kernel), (by decide +kernel), (by decide +kernel)⟩
theorem mi_L_ask : zMi y_L_ask b_L_ask 2 none 1 := ⟨zin 590 (by decide +kernel) (by decide +kernel), zin 591 (by decide +kernel) (by decide +kernel), zin 48 (by decide +kernel) (by decide +kernel), zin 592 (by decide +kernel) (by decide +kernel), (by decide +kernel), (by decide +kernel)⟩
theorem mi_L_tick : zMi y_L_tick b_L_tick 5 (some .int) 1 := ⟨zin 598 (by decide +kernel) (by decide +kernel), zin 599 (by decide +kernel) (by decide +kernel), zin 48 (by decide +kernel) (by decide +kernel), zin 600 (by decide +kernel) (by decide +kernel), (by decide +kernel), (by decide +kernel)⟩
theorem mi_L_type : zMi y_L_type b_L_type 5 (some .boolean) 2 := ⟨zin 286 (by decide +kernel) (by decide +kernel), zin 287 (by decide +kernel) (by decide +kernel), zin 48 (by decide +kernel) (by decide +kernel), zin 288 (by decide +kernel) (by decide +kernel), (by decide +kernel), (by decide +kernel)⟩
theorem mi_L_arrive : zMi y_L_arrive b_L_arrive 7 (some .boolean) 5 := ⟨zin 719 (by decide +kernel) (by decide +kernel), zin 720 (by decide +kernel) (by decide +kernel), zin 48 (by decide +kernel) (by decide +kernel), zin 721 (by decide +kernel) (by decide +kernel), (by decide +kernel), (by decide +kernel)⟩
theorem mi_L_router : zMi y_L_router b_L_router 3 (some .int) 2 := ⟨zin 294 (by decide +kernel) (by decide +kernel), zin 295 (by decide +kernel) (by decide +kernel), zin 48 (by decide +kernel) (by decide +kernel), zin 296 (by decide +kernel) (by decide +kernel), (by decide +kernel), (by decide +kernel)⟩
theorem mi_L_session : zMi y_L_session b_L_session 5 (some .int) 3 := ⟨zin 309 (by decide +kernel) (by decide +kernel), zin 310 (by decide +kernel) (by decide +kernel), zin 48 (by decide +kernel) (by decide +kernel), zin 311 (by decide +kernel) (by decide +kernel), (by decide +kernel), (by decide +kernel)⟩
theorem mi_L_port : zMi y_L_port b_L_port 2 (some .int) 1 := ⟨zin 317 (by decide +kernel) (by decide +kernel), zin 318 (by decide +kernel) (by decide +kernel), zin 48 (by decide +kernel) (by decide +kernel), zin 319 (by decide +kernel) (by decide +kernel), (by decide +kernel), (by decide +kernel)⟩
theorem mi_L_flying : zMi y_L_flying b_L_flying 1 (some .int) 0 := ⟨zin 325 (by decide +kernel) (by decide +kernel), zin 326 (by decide +kernel) (by decide +kernel), zin 48 (by decide +kernel) (by decide +kernel), zin 327 (by decide +kernel) (by decide +kernel), (by decide +kernel), (by decide +kernel)⟩
theorem mi_L_frame : zMi y_L_frame b_L_frame 4 (some .int) 2 := ⟨zin 329 (by decide +kernel) (by decide +kernel), zin 330 (by decide +kernel) (by decide +kernel), zin 48 (by decide +kernel) (by decide +kernel), zin 331 (by decide +kernel) (by decide +kernel), (by decide +kernel), (by decide +kernel)⟩
theorem ms_L_isRouter : zMs y_L_isRouter b_L_isRouter 1 (some .boolean) 1 := ⟨zin 298 (by decide +kernel) (by decide +kernel), zin 48 (by decide +kernel) (by decide +kernel), zin 299 (by decide +kernel) (by decide +kernel), (by decide +kernel), (by decide +kernel)⟩
theorem ms_L_isRate : zMs y_L_isRate b_L_isRate 1 (some .boolean) 1 := ⟨zin 540 (by decide +kernel) (by decide +kernel), zin 48 (by decide +kernel) (by decide +kernel), zin 541 (by decide +kernel) (by decide +kernel), (by decide +kernel), (by decide +kernel)⟩
theorem mi_L_handOut : zMi y_L_handOut b_L_handOut 3 none 1 := ⟨zin 612 (by decide +kernel) (by decide +kernel), zin 8 (by decide +kernel) (by decide +kernel), zin 48 (by decide +kernel) (by decide +kernel), zin 613 (by decide +kernel) (by decide +kernel), (by decide +kernel), (by decide +kernel)⟩
theorem mi_M_thrown : zMi y_M_thrown b_M_thrown 1 (some .int) 0 := ⟨zin 863 (by decide +kernel) (by decide +kernel), zin 864 (by decide +kernel) (by decide +kernel), zin 53 (by decide +kernel) (by decide +kernel), zin 865 (by decide +kernel) (by decide +kernel), (by decide +kernel), (by decide +kernel)⟩
theorem mi_M_raise : zMi y_M_raise b_M_raise 2 (some .boolean) 1 := ⟨zin 1037 (by decide +kernel) (by decide +kernel), zin 46 (by decide +kernel) (by decide +kernel), zin 53 (by decide +kernel) (by decide +kernel), zin 1038 (by decide +kernel) (by decide +kernel), (by decide +kernel), (by decide +kernel)⟩
theorem ms_M_isRouter : zMs y_M_isRouter b_M_isRouter 1 (some .boolean) 1 := ⟨zin 871 (by decide +kernel) (by decide +kernel), zin 53 (by decide +kernel) (by decide +kernel), zin 872 (by decide +kernel) (by decide +kernel), (by decide +kernel), (by decide +kernel)⟩
theorem mi_M_is : zMi y_M_is b_M_is 3 (some .int) 2 := ⟨zin 882 (by decide +kernel) (by decide +kernel), zin 20 (by decide +kernel) (by decide +kernel), zin 53 (by decide +kernel) (by decide +kernel), zin 883 (by decide +kernel) (by decide +kernel), (by decide +kernel), (by decide +kernel)⟩
theorem ms_M_fits : zMs y_M_fits b_M_fits 2 (some .boolean) 2 := ⟨zin 874 (by decide +kernel) (by decide +kernel), zin 53 (by decide +kernel) (by decide +kernel), zin 875 (by decide +kernel) (by decide +kernel), (by decide +kernel), (by decide +kernel)⟩
theorem mi_M_set : zMi y_M_set b_M_set 4 none 3 := ⟨zin 867 (by decide +kernel) (by decide +kernel), zin 868 (by decide +kernel) (by decide +kernel), zin 53 (by decide +kernel) (by decide +kernel), zin 869 (by decide +kernel) (by decide +kernel), (by decide +kernel), (by decide +kernel)⟩
theorem mi_M_put : zMi y_M_put b_M_put 2 none 1 := ⟨zin 901 (by decide +kernel) (by decide +kernel), zin 24 (by decide +kernel) (by decide +kernel), zin 53 (by decide +kernel) (by decide +kernel), zin 902 (by decide +kernel) (by decide +kernel), (by decide +kernel), (by decide +kernel)⟩
theorem mi_M_putMany : zMi y_M_putMany b_M_putMany 4 none 2 := ⟨zin 905 (by decide +kernel) (by decide +kernel), zin 25 (by decide +kernel) (by decide +kernel), zin 53 (by decide +kernel) (by decide +kernel), zin 906 (by decide +kernel) (by decide +kernel), (by decide +kernel), (by decide +kernel)⟩
theorem mi_M_send : zMi y_M_send b_M_send 8 none 4 := ⟨zin 917 (by decide +kernel) (by decide +kernel), zin 26 (by decide +kernel) (by decide +kernel), zin 53 (by decide +kernel) (by decide +kernel), zin 918 (by decide +kernel) (by decide +kernel), (by decide +kernel), (by decide +kernel)⟩
theorem mi_M_forget : zMi y_M_forget b_M_forget 4 none 1 := ⟨zin 968 (by decide +kernel) (by decide +kernel), zin 33 (by decide +kernel) (by decide +kernel), zin 53 (by decide +kernel) (by decide +kernel), zin 969 (by decide +kernel) (by decide +kernel), (by decide +kernel), (by decide +kernel)⟩
theorem mi_M_weighed : zMi y_M_weighed b_M_weighed 5 (some .int) 1 := ⟨zin 886 (by decide +kernel) (by decide +kernel), zin 21 (by decide +kernel) (by decide +kernel), zin 53 (by decide +kernel) (by decide +kernel), zin 887 (by decide +kernel) (by decide +kernel), (by decide +kernel), (by decide +kernel)⟩
theorem ms_M_max : zMs y_M_max b_M_max 2 (some .int) 2 := ⟨zin 889 (by decide +kernel) (by decide +kernel), zin 53 (by decide +kernel) (by decide +kernel), zin 890 (by decide +kernel) (by decide +kernel), (by decide +kernel), (by decide +kernel)⟩
theorem ms_M_atLeastOne : zMs y_M_atLeastOne b_M_atLeastOne 1 (some .int) 1 := ⟨zin 928 (by decide +kernel) (by decide +kernel), zin 53 (by decide +kernel) (by decide +kernel), zin 929 (by decide +kernel) (by decide +kernel), (by decide +kernel), (by decide +kernel)⟩
theorem mi_M_skew : zMi y_M_skew b_M_skew 2 (some .int) 1 := ⟨zin 925 (by decide +kernel) (by decide +kernel), zin 28 (by decide +kernel) (by decide +kernel), zin 53 (by decide +kernel) (by decide +kernel), zin 926 (by decide +kernel) (by decide +kernel), (by decide +kernel), (by decide +kernel)⟩
theorem ms_M_fold : zMs y_M_fold b_M_fold 2 (some .int) 1 := ⟨zin 913 (by decide +kernel) (by decide +kernel), zin 53 (by decide +kernel) (by decide +kernel), zin 914 (by decide +kernel) (by decide +kernel), (by decide +kernel), (by decide +kernel)⟩
theorem ms_M_sum : zMs y_M_sum b_M_sum 4 (some .int) 2 := ⟨zin 909 (by decide +kernel) (by decide +kernel), zin 53 (by decide +kernel) (by decide +kernel), zin 910 (by decide +kernel) (by decide +kernel), (by decide +kernel), (by decide +kernel)⟩
theorem mi_M_advertise : zMi y_M_advertise b_M_advertise 4 none 2 := ⟨zin 897 (by decide +kernel) (by decide +kernel), zin 23 (by decide +kernel) (by decide +kernel), zin 53 (by decide +kernel) (by decide +kernel), zin 898 (by decide +kernel) (by decide +kernel), (by decide +kernel), (by decide +kernel)⟩
theorem mi_M_beActive : zMi y_M_beActive b_M_beActive 2 none 1 := ⟨zin 893 (by decide +kernel) (by decide +kernel), zin 22 (by decide +kernel) (by decide +kernel), zin 53 (by decide +kernel) (by decide +kernel), zin 894 (by decide +kernel) (by decide +kernel), (by decide +kernel), (by decide +kernel)⟩
theorem mi_M_beBackup : zMi y_M_beBackup b_M_beBackup 2 none 1 := ⟨zin 921 (by decide +kernel) (by decide +kernel), zin 27 (by decide +kernel) (by decide +kernel), zin 53 (by decide +kernel) (by decide +kernel), zin 922 (by decide +kernel) (by decide +kernel), (by decide +kernel), (by decide +kernel)⟩
theorem mi_M_start : zMi y_M_start b_M_start 2 none 1 := ⟨zin 877 (by decide +kernel) (by decide +kernel), zin 878 (by decide +kernel) (by decide +kernel), zin 53 (by decide +kernel) (by decide +kernel), zin 879 (by decide +kernel) (by decide +kernel), (by decide +kernel), (by decide +kernel)⟩
theorem mi_M_stop : zMi y_M_stop b_M_stop 4 none 2 := ⟨zin 931 (by decide +kernel) (by decide +kernel), zin 932 (by decide +kernel) (by decide +kernel), zin 53 (by decide +kernel) (by decide +kernel), zin 933 (by decide +kernel) (by decide +kernel), (by decide +kernel), (by decide +kernel)⟩
theorem mi_M_timerFires : zMi y_M_timerFires b_M_timerFires 2 none 1 := ⟨zin 1020 (by decide +kernel) (by decide +kernel), zin 44 (by decide +kernel) (by decide +kernel), zin 53 (by decide +kernel) (by decide +kernel), zin 1021 (by decide +kernel) (by decide +kernel), (by decide +kernel), (by decide +kernel)⟩
theorem mi_M_told : zMi y_M_told b_M_told 6 (some .long) 2 := ⟨zin 980 (by decide +kernel) (by decide +kernel), zin 36 (by decide +kernel) (by decide +kernel), zin 53 (by decide +kernel) (by decide +kernel), zin 981 (by decide +kernel) (by decide +kernel), (by decide +kernel), (by decide +kernel)⟩
theorem mi_M_advertised : zMi y_M_advertised b_M_advertised 8 (some .boolean) 3 := ⟨zin 976 (by decide +kernel) (by decide +kernel), zin 35 (by decide +kernel) (by decide +kernel), zin 53 (by decide +kernel) (by decide +kernel), zin 977 (by decide +kernel) (by decide +kernel), (by decide +kernel), (by decide +kernel)⟩
theorem mi_M_ask : zMi y_M_ask b_M_ask 2 none 1 := ⟨zin 935 (by decide +kernel) (by decide +kernel), zin 936 (by decide +kernel) (by decide +kernel), zin 53 (by decide +kernel) (by decide +kernel), zin 937 (by decide +kernel) (by decide +kernel), (by decide +kernel), (by decide +kernel)⟩
theorem mi_M_sendTime : zMi y_M_sendTime b_M_sendTime 2 (some .int) 1 := ⟨zin 948 (by decide +kernel) (by decide +kernel), zin 30 (by decide +kernel) (by decide +kernel), zin 53 (by decide +kernel) (by decide +kernel), zin 949 (by decide +kernel) (by decide +kernel), (by decide +kernel), (by decide +kernel)⟩
theorem mi_M_setSend : zMi y_M_setSend b_M_setSend 2 none 1 := ⟨zin 944 (by decide +kernel) (by decide +kernel), zin 29 (by decide +kernel) (by decide +kernel), zin 53 (by decide +kernel) (by decide +kernel), zin 945 (by decide +kernel) (by decide +kernel), (by decide +kernel), (by decide +kernel)⟩
theorem mi_M_hurry : zMi y_M_hurry b_M_hurry 2 none 1 := ⟨zin 956 (by decide +kernel) (by decide +kernel), zin 31 (by decide +kernel) (by decide +kernel), zin 53 (by decide +kernel) (by decide +kernel), zin 957 (by decide +kernel) (by decide +kernel), (by decide +kernel), (by decide +kernel)⟩
theorem mi_M_sendPacket : zMi y_M_sendPacket b_M_sendPacket 5 none 3 := ⟨zin 1012 (by decide +kernel) (by decide +kernel), zin 42 (by decide +kernel) (by decide +kernel), zin 53 (by decide +kernel) (by decide +kernel), zin 1013 (by decide +kernel) (by decide +kernel), (by decide +kernel), (by decide +kernel)⟩
theorem mi_M_open : zMi y_M_open b_M_open 8 none 5 := ⟨zin 939 (by decide +kernel) (by decide +kernel), zin 940 (by decide +kernel) (by decide +kernel), zin 53 (by decide +kernel) (by decide +kernel), zin 941 (by decide +kernel) (by decide +kernel), (by decide +kernel), (by decide +kernel)⟩
theorem mi_M_change : zMi y_M_change b_M_change 9 none 4 := ⟨zin 951 (by decide +kernel) (by decide +kernel), zin 952 (by decide +kernel) (by decide +kernel), zin 53 (by decide +kernel) (by decide +kernel), zin 953 (by decide +kernel) (by decide +kernel), (by decide +kernel), (by decide +kernel)⟩
theorem mi_M_meant : zMi y_M_meant b_M_meant 6 (some .int) 2 := ⟨zin 989 (by decide +kernel) (by decide +kernel), zin 38 (by decide +kernel) (by decide +kernel), zin 53 (by decide +kernel) (by decide +kernel), zin 990 (by decide +kernel) (by decide +kernel), (by decide +kernel), (by decide +kernel)⟩
theorem ms_M_capped : zMs y_M_capped b_M_capped 2 (some .int) 1 := ⟨zin 992 (by decide +kernel) (by decide +kernel), zin 53 (by decide +kernel) (by decide +kernel), zin 993 (by decide +kernel) (by decide +kernel), (by decide +kernel), (by decide +kernel)⟩
theorem mi_M_goDown : zMi y_M_goDown b_M_goDown 3 none 2 := ⟨zin 1004 (by decide +kernel) (by decide +kernel), zin 40 (by decide +kernel) (by decide +kernel), zin 53 (by decide +kernel) (by decide +kernel), zin 1005 (by decide +kernel) (by decide +kernel), (by decide +kernel), (by decide +kernel)⟩
theorem mi_M_goUp : zMi y_M_goUp b_M_goUp 2 none 1 := ⟨zin 1008 (by decide +kernel) (by decide +kernel), zin 41 (by decide +kernel) (by decide +kernel), zin 53 (by decide +kernel) (by decide +kernel), zin 1009 (by decide +kernel) (by decide +kernel), (by decide +kernel), (by decide +kernel)⟩
theorem mi_M_turn : zMi y_M_turn b_M_turn 4 none 2 := ⟨zin 1000 (by decide +kernel) (by decide +kernel), zin 39 (by decide +kernel) (by decide +kernel), zin 53 (by decide +kernel) (by decide +kernel), zin 1001 (by decide +kernel) (by decide +kernel), (by decide +kernel), (by decide +kernel)⟩
theorem mi_M_packeted : zMi y_M_packeted b_M_packeted 11 (some .boolean) 3 := ⟨zin 985 (by decide +kernel) (by decide +kernel), zin 37 (by decide +kernel) (by decide +kernel), zin 53 (by decide +kernel) (by decide +kernel), zin 986 (by decide +kernel) (by decide +kernel), (by decide +kernel), (by decide +kernel)⟩
theorem mi_M_detectFires : zMi y_M_detectFires b_M_detectFires 2 none 1 := ⟨zin 1024 (by decide +kernel) (by decide +kernel), zin 45 (by decide +kernel) (by decide +kernel), zin 53 (by decide +kernel) (by decide +kernel), zin 1025 (by decide +kernel) (by decide +kernel), (by decide +kernel), (by decide +kernel)⟩
theorem mi_M_reach : zMi y_M_reach b_M_reach 7 none 5 := ⟨zin 972 (by decide +kernel) (by decide +kernel), zin 34 (by decide +kernel) (by decide +kernel), zin 53 (by decide +kernel) (by decide +kernel), zin 973 (by decide +kernel) (by decide +kernel), (by decide +kernel), (by decide +kernel)⟩
theorem mi_M_arriveAll : zMi y_M_arriveAll b_M_arriveAll 8 none 0 := ⟨zin 964 (by decide +kernel) (by decide +kernel), zin 32 (by decide +kernel) (by decide +kernel), zin 53 (by decide +kernel) (by decide +kernel), zin 965 (by decide +kernel) (by decide +kernel), (by decide +kernel), (by decide +kernel)⟩
theorem mi_M_work : zMi y_M_work b_M_work 4 none 1 := ⟨zin 1016 (by decide +kernel) (by decide +kernel), zin 43 (by decide +kernel) (by decide +kernel), zin 53 (by decide +kernel) (by decide +kernel), zin 1017 (by decide +kernel) (by decide +kernel), (by decide +kernel), (by decide +kernel)⟩
theorem mi_M_tick : zMi y_M_tick b_M_tick 4 (some .int) 1 := ⟨zin 959 (by decide +kernel) (by decide +kernel), zin 960 (by decide +kernel) (by decide +kernel), zin 53 (by decide +kernel) (by decide +kernel), zin 961 (by decide +kernel) (by decide +kernel), (by decide +kernel), (by decide +kernel)⟩
theorem mi_M_type : zMi y_M_type b_M_type 5 (some .boolean) 2 := ⟨zin 1027 (by decide +kernel) (by decide +kernel), zin 1028 (by decide +kernel) (by decide +kernel), zin 53 (by decide +kernel) (by decide +kernel), zin 1029 (by decide +kernel) (by decide +kernel), (by decide +kernel), (by decide +kernel)⟩
theorem mi_M_arrive : zMi y_M_arrive b_M_arrive 9 (some .boolean) 5 := ⟨zin 1032 (by decide +kernel) (by decide +kernel), zin 1033 (by decide +kernel) (by decide +kernel), zin 53 (by decide +kernel) (by decide +kernel), zin 1034 (by decide +kernel) (by decide +kernel), (by decide +kernel), (by decide +kernel)⟩
theorem mi_M_router : zMi y_M_router b_M_router 4 (some .int) 2 := ⟨zin 1040 (by decide +kernel) (by decide +kernel), zin 1041 (by decide +kernel) (by decide +kernel), zin 53 (by decide +kernel) (by decide +kernel), zin 1042 (by decide +kernel) (by decide +kernel), (by decide +kernel), (by decide +kernel)⟩
theorem mi_M_session : zMi y_M_session b_M_session 5 (some .int) 3 := ⟨zin 1044 (by decide +kernel) (by decide +kernel), zin 1045 (by decide +kernel) (by decide +kernel), zin 53 (by decide +kernel) (by decide +kernel), zin 1046 (by decide +kernel) (by decide +kernel), (by decide +kernel), (by decide +kernel)⟩
theorem mi_M_port : zMi y_M_port b_M_port 2 (some .int) 1 := ⟨zin 1048 (by decide +kernel) (by decide +kernel), zin 1049 (by decide +kernel) (by decide +kernel), zin 53 (by decide +kernel) (by decide +kernel), zin 1050 (by decide +kernel) (by decide +kernel), (by decide +kernel), (by decide +kernel)⟩
theorem mi_M_flying : zMi y_M_flying b_M_flying 1 (some .int) 0 := ⟨zin 1052 (by decide +kernel) (by decide +kernel), zin 1053 (by decide +kernel) (by decide +kernel), zin 53 (by decide +kernel) (by decide +kernel), zin 1054 (by decide +kernel) (by decide +kernel), (by decide +kernel), (by decide +kernel)⟩
theorem mi_M_frame : zMi y_M_frame b_M_frame 3 (some .int) 2 := ⟨zin 1056 (by decide +kernel) (by decide +kernel), zin 1057 (by decide +kernel) (by decide +kernel), zin 53 (by decide +kernel) (by decide +kernel), zin 1058 (by decide +kernel) (by decide +kernel), (by decide +kernel), (by decide +kernel)⟩
theorem mi_F_put : zMi y_F_put b_F_put 2 none 1 := ⟨zin 290 (by decide +kernel) (by decide +kernel), zin 291 (by decide +kernel) (by decide +kernel), zin 50 (by decide +kernel) (by decide +kernel), zin 292 (by decide +kernel) (by decide +kernel), (by decide +kernel), (by decide +kernel)⟩
theorem mi_F_putTwo : zMi y_F_putTwo b_F_putTwo 2 none 1 := ⟨zin 476 (by decide +kernel) (by decide +kernel), zin 477 (by decide +kernel) (by decide +kernel), zin 50 (by decide +kernel) (by decide +kernel), zin 478 (by decide +kernel) (by decide +kernel), (by decide +kernel), (by decide +kernel)⟩
theorem mi_F_putFour : zMi y_F_putFour b_F_putFour 2 none 1 := ⟨zin 481 (by decide +kernel) (by decide +kernel), zin 482 (by decide +kernel) (by decide +kernel), zin 50 (by decide +kernel) (by decide +kernel), zin 483 (by decide +kernel) (by decide +kernel), (by decide +kernel), (by decide +kernel)⟩
theorem mi_F_byteAt : zMi y_F_byteAt b_F_byteAt 2 (some .int) 1 := ⟨zin 333 (by decide +kernel) (by decide +kernel), zin 334 (by decide +kernel) (by decide +kernel), zin 50 (by decide +kernel) (by decide +kernel), zin 335 (by decide +kernel) (by decide +kernel), (by decide +kernel), (by decide +kernel)⟩
theorem mi_F_twoAt : zMi y_F_twoAt b_F_twoAt 2 (some .int) 1 := ⟨zin 646 (by decide +kernel) (by decide +kernel), zin 647 (by decide +kernel) (by decide +kernel), zin 50 (by decide +kernel) (by decide +kernel), zin 648 (by decide +kernel) (by decide +kernel), (by decide +kernel), (by decide +kernel)⟩
theorem mi_F_fourAt : zMi y_F_fourAt b_F_fourAt 2 (some .int) 1 := ⟨zin 628 (by decide +kernel) (by decide +kernel), zin 629 (by decide +kernel) (by decide +kernel), zin 50 (by decide +kernel) (by decide +kernel), zin 630 (by decide +kernel) (by decide +kernel), (by decide +kernel), (by decide +kernel)⟩
theorem mi_F_sum : zMi y_F_sum b_F_sum 3 (some .int) 0 := ⟨zin 490 (by decide +kernel) (by decide +kernel), zin 491 (by decide +kernel) (by decide +kernel), zin 50 (by decide +kernel) (by decide +kernel), zin 492 (by decide +kernel) (by decide +kernel), (by decide +kernel), (by decide +kernel)⟩
theorem mi_F_putCheckAt : zMi y_F_putCheckAt b_F_putCheckAt 3 none 1 := ⟨zin 485 (by decide +kernel) (by decide +kernel), zin 486 (by decide +kernel) (by decide +kernel), zin 50 (by decide +kernel) (by decide +kernel), zin 487 (by decide +kernel) (by decide +kernel), (by decide +kernel), (by decide +kernel)⟩
theorem mi_R_tell : zMi y_R_tell b_R_tell 2 (some .int) 1 := ⟨zin 301 (by decide +kernel) (by decide +kernel), zin 302 (by decide +kernel) (by decide +kernel), zin 51 (by decide +kernel) (by decide +kernel), zin 303 (by decide +kernel) (by decide +kernel), (by decide +kernel), (by decide +kernel)⟩
theorem mi_R_wake : zMi y_R_wake b_R_wake 1 none 0 := ⟨zin 459 (by decide +kernel) (by decide +kernel), zin 460 (by decide +kernel) (by decide +kernel), zin 51 (by decide +kernel) (by decide +kernel), zin 461 (by decide +kernel) (by decide +kernel), (by decide +kernel), (by decide +kernel)⟩
theorem mi_R_sayGoodbye : zMi y_R_sayGoodbye b_R_sayGoodbye 1 none 0 := ⟨zin 524 (by decide +kernel) (by decide +kernel), zin 525 (by decide +kernel) (by decide +kernel), zin 51 (by decide +kernel) (by decide +kernel), zin 526 (by decide +kernel) (by decide +kernel), (by decide +kernel), (by decide +kernel)⟩
theorem mi_R_forgetAll : zMi y_R_forgetAll b_R_forgetAll 2 none 0 := ⟨zin 528 (by decide +kernel) (by decide +kernel), zin 529 (by decide +kernel) (by decide +kernel), zin 51 (by decide +kernel) (by decide +kernel), zin 530 (by decide +kernel) (by decide +kernel), (by decide +kernel), (by decide +kernel)⟩
theorem mi_R_weighed : zMi y_R_weighed b_R_weighed 3 (some .int) 0 := ⟨zin 306 (by decide +kernel) (by decide +kernel), zin 0 (by decide +kernel) (by decide +kernel), zin 51 (by decide +kernel) (by decide +kernel), zin 307 (by decide +kernel) (by decide +kernel), (by decide +kernel), (by decide +kernel)⟩
theorem mi_R_skew : zMi y_R_skew b_R_skew 1 (some .int) 0 := ⟨zin 513 (by decide +kernel) (by decide +kernel), zin 6 (by decide +kernel) (by decide +kernel), zin 51 (by decide +kernel) (by decide +kernel), zin 514 (by decide +kernel) (by decide +kernel), (by decide +kernel), (by decide +kernel)⟩
theorem mi_R_becomeActive : zMi y_R_becomeActive b_R_becomeActive 1 none 0 := ⟨zin 464 (by decide +kernel) (by decide +kernel), zin 2 (by decide +kernel) (by decide +kernel), zin 51 (by decide +kernel) (by decide +kernel), zin 465 (by decide +kernel) (by decide +kernel), (by decide +kernel), (by decide +kernel)⟩
theorem mi_R_becomeBackup : zMi y_R_becomeBackup b_R_becomeBackup 1 none 0 := ⟨zin 509 (by decide +kernel) (by decide +kernel), zin 5 (by decide +kernel) (by decide +kernel), zin 51 (by decide +kernel) (by decide +kernel), zin 510 (by decide +kernel) (by decide +kernel), (by decide +kernel), (by decide +kernel)⟩
theorem mi_R_advertise : zMi y_R_advertise b_R_advertise 3 none 1 := ⟨zin 468 (by decide +kernel) (by decide +kernel), zin 3 (by decide +kernel) (by decide +kernel), zin 51 (by decide +kernel) (by decide +kernel), zin 469 (by decide +kernel) (by decide +kernel), (by decide +kernel), (by decide +kernel)⟩
theorem mi_R_sendEmpty : zMi y_R_sendEmpty b_R_sendEmpty 4 none 3 := ⟨zin 504 (by decide +kernel) (by decide +kernel), zin 505 (by decide +kernel) (by decide +kernel), zin 51 (by decide +kernel) (by decide +kernel), zin 506 (by decide +kernel) (by decide +kernel), (by decide +kernel), (by decide +kernel)⟩
theorem mi_R_sendPacket : zMi y_R_sendPacket b_R_sendPacket 4 none 2 := ⟨zin 690 (by decide +kernel) (by decide +kernel), zin 17 (by decide +kernel) (by decide +kernel), zin 51 (by decide +kernel) (by decide +kernel), zin 691 (by decide +kernel) (by decide +kernel), (by decide +kernel), (by decide +kernel)⟩
theorem mi_R_sendDraft : zMi y_R_sendDraft b_R_sendDraft 1 none 0 := ⟨zin 497 (by decide +kernel) (by decide +kernel), zin 4 (by decide +kernel) (by decide +kernel), zin 51 (by decide +kernel) (by decide +kernel), zin 498 (by decide +kernel) (by decide +kernel), (by decide +kernel), (by decide +kernel)⟩
theorem mi_R_minds : zMi y_R_minds b_R_minds 2 (some .boolean) 1 := ⟨zin 615 (by decide +kernel) (by decide +kernel), zin 616 (by decide +kernel) (by decide +kernel), zin 51 (by decide +kernel) (by decide +kernel), zin 617 (by decide +kernel) (by decide +kernel), (by decide +kernel), (by decide +kernel)⟩
theorem mi_R_hear : zMi y_R_hear b_R_hear 2 (some .boolean) 1 := ⟨zin 619 (by decide +kernel) (by decide +kernel), zin 620 (by decide +kernel) (by decide +kernel), zin 51 (by decide +kernel) (by decide +kernel), zin 621 (by decide +kernel) (by decide +kernel), (by decide +kernel), (by decide +kernel)⟩
theorem mi_R_isForUs : zMi y_R_isForUs b_R_isForUs 2 (some .boolean) 1 := ⟨zin 624 (by decide +kernel) (by decide +kernel), zin 9 (by decide +kernel) (by decide +kernel), zin 51 (by decide +kernel) (by decide +kernel), zin 625 (by decide +kernel) (by decide +kernel), (by decide +kernel), (by decide +kernel)⟩
theorem mi_R_hearAsBackup : zMi y_R_hearAsBackup b_R_hearAsBackup 3 none 1 := ⟨zin 652 (by decide +kernel) (by decide +kernel), zin 11 (by decide +kernel) (by decide +kernel), zin 51 (by decide +kernel) (by decide +kernel), zin 653 (by decide +kernel) (by decide +kernel), (by decide +kernel), (by decide +kernel)⟩
theorem mi_R_hearAsActive : zMi y_R_hearAsActive b_R_hearAsActive 4 none 1 := ⟨zin 636 (by decide +kernel) (by decide +kernel), zin 10 (by decide +kernel) (by decide +kernel), zin 51 (by decide +kernel) (by decide +kernel), zin 637 (by decide +kernel) (by decide +kernel), (by decide +kernel), (by decide +kernel)⟩
theorem ms_R_intervalIn : zMs y_R_intervalIn b_R_intervalIn 1 (some .int) 1 := ⟨zin 643 (by decide +kernel) (by decide +kernel), zin 51 (by decide +kernel) (by decide +kernel), zin 644 (by decide +kernel) (by decide +kernel), (by decide +kernel), (by decide +kernel)⟩
theorem ms_R_isAbove : zMs y_R_isAbove b_R_isAbove 2 (some .boolean) 2 := ⟨zin 639 (by decide +kernel) (by decide +kernel), zin 51 (by decide +kernel) (by decide +kernel), zin 640 (by decide +kernel) (by decide +kernel), (by decide +kernel), (by decide +kernel)⟩
theorem mi_R_hearPacket : zMi y_R_hearPacket b_R_hearPacket 4 (some .boolean) 1 := ⟨zin 656 (by decide +kernel) (by decide +kernel), zin 12 (by decide +kernel) (by decide +kernel), zin 51 (by decide +kernel) (by decide +kernel), zin 657 (by decide +kernel) (by decide +kernel), (by decide +kernel), (by decide +kernel)⟩
theorem ms_R_isWhole : zMs y_R_isWhole b_R_isWhole 1 (some .boolean) 1 := ⟨zin 659 (by decide +kernel) (by decide +kernel), zin 51 (by decide +kernel) (by decide +kernel), zin 660 (by decide +kernel) (by decide +kernel), (by decide +kernel), (by decide +kernel)⟩
theorem mi_R_sessionMeant : zMi y_R_sessionMeant b_R_sessionMeant 6 (some (.object "StandInLan$Session")) 1 := ⟨zin 663 (by decide +kernel) (by decide +kernel), zin 13 (by decide +kernel) (by decide +kernel), zin 51 (by decide +kernel) (by decide +kernel), zin 664 (by decide +kernel) (by decide +kernel), (by decide +kernel), (by decide +kernel)⟩
theorem mi_R_runTimers : zMi y_R_runTimers b_R_runTimers 2 none 0 := ⟨zin 695 (by decide +kernel) (by decide +kernel), zin 696 (by decide +kernel) (by decide +kernel), zin 51 (by decide +kernel) (by decide +kernel), zin 697 (by decide +kernel) (by decide +kernel), (by decide +kernel), (by decide +kernel)⟩
theorem mi_R_timerFires : zMi y_R_timerFires b_R_timerFires 1 none 0 := ⟨zin 700 (by decide +kernel) (by decide +kernel), zin 18 (by decide +kernel) (by decide +kernel), zin 51 (by decide +kernel) (by decide +kernel), zin 701 (by decide +kernel) (by decide +kernel), (by decide +kernel), (by decide +kernel)⟩
theorem mi_R_runSession : zMi y_R_runSession b_R_runSession 2 none 1 := ⟨zin 704 (by decide +kernel) (by decide +kernel), zin 19 (by decide +kernel) (by decide +kernel), zin 51 (by decide +kernel) (by decide +kernel), zin 705 (by decide +kernel) (by decide +kernel), (by decide +kernel), (by decide +kernel)⟩
theorem mi_S_begin : zMi y_S_begin b_S_begin 4 none 3 := ⟨zin 544 (by decide +kernel) (by decide +kernel), zin 545 (by decide +kernel) (by decide +kernel), zin 52 (by decide +kernel) (by decide +kernel), zin 546 (by decide +kernel) (by decide +kernel), (by decide +kernel), (by decide +kernel)⟩
theorem mi_S_wantRates : zMi y_S_wantRates b_S_wantRates 3 none 2 := ⟨zin 576 (by decide +kernel) (by decide +kernel), zin 577 (by decide +kernel) (by decide +kernel), zin 52 (by decide +kernel) (by decide +kernel), zin 578 (by decide +kernel) (by decide +kernel), (by decide +kernel), (by decide +kernel)⟩
theorem mi_S_shut : zMi y_S_shut b_S_shut 1 none 0 := ⟨zin 572 (by decide +kernel) (by decide +kernel), zin 573 (by decide +kernel) (by decide +kernel), zin 52 (by decide +kernel) (by decide +kernel), zin 574 (by decide +kernel) (by decide +kernel), (by decide +kernel), (by decide +kernel)⟩
theorem mi_S_useRates : zMi y_S_useRates b_S_useRates 1 none 0 := ⟨zin 549 (by decide +kernel) (by decide +kernel), zin 7 (by decide +kernel) (by decide +kernel), zin 52 (by decide +kernel) (by decide +kernel), zin 550 (by decide +kernel) (by decide +kernel), (by decide +kernel), (by decide +kernel)⟩
theorem mi_S_slowed : zMi y_S_slowed b_S_slowed 2 (some .int) 1 := ⟨zin 556 (by decide +kernel) (by decide +kernel), zin 557 (by decide +kernel) (by decide +kernel), zin 52 (by decide +kernel) (by decide +kernel), zin 558 (by decide +kernel) (by decide +kernel), (by decide +kernel), (by decide +kernel)⟩
theorem mi_S_sendPause : zMi y_S_sendPause b_S_sendPause 1 (some .int) 0 := ⟨zin 552 (by decide +kernel) (by decide +kernel), zin 553 (by decide +kernel) (by decide +kernel), zin 52 (by decide +kernel) (by decide +kernel), zin 554 (by decide +kernel) (by decide +kernel), (by decide +kernel), (by decide +kernel)⟩
theorem mi_S_hurrySend : zMi y_S_hurrySend b_S_hurrySend 2 none 0 := ⟨zin 583 (by decide +kernel) (by decide +kernel), zin 584 (by decide +kernel) (by decide +kernel), zin 52 (by decide +kernel) (by decide +kernel), zin 585 (by decide +kernel) (by decide +kernel), (by decide +kernel), (by decide +kernel)⟩
theorem mi_S_learn : zMi y_S_learn b_S_learn 5 (some .boolean) 1 := ⟨zin 666 (by decide +kernel) (by decide +kernel), zin 667 (by decide +kernel) (by decide +kernel), zin 52 (by decide +kernel) (by decide +kernel), zin 668 (by decide +kernel) (by decide +kernel), (by decide +kernel), (by decide +kernel)⟩
theorem ms_S_told : zMs y_S_told b_S_told 1 (some .int) 1 := ⟨zin 672 (by decide +kernel) (by decide +kernel), zin 52 (by decide +kernel) (by decide +kernel), zin 673 (by decide +kernel) (by decide +kernel), (by decide +kernel), (by decide +kernel)⟩
theorem mi_S_follow : zMi y_S_follow b_S_follow 1 none 0 := ⟨zin 678 (by decide +kernel) (by decide +kernel), zin 14 (by decide +kernel) (by decide +kernel), zin 52 (by decide +kernel) (by decide +kernel), zin 679 (by decide +kernel) (by decide +kernel), (by decide +kernel), (by decide +kernel)⟩
theorem mi_S_comeUp : zMi y_S_comeUp b_S_comeUp 1 none 0 := ⟨zin 686 (by decide +kernel) (by decide +kernel), zin 16 (by decide +kernel) (by decide +kernel), zin 52 (by decide +kernel) (by decide +kernel), zin 687 (by decide +kernel) (by decide +kernel), (by decide +kernel), (by decide +kernel)⟩
theorem mi_S_fall : zMi y_S_fall b_S_fall 2 none 1 := ⟨zin 682 (by decide +kernel) (by decide +kernel), zin 15 (by decide +kernel) (by decide +kernel), zin 52 (by decide +kernel) (by decide +kernel), zin 683 (by decide +kernel) (by decide +kernel), (by decide +kernel), (by decide +kernel)⟩
theorem mi_S_runDetect : zMi y_S_runDetect b_S_runDetect 1 none 0 := ⟨zin 707 (by decide +kernel) (by decide +kernel), zin 708 (by decide +kernel) (by decide +kernel), zin 52 (by decide +kernel) (by decide +kernel), zin 709 (by decide +kernel) (by decide +kernel), (by decide +kernel), (by decide +kernel)⟩
theorem mi_S_sendFires : zMi y_S_sendFires b_S_sendFires 1 (some .boolean) 0 := ⟨zin 711 (by decide +kernel) (by decide +kernel), zin 712 (by decide +kernel) (by decide +kernel), zin 52 (by decide +kernel) (by decide +kernel), zin 713 (by decide +kernel) (by decide +kernel), (by decide +kernel), (by decide +kernel)⟩
theorem mi_S_tell : zMi y_S_tell b_S_tell 2 (some .int) 1 := ⟨zin 313 (by decide +kernel) (by decide +kernel), zin 314 (by decide +kernel) (by decide +kernel), zin 52 (by decide +kernel) (by decide +kernel), zin 315 (by decide +kernel) (by decide +kernel), (by decide +kernel), (by decide +kernel)⟩
theorem mi_W_placeOf : zMi y_W_placeOf b_W_placeOf 2 (some .int) 1 := ⟨zin 321 (by decide +kernel) (by decide +kernel), zin 322 (by decide +kernel) (by decide +kernel), zin 49 (by decide +kernel) (by decide +kernel), zin 323 (by decide +kernel) (by decide +kernel), (by decide +kernel), (by decide +kernel)⟩
theorem mi_W_countDue : zMi y_W_countDue b_W_countDue 3 (some .int) 0 := ⟨zin 603 (by decide +kernel) (by decide +kernel), zin 604 (by decide +kernel) (by decide +kernel), zin 49 (by decide +kernel) (by decide +kernel), zin 605 (by decide +kernel) (by decide +kernel), (by decide +kernel), (by decide +kernel)⟩
theorem mi_W_takeDue : zMi y_W_takeDue b_W_takeDue 4 (some (.object "StandInLan$Frame")) 0 := ⟨zin 607 (by decide +kernel) (by decide +kernel), zin 608 (by decide +kernel) (by decide +kernel), zin 49 (by decide +kernel) (by decide +kernel), zin 609 (by decide +kernel) (by decide +kernel), (by decide +kernel), (by decide +kernel)⟩
theorem mi_W_newDraft : zMi y_W_newDraft b_W_newDraft 5 (some (.object "StandInLan$Frame")) 4 := ⟨zin 471 (by decide +kernel) (by decide +kernel), zin 472 (by decide +kernel) (by decide +kernel), zin 49 (by decide +kernel) (by decide +kernel), zin 473 (by decide +kernel) (by decide +kernel), (by decide +kernel), (by decide +kernel)⟩
theorem mi_W_carryDraft : zMi y_W_carryDraft b_W_carryDraft 6 none 2 := ⟨zin 500 (by decide +kernel) (by decide +kernel), zin 501 (by decide +kernel) (by decide +kernel), zin 49 (by decide +kernel) (by decide +kernel), zin 502 (by decide +kernel) (by decide +kernel), (by decide +kernel), (by decide +kernel)⟩
theorem in_F : ∀ w ∈ u_ws RX0 TX0 9, w ∈ zT := by decide +kernel
theorem in_R : ∀ w ∈ u_ws RX1 TX1 11, w ∈ zT := by decide +kernel
theorem in_S : ∀ w ∈ u_ws RX2 TX2 19, w ∈ zT := by decide +kernel
theorem in_W : ∀ w ∈ u_ws RX3 TX3 6, w ∈ zT := by decide +kernel
theorem in_L : ∀ w ∈ u_ws RX4 TX4 3, w ∈ zT := by decide +kernel
end
section
/-! THE CLASS'S STATE: every int that its objects hold, by kind of object and two numbers (M kind i j field); which frame lies where (P: the places of the way; D: the draft, the taken one) -/
abbrev zM : Type := Nat → Nat → Nat → Nat → Int32
abbrev zV : Type := (Nat → Nat → Nat → Nat) × ClassId × ClassId × ClassId × ClassId
abbrev zcl : List vw_C := [(RX0, TX0, 9), (RX1, TX1, 11), (RX2, TX2, 19), (RX3, TX3, 6), (RX4, TX4, 3)]
def up (M : zM) (κ i j k : Nat) (v : Int32) : zM := fun κ' i' j' => if κ' = κ ∧ i' = i ∧ j' = j then upd (M κ i j) k v else M κ' i' j'
theorem up_self (M : zM) (κ i j k : Nat) (v : Int32) : up M κ i j k v κ i j = upd (M κ i j) k v := by simp [up]
theorem up_ne {M : zM} {κ i j k κ' i' j' : Nat} {v : Int32} (h : ¬ (κ' = κ ∧ i' = i ∧ j' = j)) : up M κ i j k v κ' i' j' = M κ' i' j' := by simp [up, h]
/-- fields of a frame, a router, a session, the wire, the whole, in the order of the slots -/
abbrev fsF (V : zV) (i : Nat) (q : Nat → Int32) : List Value := [.ref (V.1 10 i 0), .int (q 1), .int (q 2), .int (q 3), .int (q 4), .int (q 5), .int (q 6), .int (q 7), .int (q 8)]
abbrev fsR (V : zV) (i : Nat) (q : Nat → Int32) : List Value := [.int (nI i), .ref (V.1 6 0 0), .ref (V.1 3 i 0), .ref (V.1 4 i 0), .int (q 4), .int (q 5), .int (q 6), .int (q 7), .int (q 8), .int (q 9), .int (q 10)]
abbrev fsS (V : zV) (i j : Nat) (q : Nat → Int32) : List Value := [.int (nI (16 * i + j + 1)), .int (nI j), .int (q 2), .int (q 3), .int (q 4), .int (q 5), .int (q 6), .int (q 7), .int (q 8), .int (q 9), .int (q 10), .int (q 11), .int (q 12), .int (q 13), .int (q 14), .int (q 15), .int (q 16), .int (q 17), .int (q 18)]
abbrev fsW (V : zV) (D : Nat × Nat) (q : Nat → Int32) : List Value := [.ref (V.1 7 0 0), .ref (V.1 8 0 0), .int (q 2), .int (q 3), .ref (V.1 9 D.1 0), .ref (V.1 9 D.2 0)]
abbrev fsL (V : zV) : List Value := [.ref (V.1 6 0 0), .ref (V.1 1 0 0), .ref (V.1 9 62 0)]
/-- the cell of an object -/
def ce (V : zV) (P : Nat → Nat) (D : Nat × Nat) (κ i j : Nat) (q : Nat → Int32) : va_E := match κ with
  | 0 => .inr (4, fsL V)
  | 1 => .inl (V.2.2.2.1, 5, .inr (.inr (.inr (.inr (fun n => some (V.1 2 n 0))))))
  | 2 => .inr (1, fsR V i q)
  | 3 => .inl (V.2.1, 10, .inl q)
  | 4 => .inl (V.2.2.2.2, 5, .inr (.inr (.inr (.inr (fun n => some (V.1 5 i n))))))
  | 5 => .inr (2, fsS V i j q)
  | 6 => .inr (3, fsW V D q)
  | 7 => .inl (V.2.1, 16, .inl q)
  | 8 => .inl (V.2.2.1, 60, .inr (.inr (.inr (.inr (fun n => some (V.1 9 (P n) 0))))))
  | 9 => .inr (0, fsF V i q)
  | _ => .inl (V.2.1, 40, .inl q)
def vd (κ i j : Nat) : Prop := match κ with
  | 0 => i = 0 ∧ j = 0
  | 1 => i = 0 ∧ j = 0
  | 2 => i < 5 ∧ j = 0
  | 3 => i < 5 ∧ j = 0
  | 4 => i < 5 ∧ j = 0
  | 5 => i < 5 ∧ j < 5
  | 6 => i = 0 ∧ j = 0
  | 7 => i = 0 ∧ j = 0
  | 8 => i = 0 ∧ j = 0
  | 9 => i < 63 ∧ j = 0
  | 10 => i < 63 ∧ j = 0
  | _ => False
def eC (V : zV) (M : zM) (P : Nat → Nat) (D : Nat × Nat) : zK := fun f => ∀ κ i j, vd κ i j → f (V.1 κ i j) = ce V P D κ i j (M κ i j)
/-- the world of the class: its addresses lie in the pool and are apart; the array classes -/
def wC (G : zG) (V : zV) : Prop := G.2.1 = zcl ∧ G.2.2.1 = [(V.2.1, .int), (V.2.2.1, .object RX0), (V.2.2.2.1, .object RX1), (V.2.2.2.2, .object RX2)] ∧ (∀ κ i j, vd κ i j → V.1 κ i j ∈ G.2.2.2) ∧ (∀ κ i j κ' i' j', vd κ i j → vd κ' i' j' → V.1 κ i j = V.1 κ' i' j' → κ' = κ ∧ i' = i ∧ j' = j) ∧ G.2.2.2.Nodup
theorem eC_up {G : zG} {V : zV} {M : zM} {P : Nat → Nat} {D : Nat × Nat} {κ i j k : Nat} {v : Int32} {e : va_E} (w : wC G V) (hv : vd κ i j) (he : e = ce V P D κ i j (upd (M κ i j) k v)) : ∀ f, eC V M P D f → eC V (up M κ i j k v) P D (va_up f (V.1 κ i j) e) := by
  intro f hf κ' i' j' hv'
  by_cases h : V.1 κ' i' j' = V.1 κ i j
  · obtain ⟨rfl, rfl, rfl⟩ := w.2.2.2.1 _ _ _ _ _ _ hv' hv h
    rw [va_up_self, up_self, he]
  · rw [va_up_ne _ _ h, hf _ _ _ hv', up_ne (fun q => h (by obtain ⟨rfl, rfl, rfl⟩ := q; rfl))]
theorem eC_way {G : zG} {V : zV} {M : zM} {P : Nat → Nat} {D : Nat × Nat} {k fr : Nat} (w : wC G V) : ∀ f, eC V M P D f → eC V M (va_up P k fr) D (va_up f (V.1 8 0 0) (.inl (V.2.2.1, 60, .inr (.inr (.inr (.inr (va_up (fun n => some (V.1 9 (P n) 0)) k (some (V.1 9 fr 0))))))))) := by
  intro f hf κ' i' j' hv'
  have hv : vd 8 0 0 := ⟨rfl, rfl⟩
  by_cases h : V.1 κ' i' j' = V.1 8 0 0
  · obtain ⟨rfl, rfl, rfl⟩ := w.2.2.2.1 _ _ _ _ _ _ hv' hv h
    rw [va_up_self]
    show _ = Sum.inl _
    congr 7
    funext n
    by_cases hn : n = k
    · subst hn; rw [va_up_self, va_up_self]
    · rw [va_up_ne _ _ hn, va_up_ne _ _ hn]
  · rw [va_up_ne _ _ h, hf _ _ _ hv']
    unfold ce
    split <;> first | rfl | skip
    obtain ⟨rfl, rfl⟩ := hv'
    exact absurd rfl h
theorem eC_wire {G : zG} {V : zV} {M : zM} {P : Nat → Nat} {D D' : Nat × Nat} (w : wC G V) : ∀ f, eC V M P D f → eC V M P D' (va_up f (V.1 6 0 0) (.inr (3, fsW V D' (M 6 0 0)))) := by
  intro f hf κ' i' j' hv'
  have hv : vd 6 0 0 := ⟨rfl, rfl⟩
  by_cases h : V.1 κ' i' j' = V.1 6 0 0
  · obtain ⟨rfl, rfl, rfl⟩ := w.2.2.2.1 _ _ _ _ _ _ hv' hv h
    rw [va_up_self]
    rfl
  · rw [va_up_ne _ _ h, hf _ _ _ hv']
    unfold ce
    split <;> first | rfl | skip
    obtain ⟨rfl, rfl⟩ := hv'
    exact absurd rfl h
section CR
variable {X : zX} {G : zG} {A : Nat → Prop} {nL : Nat} {Q : State → Prop} {pc : Nat} {lv : List (Nat × Value)} {st : List Value} {cc : ByteArray} {own : String} {fr lo : Nat} {V : zV} {M : zM} {P : Nat → Nat} {D : Nat × Nat} {i j index : Nat} {v : Value} {x : Int32}
theorem C_gF (C : zC X G A cc nL own fr lo) (w : wC G V) (hi : i < 63) (k : Nat) (hk : k < 9) (hlk : Cond.fieldLink own index RX0 (TX0 k).2.1 (TX0 k).2.2.1 ∈ zT) (hr : (TX0 k).1 = RX0) (hv : (fsF V i (M 9 i 0))[k]? = some v) (hd : decode cc pc = .ok (.getfield index, 3)) (kk : Z X G A nL Q (eC V M P D) (pc + 3) lv (v :: st)) : Z X G A nL Q (eC V M P D) pc lv (.ref (V.1 9 i 0) :: st) :=
  Z_get C k (w.2.2.1 9 i 0 ⟨hi, rfl⟩) (fun f hf => hf 9 i 0 ⟨hi, rfl⟩) (by rw [w.1]; rfl) in_F hk hlk hr hv hd kk
theorem C_pF (C : zC X G A cc nL own fr lo) (w : wC G V) (hi : i < 63) (k : Nat) (hk : k < 9) (hlk : Cond.fieldLink own index RX0 (TX0 k).2.1 (TX0 k).2.2.1 ∈ zT) (hr : (TX0 k).1 = RX0) (hfin : (TX0 k).2.2.2 = false) (hn : narrow (tyX0 k) (.int x) = .int x) (hfit : fits (tyX0 k) (.int x) = true) (he : Sum.inr (0, (fsF V i (M 9 i 0)).set k (.int x)) = ce V P D 9 i 0 (upd (M 9 i 0) k x)) (hd : decode cc pc = .ok (.putfield index, 3)) (kk : Z X G A nL Q (eC V (up M 9 i 0 k x) P D) (pc + 3) lv st) : Z X G A nL Q (eC V M P D) pc lv (.int x :: .ref (V.1 9 i 0) :: st) :=
  Z_put C k tyX0 (w.2.2.1 9 i 0 ⟨hi, rfl⟩) (fun f hf => hf 9 i 0 ⟨hi, rfl⟩) (by rw [w.1]; rfl) in_F tyX0_ok nmX0 hk hlk hr hfin (tyX0_ok k hk) hn hfit hk (eC_up w ⟨hi, rfl⟩ he) hd kk
theorem C_gR (C : zC X G A cc nL own fr lo) (w : wC G V) (hi : i < 5) (k : Nat) (hk : k < 11) (hlk : Cond.fieldLink own index RX1 (TX1 k).2.1 (TX1 k).2.2.1 ∈ zT) (hr : (TX1 k).1 = RX1) (hv : (fsR V i (M 2 i 0))[k]? = some v) (hd : decode cc pc = .ok (.getfield index, 3)) (kk : Z X G A nL Q (eC V M P D) (pc + 3) lv (v :: st)) : Z X G A nL Q (eC V M P D) pc lv (.ref (V.1 2 i 0) :: st) :=
  Z_get C k (w.2.2.1 2 i 0 ⟨hi, rfl⟩) (fun f hf => hf 2 i 0 ⟨hi, rfl⟩) (by rw [w.1]; rfl) in_R hk hlk hr hv hd kk
theorem C_pR (C : zC X G A cc nL own fr lo) (w : wC G V) (hi : i < 5) (k : Nat) (hk : k < 11) (hlk : Cond.fieldLink own index RX1 (TX1 k).2.1 (TX1 k).2.2.1 ∈ zT) (hr : (TX1 k).1 = RX1) (hfin : (TX1 k).2.2.2 = false) (hn : narrow (tyX1 k) (.int x) = .int x) (hfit : fits (tyX1 k) (.int x) = true) (he : Sum.inr (1, (fsR V i (M 2 i 0)).set k (.int x)) = ce V P D 2 i 0 (upd (M 2 i 0) k x)) (hd : decode cc pc = .ok (.putfield index, 3)) (kk : Z X G A nL Q (eC V (up M 2 i 0 k x) P D) (pc + 3) lv st) : Z X G A nL Q (eC V M P D) pc lv (.int x :: .ref (V.1 2 i 0) :: st) :=
  Z_put C k tyX1 (w.2.2.1 2 i 0 ⟨hi, rfl⟩) (fun f hf => hf 2 i 0 ⟨hi, rfl⟩) (by rw [w.1]; rfl) in_R tyX1_ok nmX1 hk hlk hr hfin (tyX1_ok k hk) hn hfit hk (eC_up w ⟨hi, rfl⟩ he) hd kk
theorem C_gS (C : zC X G A cc nL own fr lo) (w : wC G V) (hi : i < 5) (hj : j < 5) (k : Nat) (hk : k < 19) (hlk : Cond.fieldLink own index RX2 (TX2 k).2.1 (TX2 k).2.2.1 ∈ zT) (hr : (TX2 k).1 = RX2) (hv : (fsS V i j (M 5 i j))[k]? = some v) (hd : decode cc pc = .ok (.getfield index, 3)) (kk : Z X G A nL Q (eC V M P D) (pc + 3) lv (v :: st)) : Z X G A nL Q (eC V M P D) pc lv (.ref (V.1 5 i j) :: st) :=
  Z_get C k (w.2.2.1 5 i j ⟨hi, hj⟩) (fun f hf => hf 5 i j ⟨hi, hj⟩) (by rw [w.1]; rfl) in_S hk hlk hr hv hd kk
theorem C_pS (C : zC X G A cc nL own fr lo) (w : wC G V) (hi : i < 5) (hj : j < 5) (k : Nat) (hk : k < 19) (hlk : Cond.fieldLink own index RX2 (TX2 k).2.1 (TX2 k).2.2.1 ∈ zT) (hr : (TX2 k).1 = RX2) (hfin : (TX2 k).2.2.2 = false) (hn : narrow (tyX2 k) (.int x) = .int x) (hfit : fits (tyX2 k) (.int x) = true) (he : Sum.inr (2, (fsS V i j (M 5 i j)).set k (.int x)) = ce V P D 5 i j (upd (M 5 i j) k x)) (hd : decode cc pc = .ok (.putfield index, 3)) (kk : Z X G A nL Q (eC V (up M 5 i j k x) P D) (pc + 3) lv st) : Z X G A nL Q (eC V M P D) pc lv (.int x :: .ref (V.1 5 i j) :: st) :=
  Z_put C k tyX2 (w.2.2.1 5 i j ⟨hi, hj⟩) (fun f hf => hf 5 i j ⟨hi, hj⟩) (by rw [w.1]; rfl) in_S tyX2_ok nmX2 hk hlk hr hfin (tyX2_ok k hk) hn hfit hk (eC_up w ⟨hi, hj⟩ he) hd kk
theorem C_gW (C : zC X G A cc nL own fr lo) (w : wC G V)  (k : Nat) (hk : k < 6) (hlk : Cond.fieldLink own index RX3 (TX3 k).2.1 (TX3 k).2.2.1 ∈ zT) (hr : (TX3 k).1 = RX3) (hv : (fsW V D (M 6 0 0))[k]? = some v) (hd : decode cc pc = .ok (.getfield index, 3)) (kk : Z X G A nL Q (eC V M P D) (pc + 3) lv (v :: st)) : Z X G A nL Q (eC V M P D) pc lv (.ref (V.1 6 0 0) :: st) :=
  Z_get C k (w.2.2.1 6 0 0 ⟨rfl, rfl⟩) (fun f hf => hf 6 0 0 ⟨rfl, rfl⟩) (by rw [w.1]; rfl) in_W hk hlk hr hv hd kk
theorem C_pW (C : zC X G A cc nL own fr lo) (w : wC G V)  (k : Nat) (hk : k < 6) (hlk : Cond.fieldLink own index RX3 (TX3 k).2.1 (TX3 k).2.2.1 ∈ zT) (hr : (TX3 k).1 = RX3) (hfin : (TX3 k).2.2.2 = false) (hn : narrow (tyX3 k) (.int x) = .int x) (hfit : fits (tyX3 k) (.int x) = true) (he : Sum.inr (3, (fsW V D (M 6 0 0)).set k (.int x)) = ce V P D 6 0 0 (upd (M 6 0 0) k x)) (hd : decode cc pc = .ok (.putfield index, 3)) (kk : Z X G A nL Q (eC V (up M 6 0 0 k x) P D) (pc + 3) lv st) : Z X G A nL Q (eC V M P D) pc lv (.int x :: .ref (V.1 6 0 0) :: st) :=
  Z_put C k tyX3 (w.2.2.1 6 0 0 ⟨rfl, rfl⟩) (fun f hf => hf 6 0 0 ⟨rfl, rfl⟩) (by rw [w.1]; rfl) in_W tyX3_ok nmX3 hk hlk hr hfin (tyX3_ok k hk) hn hfit hk (eC_up w ⟨rfl, rfl⟩ he) hd kk
theorem C_gL (C : zC X G A cc nL own fr lo) (w : wC G V)  (k : Nat) (hk : k < 3) (hlk : Cond.fieldLink own index RX4 (TX4 k).2.1 (TX4 k).2.2.1 ∈ zT) (hr : (TX4 k).1 = RX4) (hv : (fsL V)[k]? = some v) (hd : decode cc pc = .ok (.getfield index, 3)) (kk : Z X G A nL Q (eC V M P D) (pc + 3) lv (v :: st)) : Z X G A nL Q (eC V M P D) pc lv (.ref (V.1 0 0 0) :: st) :=
  Z_get C k (w.2.2.1 0 0 0 ⟨rfl, rfl⟩) (fun f hf => hf 0 0 0 ⟨rfl, rfl⟩) (by rw [w.1]; rfl) in_L hk hlk hr hv hd kk
end CR
theorem zeq {K K' : zK} (h : K = K') : ∀ f, K f → K' f := fun f q => h ▸ q
theorem eC_M {V : zV} {M M' : zM} {P : Nat → Nat} {D : Nat × Nat} (h : M = M') : eC V M P D = eC V M' P D := by rw [h]
section CC
variable {X : zX} {G : zG} {A : Nat → Prop} {nL : Nat} {Q : State → Prop} {K' : zK} {pc : Nat} {lv : List (Nat × Value)} {st rest As : List Value} {cc bytes : ByteArray} {own : String} {fr lo fr' lo' : Nat} {V : zV} {M : zM} {P : Nat → Nat} {D : Nat × Nat} {i j index n maxL : Nat} {y : MethodName} {v : Value} {ret : Option FieldType}
theorem C_cFv (C : zC X G A cc nL own fr lo) (w : wC G V) (hi : i < 63) (mi : zMi y bytes maxL ret n) (hlk : Cond.methodLink own index y ∈ zT) (hM : zF X.l y bytes maxL ret fr' lo' G (.ref (V.1 9 i 0) :: As) (eC V M P D) (some v) K') (hst : st = As.reverse ++ .ref (V.1 9 i 0) :: rest) (hy : y.cls = RX0) (hle : fr' + 1 ≤ fr ∧ 19 + maxL + lo' ≤ lo) (hn : As.length = n) (hrm : (rest.map fun v => v.category).sum ≤ 8) (hd : decode cc pc = .ok (.invokevirtual index, 3)) (k : Z X G A nL Q K' (pc + 3) lv (v :: rest)) : Z X G A nL Q (eC V M P D) pc lv st :=
  Z_callV C mi hlk hM hle (w.2.2.1 9 i 0 ⟨hi, rfl⟩) (fun f hf => hf 9 i 0 ⟨hi, rfl⟩) (by rw [w.1, hy]; rfl) hn hst hrm hd k
theorem C_cFn (C : zC X G A cc nL own fr lo) (w : wC G V) (hi : i < 63) (mi : zMi y bytes maxL ret n) (hlk : Cond.methodLink own index y ∈ zT) (hM : zF X.l y bytes maxL ret fr' lo' G (.ref (V.1 9 i 0) :: As) (eC V M P D) none K') (hst : st = As.reverse ++ .ref (V.1 9 i 0) :: rest) (hy : y.cls = RX0) (hle : fr' + 1 ≤ fr ∧ 19 + maxL + lo' ≤ lo) (hn : As.length = n) (hrm : (rest.map fun v => v.category).sum ≤ 8) (hd : decode cc pc = .ok (.invokevirtual index, 3)) (k : Z X G A nL Q K' (pc + 3) lv rest) : Z X G A nL Q (eC V M P D) pc lv st :=
  Z_callV C mi hlk hM hle (w.2.2.1 9 i 0 ⟨hi, rfl⟩) (fun f hf => hf 9 i 0 ⟨hi, rfl⟩) (by rw [w.1, hy]; rfl) hn hst hrm hd k
theorem C_cRv (C : zC X G A cc nL own fr lo) (w : wC G V) (hi : i < 5) (mi : zMi y bytes maxL ret n) (hlk : Cond.methodLink own index y ∈ zT) (hM : zF X.l y bytes maxL ret fr' lo' G (.ref (V.1 2 i 0) :: As) (eC V M P D) (some v) K') (hst : st = As.reverse ++ .ref (V.1 2 i 0) :: rest) (hy : y.cls = RX1) (hle : fr' + 1 ≤ fr ∧ 19 + maxL + lo' ≤ lo) (hn : As.length = n) (hrm : (rest.map fun v => v.category).sum ≤ 8) (hd : decode cc pc = .ok (.invokevirtual index, 3)) (k : Z X G A nL Q K' (pc + 3) lv (v :: rest)) : Z X G A nL Q (eC V M P D) pc lv st :=
  Z_callV C mi hlk hM hle (w.2.2.1 2 i 0 ⟨hi, rfl⟩) (fun f hf => hf 2 i 0 ⟨hi, rfl⟩) (by rw [w.1, hy]; rfl) hn hst hrm hd k
theorem C_cRn (C : zC X G A cc nL own fr lo) (w : wC G V) (hi : i < 5) (mi : zMi y bytes maxL ret n) (hlk : Cond.methodLink own index y ∈ zT) (hM : zF X.l y bytes maxL ret fr' lo' G (.ref (V.1 2 i 0) :: As) (eC V M P D) none K') (hst : st = As.reverse ++ .ref (V.1 2 i 0) :: rest) (hy : y.cls = RX1) (hle : fr' + 1 ≤ fr ∧ 19 + maxL + lo' ≤ lo) (hn : As.length = n) (hrm : (rest.map fun v => v.category).sum ≤ 8) (hd : decode cc pc = .ok (.invokevirtual index, 3)) (k : Z X G A nL Q K' (pc + 3) lv rest) : Z X G A nL Q (eC V M P D) pc lv st :=
  Z_callV C mi hlk hM hle (w.2.2.1 2 i 0 ⟨hi, rfl⟩) (fun f hf => hf 2 i 0 ⟨hi, rfl⟩) (by rw [w.1, hy]; rfl) hn hst hrm hd k
theorem C_cSv (C : zC X G A cc nL own fr lo) (w : wC G V) (hi : i < 5) (hj : j < 5) (mi : zMi y bytes maxL ret n) (hlk : Cond.methodLink own index y ∈ zT) (hM : zF X.l y bytes maxL ret fr' lo' G (.ref (V.1 5 i j) :: As) (eC V M P D) (some v) K') (hst : st = As.reverse ++ .ref (V.1 5 i j) :: rest) (hy : y.cls = RX2) (hle : fr' + 1 ≤ fr ∧ 19 + maxL + lo' ≤ lo) (hn : As.length = n) (hrm : (rest.map fun v => v.category).sum ≤ 8) (hd : decode cc pc = .ok (.invokevirtual index, 3)) (k : Z X G A nL Q K' (pc + 3) lv (v :: rest)) : Z X G A nL Q (eC V M P D) pc lv st :=
  Z_callV C mi hlk hM hle (w.2.2.1 5 i j ⟨hi, hj⟩) (fun f hf => hf 5 i j ⟨hi, hj⟩) (by rw [w.1, hy]; rfl) hn hst hrm hd k
theorem C_cSn (C : zC X G A cc nL own fr lo) (w : wC G V) (hi : i < 5) (hj : j < 5) (mi : zMi y bytes maxL ret n) (hlk : Cond.methodLink own index y ∈ zT) (hM : zF X.l y bytes maxL ret fr' lo' G (.ref (V.1 5 i j) :: As) (eC V M P D) none K') (hst : st = As.reverse ++ .ref (V.1 5 i j) :: rest) (hy : y.cls = RX2) (hle : fr' + 1 ≤ fr ∧ 19 + maxL + lo' ≤ lo) (hn : As.length = n) (hrm : (rest.map fun v => v.category).sum ≤ 8) (hd : decode cc pc = .ok (.invokevirtual index, 3)) (k : Z X G A nL Q K' (pc + 3) lv rest) : Z X G A nL Q (eC V M P D) pc lv st :=
  Z_callV C mi hlk hM hle (w.2.2.1 5 i j ⟨hi, hj⟩) (fun f hf => hf 5 i j ⟨hi, hj⟩) (by rw [w.1, hy]; rfl) hn hst hrm hd k
theorem C_cWv (C : zC X G A cc nL own fr lo) (w : wC G V)  (mi : zMi y bytes maxL ret n) (hlk : Cond.methodLink own index y ∈ zT) (hM : zF X.l y bytes maxL ret fr' lo' G (.ref (V.1 6 0 0) :: As) (eC V M P D) (some v) K') (hst : st = As.reverse ++ .ref (V.1 6 0 0) :: rest) (hy : y.cls = RX3) (hle : fr' + 1 ≤ fr ∧ 19 + maxL + lo' ≤ lo) (hn : As.length = n) (hrm : (rest.map fun v => v.category).sum ≤ 8) (hd : decode cc pc = .ok (.invokevirtual index, 3)) (k : Z X G A nL Q K' (pc + 3) lv (v :: rest)) : Z X G A nL Q (eC V M P D) pc lv st :=
  Z_callV C mi hlk hM hle (w.2.2.1 6 0 0 ⟨rfl, rfl⟩) (fun f hf => hf 6 0 0 ⟨rfl, rfl⟩) (by rw [w.1, hy]; rfl) hn hst hrm hd k
theorem C_cWn (C : zC X G A cc nL own fr lo) (w : wC G V)  (mi : zMi y bytes maxL ret n) (hlk : Cond.methodLink own index y ∈ zT) (hM : zF X.l y bytes maxL ret fr' lo' G (.ref (V.1 6 0 0) :: As) (eC V M P D) none K') (hst : st = As.reverse ++ .ref (V.1 6 0 0) :: rest) (hy : y.cls = RX3) (hle : fr' + 1 ≤ fr ∧ 19 + maxL + lo' ≤ lo) (hn : As.length = n) (hrm : (rest.map fun v => v.category).sum ≤ 8) (hd : decode cc pc = .ok (.invokevirtual index, 3)) (k : Z X G A nL Q K' (pc + 3) lv rest) : Z X G A nL Q (eC V M P D) pc lv st :=
  Z_callV C mi hlk hM hle (w.2.2.1 6 0 0 ⟨rfl, rfl⟩) (fun f hf => hf 6 0 0 ⟨rfl, rfl⟩) (by rw [w.1, hy]; rfl) hn hst hrm hd k
theorem C_cLv (C : zC X G A cc nL own fr lo) (w : wC G V)  (mi : zMi y bytes maxL ret n) (hlk : Cond.methodLink own index y ∈ zT) (hM : zF X.l y bytes maxL ret fr' lo' G (.ref (V.1 0 0 0) :: As) (eC V M P D) (some v) K') (hst : st = As.reverse ++ .ref (V.1 0 0 0) :: rest) (hy : y.cls = RX4) (hle : fr' + 1 ≤ fr ∧ 19 + maxL + lo' ≤ lo) (hn : As.length = n) (hrm : (rest.map fun v => v.category).sum ≤ 8) (hd : decode cc pc = .ok (.invokevirtual index, 3)) (k : Z X G A nL Q K' (pc + 3) lv (v :: rest)) : Z X G A nL Q (eC V M P D) pc lv st :=
  Z_callV C mi hlk hM hle (w.2.2.1 0 0 0 ⟨rfl, rfl⟩) (fun f hf => hf 0 0 0 ⟨rfl, rfl⟩) (by rw [w.1, hy]; rfl) hn hst hrm hd k
theorem C_cLn (C : zC X G A cc nL own fr lo) (w : wC G V)  (mi : zMi y bytes maxL ret n) (hlk : Cond.methodLink own index y ∈ zT) (hM : zF X.l y bytes maxL ret fr' lo' G (.ref (V.1 0 0 0) :: As) (eC V M P D) none K') (hst : st = As.reverse ++ .ref (V.1 0 0 0) :: rest) (hy : y.cls = RX4) (hle : fr' + 1 ≤ fr ∧ 19 + maxL + lo' ≤ lo) (hn : As.length = n) (hrm : (rest.map fun v => v.category).sum ≤ 8) (hd : decode cc pc = .ok (.invokevirtual index, 3)) (k : Z X G A nL Q K' (pc + 3) lv rest) : Z X G A nL Q (eC V M P D) pc lv st :=
  Z_callV C mi hlk hM hle (w.2.2.1 0 0 0 ⟨rfl, rfl⟩) (fun f hf => hf 0 0 0 ⟨rfl, rfl⟩) (by rw [w.1, hy]; rfl) hn hst hrm hd k
theorem C_csv {K : zK} (C : zC X G A cc nL own fr lo) (mi : zMs y bytes maxL ret n) (hlk : Cond.methodLink own index y ∈ zT) (hM : zF X.l y bytes maxL ret fr' lo' G As K (some v) K') (hst : st = As.reverse ++ rest) (hle : fr' + 1 ≤ fr ∧ 19 + maxL + lo' ≤ lo) (hn : As.length = n) (hrm : (rest.map fun v => v.category).sum ≤ 8) (hd : decode cc pc = .ok (.invokestatic index, 3)) (k : Z X G A nL Q K' (pc + 3) lv (v :: rest)) : Z X G A nL Q K pc lv st :=
  Z_callS C mi hlk hM hle hn hst hrm hd k
theorem C_csn {K : zK} (C : zC X G A cc nL own fr lo) (mi : zMs y bytes maxL ret n) (hlk : Cond.methodLink own index y ∈ zT) (hM : zF X.l y bytes maxL ret fr' lo' G As K none K') (hst : st = As.reverse ++ rest) (hle : fr' + 1 ≤ fr ∧ 19 + maxL + lo' ≤ lo) (hn : As.length = n) (hrm : (rest.map fun v => v.category).sum ≤ 8) (hd : decode cc pc = .ok (.invokestatic index, 3)) (k : Z X G A nL Q K' (pc + 3) lv rest) : Z X G A nL Q K pc lv st :=
  Z_callS C mi hlk hM hle hn hst hrm hd k
end CC
theorem mx_s : Cond.static Lib.Math.max.name ∈ zT := by decide +kernel
theorem mx_c : Cond.code Lib.Math.max.name Lib.Math.max.code 2 (some .int) ∈ zT := by decide +kernel
theorem mn_s : Cond.static Lib.Math.min.name ∈ zT := by decide +kernel
theorem mn_c : Cond.code Lib.Math.min.name Lib.Math.min.code 2 (some .int) ∈ zT := by decide +kernel
theorem ma_i : Cond.initialized "java/lang/Math" ∈ zT := by decide +kernel
def imx (a b : Int32) : Int32 := if a < b then b else a
def imn (a b : Int32) : Int32 := if b < a then b else a
/-- a row set as a whole; up is that -/
def rw4 (M : zM) (κ i j : Nat) (q : Nat → Int32) : zM := fun κ' i' j' => if κ' = κ ∧ i' = i ∧ j' = j then q else M κ' i' j'
theorem up_eq (M : zM) (κ i j k : Nat) (v : Int32) : up M κ i j k v = rw4 M κ i j (upd (M κ i j) k v) := rfl
theorem rw4_self (M : zM) (κ i j : Nat) (q : Nat → Int32) : rw4 M κ i j q κ i j = q := by simp [rw4]
theorem rw4_rw4 (M : zM) (κ i j : Nat) (q q' : Nat → Int32) : rw4 (rw4 M κ i j q) κ i j q' = rw4 M κ i j q' := by
  funext a b c
  by_cases h : a = κ ∧ b = i ∧ c = j
  · simp [rw4, h]
  · simp [rw4, h]
theorem rw4_id (M : zM) (κ i j : Nat) : rw4 M κ i j (M κ i j) = M := by
  funext a b c
  by_cases h : a = κ ∧ b = i ∧ c = j
  · obtain ⟨rfl, rfl, rfl⟩ := h
    simp [rw4]
  · simp [rw4, h]
theorem rw4_ne {M : zM} {κ i j κ' i' j' : Nat} {q : Nat → Int32} (h : ¬ (κ' = κ ∧ i' = i ∧ j' = j)) : rw4 M κ i j q κ' i' j' = M κ' i' j' := by simp [rw4, h]
section CA
variable {X : zX} {G : zG} {A : Nat → Prop} {nL : Nat} {Q : State → Prop} {pc : Nat} {lv : List (Nat × Value)} {st : List Value} {cc : ByteArray} {own : String} {fr lo : Nat} {V : zV} {M : zM} {P : Nat → Nat} {D : Nat × Nat} {i j n : Nat} {x y v : Int32}
theorem C_lenG (C : zC X G A cc nL own fr lo) (w : wC G V) (hi : i < 5) (hd : decode cc pc = .ok (.arraylength, 1)) (kk : Z X G A nL Q (eC V M P D) (pc + 1) lv (.int 10 :: st)) : Z X G A nL Q (eC V M P D) pc lv (.ref (V.1 3 i 0) :: st) :=
  Z_alen (t0 := 0) (v := 10) C (w.2.2.1 3 i 0 ⟨hi, rfl⟩) (fun f hf => hf 3 i 0 ⟨hi, rfl⟩) (by rw [w.2.1]; rfl) rfl hd kk
theorem C_ldG (C : zC X G A cc nL own fr lo) (w : wC G V) (hi : i < 5) (n : Nat) (hn : x.toNatClampNeg = n) (hin : vp_in x 10) (hd : decode cc pc = .ok (.iaload, 1)) (kk : Z X G A nL Q (eC V M P D) (pc + 1) lv (.int (M 3 i 0 n) :: st)) : Z X G A nL Q (eC V M P D) pc lv (.int x :: .ref (V.1 3 i 0) :: st) := by
  subst hn
  exact Z_iald (t0 := 0) C (w.2.2.1 3 i 0 ⟨hi, rfl⟩) (fun f hf => hf 3 i 0 ⟨hi, rfl⟩) (by rw [w.2.1]; rfl) hin hd kk
theorem C_stG (C : zC X G A cc nL own fr lo) (w : wC G V) (hi : i < 5) (n : Nat) (hn : x.toNatClampNeg = n) (hin : vp_in x 10) (hd : decode cc pc = .ok (.iastore, 1)) (kk : Z X G A nL Q (eC V (up M 3 i 0 n y) P D) (pc + 1) lv st) : Z X G A nL Q (eC V M P D) pc lv (.int y :: .int x :: .ref (V.1 3 i 0) :: st) := by
  subst hn
  exact Z_iast (t0 := 0) C (w.2.2.1 3 i 0 ⟨hi, rfl⟩) (fun f hf => hf 3 i 0 ⟨hi, rfl⟩) (by rw [w.2.1]; rfl) hin (eC_up w ⟨hi, rfl⟩ rfl) hd kk
theorem C_lenP (C : zC X G A cc nL own fr lo) (w : wC G V)  (hd : decode cc pc = .ok (.arraylength, 1)) (kk : Z X G A nL Q (eC V M P D) (pc + 1) lv (.int 16 :: st)) : Z X G A nL Q (eC V M P D) pc lv (.ref (V.1 7 0 0) :: st) :=
  Z_alen (t0 := 0) (v := 16) C (w.2.2.1 7 0 0 ⟨rfl, rfl⟩) (fun f hf => hf 7 0 0 ⟨rfl, rfl⟩) (by rw [w.2.1]; rfl) rfl hd kk
theorem C_ldP (C : zC X G A cc nL own fr lo) (w : wC G V)  (n : Nat) (hn : x.toNatClampNeg = n) (hin : vp_in x 16) (hd : decode cc pc = .ok (.iaload, 1)) (kk : Z X G A nL Q (eC V M P D) (pc + 1) lv (.int (M 7 0 0 n) :: st)) : Z X G A nL Q (eC V M P D) pc lv (.int x :: .ref (V.1 7 0 0) :: st) := by
  subst hn
  exact Z_iald (t0 := 0) C (w.2.2.1 7 0 0 ⟨rfl, rfl⟩) (fun f hf => hf 7 0 0 ⟨rfl, rfl⟩) (by rw [w.2.1]; rfl) hin hd kk
theorem C_stP (C : zC X G A cc nL own fr lo) (w : wC G V)  (n : Nat) (hn : x.toNatClampNeg = n) (hin : vp_in x 16) (hd : decode cc pc = .ok (.iastore, 1)) (kk : Z X G A nL Q (eC V (up M 7 0 0 n y) P D) (pc + 1) lv st) : Z X G A nL Q (eC V M P D) pc lv (.int y :: .int x :: .ref (V.1 7 0 0) :: st) := by
  subst hn
  exact Z_iast (t0 := 0) C (w.2.2.1 7 0 0 ⟨rfl, rfl⟩) (fun f hf => hf 7 0 0 ⟨rfl, rfl⟩) (by rw [w.2.1]; rfl) hin (eC_up w ⟨rfl, rfl⟩ rfl) hd kk
theorem C_lenB (C : zC X G A cc nL own fr lo) (w : wC G V) (hi : i < 63) (hd : decode cc pc = .ok (.arraylength, 1)) (kk : Z X G A nL Q (eC V M P D) (pc + 1) lv (.int 40 :: st)) : Z X G A nL Q (eC V M P D) pc lv (.ref (V.1 10 i 0) :: st) :=
  Z_alen (t0 := 0) (v := 40) C (w.2.2.1 10 i 0 ⟨hi, rfl⟩) (fun f hf => hf 10 i 0 ⟨hi, rfl⟩) (by rw [w.2.1]; rfl) rfl hd kk
theorem C_ldB (C : zC X G A cc nL own fr lo) (w : wC G V) (hi : i < 63) (n : Nat) (hn : x.toNatClampNeg = n) (hin : vp_in x 40) (hd : decode cc pc = .ok (.iaload, 1)) (kk : Z X G A nL Q (eC V M P D) (pc + 1) lv (.int (M 10 i 0 n) :: st)) : Z X G A nL Q (eC V M P D) pc lv (.int x :: .ref (V.1 10 i 0) :: st) := by
  subst hn
  exact Z_iald (t0 := 0) C (w.2.2.1 10 i 0 ⟨hi, rfl⟩) (fun f hf => hf 10 i 0 ⟨hi, rfl⟩) (by rw [w.2.1]; rfl) hin hd kk
theorem C_stB (C : zC X G A cc nL own fr lo) (w : wC G V) (hi : i < 63) (n : Nat) (hn : x.toNatClampNeg = n) (hin : vp_in x 40) (hd : decode cc pc = .ok (.iastore, 1)) (kk : Z X G A nL Q (eC V (up M 10 i 0 n y) P D) (pc + 1) lv st) : Z X G A nL Q (eC V M P D) pc lv (.int y :: .int x :: .ref (V.1 10 i 0) :: st) := by
  subst hn
  exact Z_iast (t0 := 0) C (w.2.2.1 10 i 0 ⟨hi, rfl⟩) (fun f hf => hf 10 i 0 ⟨hi, rfl⟩) (by rw [w.2.1]; rfl) hin (eC_up w ⟨hi, rfl⟩ rfl) hd kk
theorem C_lenY (C : zC X G A cc nL own fr lo) (w : wC G V)  (hd : decode cc pc = .ok (.arraylength, 1)) (kk : Z X G A nL Q (eC V M P D) (pc + 1) lv (.int 60 :: st)) : Z X G A nL Q (eC V M P D) pc lv (.ref (V.1 8 0 0) :: st) :=
  Z_alen (t0 := 1) (v := 60) C (w.2.2.1 8 0 0 ⟨rfl, rfl⟩) (fun f hf => hf 8 0 0 ⟨rfl, rfl⟩) (by rw [w.2.1]; rfl) rfl hd kk
theorem C_ldY (C : zC X G A cc nL own fr lo) (w : wC G V)  (n : Nat) (hn : x.toNatClampNeg = n) (hin : vp_in x 60) (hd : decode cc pc = .ok (.aaload, 1)) (kk : Z X G A nL Q (eC V M P D) (pc + 1) lv (.ref (V.1 9 (P n) 0) :: st)) : Z X G A nL Q (eC V M P D) pc lv (.int x :: .ref (V.1 8 0 0) :: st) := by
  subst hn
  exact Z_aald (t0 := 1) C (w.2.2.1 8 0 0 ⟨rfl, rfl⟩) (fun f hf => hf 8 0 0 ⟨rfl, rfl⟩) (by rw [w.2.1]; rfl) hin hd kk
theorem C_lenQ (C : zC X G A cc nL own fr lo) (w : wC G V)  (hd : decode cc pc = .ok (.arraylength, 1)) (kk : Z X G A nL Q (eC V M P D) (pc + 1) lv (.int 5 :: st)) : Z X G A nL Q (eC V M P D) pc lv (.ref (V.1 1 0 0) :: st) :=
  Z_alen (t0 := 2) (v := 5) C (w.2.2.1 1 0 0 ⟨rfl, rfl⟩) (fun f hf => hf 1 0 0 ⟨rfl, rfl⟩) (by rw [w.2.1]; rfl) rfl hd kk
theorem C_ldQ (C : zC X G A cc nL own fr lo) (w : wC G V)  (n : Nat) (hn : x.toNatClampNeg = n) (hin : vp_in x 5) (hd : decode cc pc = .ok (.aaload, 1)) (kk : Z X G A nL Q (eC V M P D) (pc + 1) lv (.ref (V.1 2 n 0) :: st)) : Z X G A nL Q (eC V M P D) pc lv (.int x :: .ref (V.1 1 0 0) :: st) := by
  subst hn
  exact Z_aald (t0 := 2) C (w.2.2.1 1 0 0 ⟨rfl, rfl⟩) (fun f hf => hf 1 0 0 ⟨rfl, rfl⟩) (by rw [w.2.1]; rfl) hin hd kk
theorem C_lenX (C : zC X G A cc nL own fr lo) (w : wC G V) (hi : i < 5) (hd : decode cc pc = .ok (.arraylength, 1)) (kk : Z X G A nL Q (eC V M P D) (pc + 1) lv (.int 5 :: st)) : Z X G A nL Q (eC V M P D) pc lv (.ref (V.1 4 i 0) :: st) :=
  Z_alen (t0 := 3) (v := 5) C (w.2.2.1 4 i 0 ⟨hi, rfl⟩) (fun f hf => hf 4 i 0 ⟨hi, rfl⟩) (by rw [w.2.1]; rfl) rfl hd kk
theorem C_ldX (C : zC X G A cc nL own fr lo) (w : wC G V) (hi : i < 5) (n : Nat) (hn : x.toNatClampNeg = n) (hin : vp_in x 5) (hd : decode cc pc = .ok (.aaload, 1)) (kk : Z X G A nL Q (eC V M P D) (pc + 1) lv (.ref (V.1 5 i n) :: st)) : Z X G A nL Q (eC V M P D) pc lv (.int x :: .ref (V.1 4 i 0) :: st) := by
  subst hn
  exact Z_aald (t0 := 3) C (w.2.2.1 4 i 0 ⟨hi, rfl⟩) (fun f hf => hf 4 i 0 ⟨hi, rfl⟩) (by rw [w.2.1]; rfl) hin hd kk
theorem C_stY {fj : Nat} (C : zC X G A cc nL own fr lo) (w : wC G V) (hfj : fj < 63) (n : Nat) (hn : x.toNatClampNeg = n) (hin : vp_in x 60) (hd : decode cc pc = .ok (.aastore, 1)) (kk : Z X G A nL Q (eC V M (va_up P n fj) D) (pc + 1) lv st) : Z X G A nL Q (eC V M P D) pc lv (.ref (V.1 9 fj 0) :: .int x :: .ref (V.1 8 0 0) :: st) := by
  subst hn
  intro f H locs ls hf hP hS hl
  obtain ⟨q0, hq⟩ := va_pl_get (X := []) (f := f) (w.2.2.1 8 0 0 ⟨rfl, rfl⟩)
  obtain ⟨q1, hq1⟩ := va_pl_get (X := []) (f := f) (w.2.2.1 9 fj 0 ⟨hfj, rfl⟩)
  have hD : va_D A (va_pl G.2.2.2 f) := zD C.2.2.1 C.2.2.2.1
  have hq0 := hq
  rw [hf 8 0 0 ⟨rfl, rfl⟩] at hq
  rw [hf 9 fj 0 ⟨hfj, rfl⟩] at hq1
  refine va_astq (r := (RX0, TX0, 9)) C.1.1 C.1.2.1 C.2.1 hP hD hS q0 1 q1 0 hq (by rw [w.2.1]; rfl) hq1 (by rw [w.1]; rfl) hin hd (fun H1 locs1 hP1 hD1 hS1 => ?_)
  have e := va_pl_set (X := []) (e := .inl (V.2.2.1, 60, .inr (.inr (.inr (.inr (va_up (fun n => some (V.1 9 (P n) 0)) x.toNatClampNeg (some (V.1 9 fj 0)))))))) hD (w.2.2.1 8 0 0 ⟨rfl, rfl⟩) hq0
  simp only [List.nil_append] at e
  rw [e] at hP1
  exact kk _ H1 locs1 ls (eC_way w f hf) hP1 hS1 hl
theorem C_pD (C : zC X G A cc nL own fr lo) (w : wC G V) {fj index : Nat} (hlk : Cond.fieldLink own index RX3 (TX3 4).2.1 (TX3 4).2.2.1 ∈ zT) (hd : decode cc pc = .ok (.putfield index, 3)) (kk : Z X G A nL Q (eC V M P (fj, D.2)) (pc + 3) lv st) : Z X G A nL Q (eC V M P D) pc lv (.ref (V.1 9 fj 0) :: .ref (V.1 6 0 0) :: st) :=
  Z_put C 4 tyX3 (w.2.2.1 6 0 0 ⟨rfl, rfl⟩) (fun f hf => hf 6 0 0 ⟨rfl, rfl⟩) (by rw [w.1]; rfl) in_W tyX3_ok nmX3 (by decide) hlk rfl rfl (tyX3_ok 4 (by decide)) rfl rfl (by show 4 < 6; decide) (eC_wire (D' := (fj, D.2)) w) hd kk
theorem C_pT (C : zC X G A cc nL own fr lo) (w : wC G V) {fj index : Nat} (hlk : Cond.fieldLink own index RX3 (TX3 5).2.1 (TX3 5).2.2.1 ∈ zT) (hd : decode cc pc = .ok (.putfield index, 3)) (kk : Z X G A nL Q (eC V M P (D.1, fj)) (pc + 3) lv st) : Z X G A nL Q (eC V M P D) pc lv (.ref (V.1 9 fj 0) :: .ref (V.1 6 0 0) :: st) :=
  Z_put C 5 tyX3 (w.2.2.1 6 0 0 ⟨rfl, rfl⟩) (fun f hf => hf 6 0 0 ⟨rfl, rfl⟩) (by rw [w.1]; rfl) in_W tyX3_ok nmX3 (by decide) hlk rfl rfl (tyX3_ok 5 (by decide)) rfl rfl (by show 5 < 6; decide) (eC_wire (D' := (D.1, fj)) w) hd kk
end CA
end
section
/-! THE SESSION's METHODS: what they answer and write, over its row q of ints -/
def sSlowed (q : Nat → Int32) (p : Int32) : Int32 := if q 3 = 3 then p else imx p 100
def sPause (q : Nat → Int32) : Int32 := if q 10 = 0 then 0 else imx (sSlowed q (q 14)) (q 10)
def sTold (x : Int32) : Int32 := if x < 0 then 100000 else if x ≤ 100000 then x else 100000
def sUse (q : Nat → Int32) : Nat → Int32 := upd (upd q 14 (q 7)) 15 (q 8)
def sHurry (q : Nat → Int32) : Nat → Int32 := if sPause q = 0 ∨ q 16 = 0 ∨ sPause q < q 16 then upd q 16 (sPause q) else q
def sBegin0 (q : Nat → Int32) (tx rx m : Int32) : Nat → Int32 := upd (upd (sUse (upd (upd (upd (upd (upd (upd (upd (upd (upd (upd (upd (upd q 2 1) 3 1) 4 1) 5 0) 6 0) 7 tx) 8 rx) 9 m) 10 1) 11 0) 12 0) 13 0)) 17 0) 18 0
def sBegin (q : Nat → Int32) (tx rx m : Int32) : Nat → Int32 := upd (sBegin0 q tx rx m) 16 (sPause (sBegin0 q tx rx m))
def sWant1 (q : Nat → Int32) (tx rx : Int32) : Nat → Int32 := upd (upd q 7 tx) 8 rx
def sWant2 (q : Nat → Int32) : Nat → Int32 := if q 3 = 3 then upd (upd (upd q 13 1) 14 (imn (q 14) (q 7))) 15 (imx (q 15) (q 8)) else sUse q
def sWant (q : Nat → Int32) (tx rx : Int32) : Nat → Int32 := sHurry (sWant2 (sWant1 q tx rx))
def sShut (q : Nat → Int32) : Nat → Int32 := upd (upd (upd q 3 0) 6 7) 13 0
def sComeUp (q : Nat → Int32) : Nat → Int32 := upd (upd q 3 3) 18 (q 18 + 1)
def sFall (q : Nat → Int32) (why : Int32) : Nat → Int32 := if q 3 = 2 ∨ q 3 = 3 then upd (upd q 6 why) 3 1 else q
def sFollow (q : Nat → Int32) : Nat → Int32 := if q 3 = 0 then q else if q 4 = 0 then sFall q 3 else if q 3 = 1 then (if q 4 = 1 then upd q 3 2 else if q 4 = 2 then sComeUp q else q) else if q 3 = 2 then (if q 4 = 1 then q else sComeUp q) else if q 4 = 1 then sFall q 3 else q
def sDetect (q : Nat → Int32) : Nat → Int32 := if 0 < q 17 then (if q 17 - 1 = 0 then sFall (upd (upd q 17 (q 17 - 1)) 5 0) 1 else upd q 17 (q 17 - 1)) else q
def sFires (q : Nat → Int32) : Nat → Int32 := if 0 < q 16 then upd q 16 (q 16 - 1) else q
def sFired (q : Nat → Int32) : Int32 := if 0 < q 16 then (if q 16 - 1 = 0 then 1 else 0) else 0
def sTell (q : Nat → Int32) (x : Int32) : Int32 := if x = 0 then q 3 else if x = 1 then q 4 else if x = 2 then q 5 else if x = 3 then q 6 else if x = 4 then q 16 else if x = 5 then q 17 else if x = 6 then q 14 else if x = 7 then q 15 else if x = 8 then (if q 13 = 0 then 0 else 1) else if x = 9 then q 10 else if x = 10 then q 11 else if x = 11 then q 18 else -1
set_option maxRecDepth 100000 in
set_option maxHeartbeats 4000000 in
theorem c_S_useRates {l : Launch} {G : zG} {V : zV} (w : wC G V) (M : zM) (P : Nat → Nat) (D : Nat × Nat) (i j : Nat) (hi : i < 5) (hj : j < 5) : zF l y_S_useRates b_S_useRates 1 none 0 0 G [.ref (V.1 5 i j)] (eC V M P D) none (eC V (rw4 M 5 i j (sUse (M 5 i j))) P D) := by
  refine zF.ofZ (by decide) w.2.2.2.2 (Nat.le_of_ble_eq_true rfl) (fun X hXl hN hr C => ?_)
  subst hXl
  show Z X G (zA G) 1 _ (eC V M P D) 0 [(0, .ref (V.1 5 i j))] []
  refine Z_aload_n C 0 d_S_useRates_0 rfl rfl ?_
  refine Z_aload_n C 0 d_S_useRates_1 rfl rfl ?_
  refine C_gS C w (by assumption) (by assumption) 7 (by decide) fl_S_34 rfl rfl d_S_useRates_2 ?_
  refine C_pS C w (by assumption) (by assumption) 14 (by decide) fl_S_71 rfl rfl rfl rfl rfl d_S_useRates_5 ?_
  refine Z_aload_n C 0 d_S_useRates_8 rfl rfl ?_
  refine Z_aload_n C 0 d_S_useRates_9 rfl rfl ?_
  refine C_gS C w (by assumption) (by assumption) 8 (by decide) fl_S_37 rfl rfl d_S_useRates_10 ?_
  refine C_pS C w (by assumption) (by assumption) 15 (by decide) fl_S_80 rfl rfl rfl rfl rfl d_S_useRates_13 ?_
  exact Z_vret C hN hr d_S_useRates_16 rfl (zeq (by apply eC_M; simp only [up_eq, rw4_rw4, rw4_self, rw4_id, sUse]; rfl))
set_option maxRecDepth 100000 in
set_option maxHeartbeats 4000000 in
theorem c_S_slowed {l : Launch} {G : zG} {V : zV} (w : wC G V) (M : zM) (P : Nat → Nat) (D : Nat × Nat) (i j : Nat) (hi : i < 5) (hj : j < 5) (p : Int32) : zF l y_S_slowed b_S_slowed 2 (some .int) 1 21 G [.ref (V.1 5 i j), .int p] (eC V M P D) (some (.int (sSlowed (M 5 i j) p))) (eC V M P D) := by
  refine zF.ofZ (by decide) w.2.2.2.2 (Nat.le_of_ble_eq_true rfl) (fun X hXl hN hr C => ?_)
  subst hXl
  show Z X G (zA G) 2 _ (eC V M P D) 0 [(0, .ref (V.1 5 i j)), (1, .int p)] []
  refine Z_aload_n C 0 d_S_slowed_0 rfl rfl ?_
  refine C_gS C w (by assumption) (by assumption) 3 (by decide) fl_S_22 rfl rfl d_S_slowed_1 ?_
  refine Z_iconst (v := 3) C d_S_slowed_4 (by decide) ?_
  refine Z_icmp_ne (tgt := 12) C d_S_slowed_5 (by decide) (fun c5 => ?_) (fun c5 => ?_)
  · skip
    refine Z_iload_n C 1 d_S_slowed_12 rfl rfl ?_
    refine Z_bipush (v := 100) C d_S_slowed_13 (by decide) ?_
    refine Z_mmax C ml_S_83 mx_s ma_i mx_c ⟨Nat.le_of_ble_eq_true rfl, Nat.le_of_ble_eq_true rfl⟩ d_S_slowed_15 ?_
    exact Z_iret C hN hr d_S_slowed_18 (by simp [sSlowed, imx, c5]) (zeq (rfl))
  · skip
    refine Z_iload_n C 1 d_S_slowed_8 rfl rfl ?_
    refine Z_goto (tgt := 18) C d_S_slowed_9 (by decide) ?_
    exact Z_iret C hN hr d_S_slowed_18 (by simp [sSlowed, imx, c5]) (zeq (rfl))
set_option maxRecDepth 100000 in
set_option maxHeartbeats 4000000 in
theorem c_S_sendPause {l : Launch} {G : zG} {V : zV} (w : wC G V) (M : zM) (P : Nat → Nat) (D : Nat × Nat) (i j : Nat) (hi : i < 5) (hj : j < 5) : zF l y_S_sendPause b_S_sendPause 1 (some .int) 2 42 G [.ref (V.1 5 i j)] (eC V M P D) (some (.int (sPause (M 5 i j)))) (eC V M P D) := by
  refine zF.ofZ (by decide) w.2.2.2.2 (Nat.le_of_ble_eq_true rfl) (fun X hXl hN hr C => ?_)
  subst hXl
  show Z X G (zA G) 1 _ (eC V M P D) 0 [(0, .ref (V.1 5 i j))] []
  refine Z_aload_n C 0 d_S_sendPause_0 rfl rfl ?_
  refine C_gS C w (by assumption) (by assumption) 10 (by decide) fl_S_43 rfl rfl d_S_sendPause_1 ?_
  refine Z_if_ne (tgt := 11) C d_S_sendPause_4 (by decide) (fun c4 => ?_) (fun c4 => ?_)
  · skip
    refine Z_aload_n C 0 d_S_sendPause_11 rfl rfl ?_
    refine Z_aload_n C 0 d_S_sendPause_12 rfl rfl ?_
    refine C_gS C w (by assumption) (by assumption) 14 (by decide) fl_S_71 rfl rfl d_S_sendPause_13 ?_
    refine C_cSv C w (by assumption) (by assumption) mi_S_slowed ml_S_89 (c_S_slowed w _ _ _ _ _ (by assumption) (by assumption) _) rfl rfl (by decide) rfl (Nat.le_of_ble_eq_true rfl) d_S_sendPause_16 ?_
    refine Z_aload_n C 0 d_S_sendPause_19 rfl rfl ?_
    refine C_gS C w (by assumption) (by assumption) 10 (by decide) fl_S_43 rfl rfl d_S_sendPause_20 ?_
    refine Z_mmax C ml_S_83 mx_s ma_i mx_c ⟨Nat.le_of_ble_eq_true rfl, Nat.le_of_ble_eq_true rfl⟩ d_S_sendPause_23 ?_
    exact Z_iret C hN hr d_S_sendPause_26 (by simp [sPause, imx, c4]) (zeq (rfl))
  · skip
    refine Z_iconst (v := 0) C d_S_sendPause_7 (by decide) ?_
    refine Z_goto (tgt := 26) C d_S_sendPause_8 (by decide) ?_
    exact Z_iret C hN hr d_S_sendPause_26 (by simp [sPause, imx, c4]) (zeq (rfl))
set_option maxRecDepth 100000 in
set_option maxHeartbeats 4000000 in
theorem c_S_told {l : Launch} {G : zG} {V : zV} (w : wC G V) (M : zM) (P : Nat → Nat) (D : Nat × Nat) (x : Int32) : zF l y_S_told b_S_told 1 (some .int) 0 0 G [.int x] (eC V M P D) (some (.int (sTold x))) (eC V M P D) := by
  refine zF.ofZ (by decide) w.2.2.2.2 (Nat.le_of_ble_eq_true rfl) (fun X hXl hN hr C => ?_)
  subst hXl
  show Z X G (zA G) 1 _ (eC V M P D) 0 [(0, .int x)] []
  refine Z_iload_n C 0 d_S_told_0 rfl rfl ?_
  refine Z_if_lt (tgt := 10) C d_S_told_1 (by decide) (fun c1 => ?_) (fun c1 => ?_)
  · skip
    refine Z_ldc C co_S_108 d_S_told_10 ?_
    refine Z_goto (tgt := 16) C d_S_told_12 (by decide) ?_
    exact Z_iret C hN hr d_S_told_16 (by simp [sTold, c1]) (zeq (rfl))
  · skip
    refine Z_iload_n C 0 d_S_told_4 rfl rfl ?_
    refine Z_ldc C co_S_108 d_S_told_5 ?_
    refine Z_icmp_le (tgt := 15) C d_S_told_7 (by decide) (fun c7 => ?_) (fun c7 => ?_)
    · skip
      refine Z_iload_n C 0 d_S_told_15 rfl rfl ?_
      exact Z_iret C hN hr d_S_told_16 (by simp [sTold, c1, c7]) (zeq (rfl))
    · skip
      refine Z_ldc C co_S_108 d_S_told_10 ?_
      refine Z_goto (tgt := 16) C d_S_told_12 (by decide) ?_
      exact Z_iret C hN hr d_S_told_16 (by simp [sTold, c1, c7]) (zeq (rfl))
set_option maxRecDepth 100000 in
set_option maxHeartbeats 4000000 in
theorem c_S_hurrySend {l : Launch} {G : zG} {V : zV} (w : wC G V) (M : zM) (P : Nat → Nat) (D : Nat × Nat) (i j : Nat) (hi : i < 5) (hj : j < 5) : zF l y_S_hurrySend b_S_hurrySend 2 none 3 62 G [.ref (V.1 5 i j)] (eC V M P D) none (eC V (rw4 M 5 i j (sHurry (M 5 i j))) P D) := by
  refine zF.ofZ (by decide) w.2.2.2.2 (Nat.le_of_ble_eq_true rfl) (fun X hXl hN hr C => ?_)
  subst hXl
  show Z X G (zA G) 2 _ (eC V M P D) 0 [(0, .ref (V.1 5 i j))] []
  refine Z_aload_n C 0 d_S_hurrySend_0 rfl rfl ?_
  refine C_cSv C w (by assumption) (by assumption) mi_S_sendPause ml_S_64 (c_S_sendPause w _ _ _ _ _ (by assumption) (by assumption)) rfl rfl (by decide) rfl (Nat.le_of_ble_eq_true rfl) d_S_hurrySend_1 ?_
  refine Z_istore_n C d_S_hurrySend_4 rfl (by decide) rfl ?_
  refine Z_iload_n C 0 d_S_hurrySend_5 rfl rfl ?_
  refine Z_if_eq (tgt := 24) C d_S_hurrySend_6 (by decide) (fun c6 => ?_) (fun c6 => ?_)
  · skip
    refine Z_aload_n C 1 d_S_hurrySend_24 rfl rfl ?_
    refine Z_iload_n C 0 d_S_hurrySend_25 rfl rfl ?_
    refine C_pS C w (by assumption) (by assumption) 16 (by decide) fl_S_68 rfl rfl rfl rfl rfl d_S_hurrySend_26 ?_
    exact Z_vret C hN hr d_S_hurrySend_29 rfl (zeq (by apply eC_M; simp [up_eq, rw4_rw4, rw4_self, rw4_id, sHurry, ← Int32.not_le, c6]))
  · skip
    refine Z_aload_n C 1 d_S_hurrySend_9 rfl rfl ?_
    refine C_gS C w (by assumption) (by assumption) 16 (by decide) fl_S_68 rfl rfl d_S_hurrySend_10 ?_
    refine Z_if_eq (tgt := 24) C d_S_hurrySend_13 (by decide) (fun c13 => ?_) (fun c13 => ?_)
    · skip
      refine Z_aload_n C 1 d_S_hurrySend_24 rfl rfl ?_
      refine Z_iload_n C 0 d_S_hurrySend_25 rfl rfl ?_
      refine C_pS C w (by assumption) (by assumption) 16 (by decide) fl_S_68 rfl rfl rfl rfl rfl d_S_hurrySend_26 ?_
      exact Z_vret C hN hr d_S_hurrySend_29 rfl (zeq (by apply eC_M; simp [up_eq, rw4_rw4, rw4_self, rw4_id, sHurry, ← Int32.not_le, c6, c13]))
    · skip
      refine Z_aload_n C 1 d_S_hurrySend_16 rfl rfl ?_
      refine C_gS C w (by assumption) (by assumption) 16 (by decide) fl_S_68 rfl rfl d_S_hurrySend_17 ?_
      refine Z_iload_n C 0 d_S_hurrySend_20 rfl rfl ?_
      refine Z_icmp_le (tgt := 29) C d_S_hurrySend_21 (by decide) (fun c21 => ?_) (fun c21 => ?_)
      · skip
        exact Z_vret C hN hr d_S_hurrySend_29 rfl (zeq (by apply eC_M; simp [up_eq, rw4_rw4, rw4_self, rw4_id, sHurry, ← Int32.not_le, c6, c13, c21]))
      · skip
        refine Z_aload_n C 1 d_S_hurrySend_24 rfl rfl ?_
        refine Z_iload_n C 0 d_S_hurrySend_25 rfl rfl ?_
        refine C_pS C w (by assumption) (by assumption) 16 (by decide) fl_S_68 rfl rfl rfl rfl rfl d_S_hurrySend_26 ?_
        exact Z_vret C hN hr d_S_hurrySend_29 rfl (zeq (by apply eC_M; simp [up_eq, rw4_rw4, rw4_self, rw4_id, sHurry, ← Int32.not_le, c6, c13, c21]))
set_option maxRecDepth 100000 in
set_option maxHeartbeats 4000000 in
theorem c_S_begin {l : Launch} {G : zG} {V : zV} (w : wC G V) (M : zM) (P : Nat → Nat) (D : Nat × Nat) (i j : Nat) (hi : i < 5) (hj : j < 5) (tx rx m : Int32) : zF l y_S_begin b_S_begin 4 none 3 62 G [.ref (V.1 5 i j), .int tx, .int rx, .int m] (eC V M P D) none (eC V (rw4 M 5 i j (sBegin (M 5 i j) tx rx m)) P D) := by
  refine zF.ofZ (by decide) w.2.2.2.2 (Nat.le_of_ble_eq_true rfl) (fun X hXl hN hr C => ?_)
  subst hXl
  show Z X G (zA G) 4 _ (eC V M P D) 0 [(0, .ref (V.1 5 i j)), (1, .int tx), (2, .int rx), (3, .int m)] []
  refine Z_aload_n C 0 d_S_begin_0 rfl rfl ?_
  refine Z_iconst (v := 1) C d_S_begin_1 (by decide) ?_
  refine C_pS C w (by assumption) (by assumption) 2 (by decide) fl_S_18 rfl rfl rfl rfl rfl d_S_begin_2 ?_
  refine Z_aload_n C 0 d_S_begin_5 rfl rfl ?_
  refine Z_iconst (v := 1) C d_S_begin_6 (by decide) ?_
  refine C_pS C w (by assumption) (by assumption) 3 (by decide) fl_S_22 rfl rfl rfl rfl rfl d_S_begin_7 ?_
  refine Z_aload_n C 0 d_S_begin_10 rfl rfl ?_
  refine Z_iconst (v := 1) C d_S_begin_11 (by decide) ?_
  refine C_pS C w (by assumption) (by assumption) 4 (by decide) fl_S_25 rfl rfl rfl rfl rfl d_S_begin_12 ?_
  refine Z_aload_n C 0 d_S_begin_15 rfl rfl ?_
  refine Z_iconst (v := 0) C d_S_begin_16 (by decide) ?_
  refine C_pS C w (by assumption) (by assumption) 5 (by decide) fl_S_28 rfl rfl rfl rfl rfl d_S_begin_17 ?_
  refine Z_aload_n C 0 d_S_begin_20 rfl rfl ?_
  refine Z_iconst (v := 0) C d_S_begin_21 (by decide) ?_
  refine C_pS C w (by assumption) (by assumption) 6 (by decide) fl_S_31 rfl rfl rfl rfl rfl d_S_begin_22 ?_
  refine Z_aload_n C 0 d_S_begin_25 rfl rfl ?_
  refine Z_iload_n C 1 d_S_begin_26 rfl rfl ?_
  refine C_pS C w (by assumption) (by assumption) 7 (by decide) fl_S_34 rfl rfl rfl rfl rfl d_S_begin_27 ?_
  refine Z_aload_n C 0 d_S_begin_30 rfl rfl ?_
  refine Z_iload_n C 2 d_S_begin_31 rfl rfl ?_
  refine C_pS C w (by assumption) (by assumption) 8 (by decide) fl_S_37 rfl rfl rfl rfl rfl d_S_begin_32 ?_
  refine Z_aload_n C 0 d_S_begin_35 rfl rfl ?_
  refine Z_iload_n C 3 d_S_begin_36 rfl rfl ?_
  refine C_pS C w (by assumption) (by assumption) 9 (by decide) fl_S_40 rfl rfl rfl rfl rfl d_S_begin_37 ?_
  refine Z_aload_n C 0 d_S_begin_40 rfl rfl ?_
  refine Z_iconst (v := 1) C d_S_begin_41 (by decide) ?_
  refine C_pS C w (by assumption) (by assumption) 10 (by decide) fl_S_43 rfl rfl rfl rfl rfl d_S_begin_42 ?_
  refine Z_aload_n C 0 d_S_begin_45 rfl rfl ?_
  refine Z_iconst (v := 0) C d_S_begin_46 (by decide) ?_
  refine C_pS C w (by assumption) (by assumption) 11 (by decide) fl_S_46 rfl rfl rfl rfl rfl d_S_begin_47 ?_
  refine Z_aload_n C 0 d_S_begin_50 rfl rfl ?_
  refine Z_iconst (v := 0) C d_S_begin_51 (by decide) ?_
  refine C_pS C w (by assumption) (by assumption) 12 (by decide) fl_S_49 rfl rfl rfl rfl rfl d_S_begin_52 ?_
  refine Z_aload_n C 0 d_S_begin_55 rfl rfl ?_
  refine Z_iconst (v := 0) C d_S_begin_56 (by decide) ?_
  refine C_pS C w (by assumption) (by assumption) 13 (by decide) fl_S_52 rfl rfl rfl rfl rfl d_S_begin_57 ?_
  refine Z_aload_n C 0 d_S_begin_60 rfl rfl ?_
  refine C_cSn C w (by assumption) (by assumption) mi_S_useRates ml_S_55 (c_S_useRates w _ _ _ _ _ (by assumption) (by assumption)) rfl rfl (by decide) rfl (Nat.le_of_ble_eq_true rfl) d_S_begin_61 ?_
  refine Z_aload_n C 0 d_S_begin_64 rfl rfl ?_
  refine Z_iconst (v := 0) C d_S_begin_65 (by decide) ?_
  refine C_pS C w (by assumption) (by assumption) 17 (by decide) fl_S_58 rfl rfl rfl rfl rfl d_S_begin_66 ?_
  refine Z_aload_n C 0 d_S_begin_69 rfl rfl ?_
  refine Z_iconst (v := 0) C d_S_begin_70 (by decide) ?_
  refine C_pS C w (by assumption) (by assumption) 18 (by decide) fl_S_61 rfl rfl rfl rfl rfl d_S_begin_71 ?_
  refine Z_aload_n C 0 d_S_begin_74 rfl rfl ?_
  refine Z_aload_n C 0 d_S_begin_75 rfl rfl ?_
  refine C_cSv C w (by assumption) (by assumption) mi_S_sendPause ml_S_64 (c_S_sendPause w _ _ _ _ _ (by assumption) (by assumption)) rfl rfl (by decide) rfl (Nat.le_of_ble_eq_true rfl) d_S_begin_76 ?_
  refine C_pS C w (by assumption) (by assumption) 16 (by decide) fl_S_68 rfl rfl rfl rfl rfl d_S_begin_79 ?_
  exact Z_vret C hN hr d_S_begin_82 rfl (zeq (by apply eC_M; simp only [up_eq, rw4_rw4, rw4_self, rw4_id, sBegin, sBegin0]))
set_option maxRecDepth 100000 in
set_option maxHeartbeats 4000000 in
theorem c_S_wantRates {l : Launch} {G : zG} {V : zV} (w : wC G V) (M : zM) (P : Nat → Nat) (D : Nat × Nat) (i j : Nat) (hi : i < 5) (hj : j < 5) (tx rx : Int32) : zF l y_S_wantRates b_S_wantRates 3 none 4 83 G [.ref (V.1 5 i j), .int tx, .int rx] (eC V M P D) none (eC V (rw4 M 5 i j (sWant (M 5 i j) tx rx)) P D) := by
  refine zF.ofZ (by decide) w.2.2.2.2 (Nat.le_of_ble_eq_true rfl) (fun X hXl hN hr C => ?_)
  subst hXl
  show Z X G (zA G) 3 _ (eC V M P D) 0 [(0, .ref (V.1 5 i j)), (1, .int tx), (2, .int rx)] []
  refine Z_aload_n C 0 d_S_wantRates_0 rfl rfl ?_
  refine Z_iload_n C 1 d_S_wantRates_1 rfl rfl ?_
  refine C_pS C w (by assumption) (by assumption) 7 (by decide) fl_S_34 rfl rfl rfl rfl rfl d_S_wantRates_2 ?_
  refine Z_aload_n C 0 d_S_wantRates_5 rfl rfl ?_
  refine Z_iload_n C 2 d_S_wantRates_6 rfl rfl ?_
  refine C_pS C w (by assumption) (by assumption) 8 (by decide) fl_S_37 rfl rfl rfl rfl rfl d_S_wantRates_7 ?_
  refine Z_aload_n C 0 d_S_wantRates_10 rfl rfl ?_
  refine C_gS C w (by assumption) (by assumption) 3 (by decide) fl_S_22 rfl rfl d_S_wantRates_11 ?_
  refine Z_iconst (v := 3) C d_S_wantRates_14 (by decide) ?_
  refine Z_icmp_eq (tgt := 25) C d_S_wantRates_15 (by decide) (fun c15 => ?_) (fun c15 => ?_)
  · simp [up_eq, rw4_rw4, rw4_self, rw4_id, upd] at c15
    refine Z_aload_n C 0 d_S_wantRates_25 rfl rfl ?_
    refine Z_iconst (v := 1) C d_S_wantRates_26 (by decide) ?_
    refine C_pS C w (by assumption) (by assumption) 13 (by decide) fl_S_52 rfl rfl rfl rfl rfl d_S_wantRates_27 ?_
    refine Z_aload_n C 0 d_S_wantRates_30 rfl rfl ?_
    refine Z_aload_n C 0 d_S_wantRates_31 rfl rfl ?_
    refine C_gS C w (by assumption) (by assumption) 14 (by decide) fl_S_71 rfl rfl d_S_wantRates_32 ?_
    refine Z_aload_n C 0 d_S_wantRates_35 rfl rfl ?_
    refine C_gS C w (by assumption) (by assumption) 7 (by decide) fl_S_34 rfl rfl d_S_wantRates_36 ?_
    refine Z_mmin C ml_S_74 mn_s ma_i mn_c ⟨Nat.le_of_ble_eq_true rfl, Nat.le_of_ble_eq_true rfl⟩ d_S_wantRates_39 ?_
    refine C_pS C w (by assumption) (by assumption) 14 (by decide) fl_S_71 rfl rfl rfl rfl rfl d_S_wantRates_42 ?_
    refine Z_aload_n C 0 d_S_wantRates_45 rfl rfl ?_
    refine Z_aload_n C 0 d_S_wantRates_46 rfl rfl ?_
    refine C_gS C w (by assumption) (by assumption) 15 (by decide) fl_S_80 rfl rfl d_S_wantRates_47 ?_
    refine Z_aload_n C 0 d_S_wantRates_50 rfl rfl ?_
    refine C_gS C w (by assumption) (by assumption) 8 (by decide) fl_S_37 rfl rfl d_S_wantRates_51 ?_
    refine Z_mmax C ml_S_83 mx_s ma_i mx_c ⟨Nat.le_of_ble_eq_true rfl, Nat.le_of_ble_eq_true rfl⟩ d_S_wantRates_54 ?_
    refine C_pS C w (by assumption) (by assumption) 15 (by decide) fl_S_80 rfl rfl rfl rfl rfl d_S_wantRates_57 ?_
    refine Z_aload_n C 0 d_S_wantRates_60 rfl rfl ?_
    refine C_cSn C w (by assumption) (by assumption) mi_S_hurrySend ml_S_86 (c_S_hurrySend w _ _ _ _ _ (by assumption) (by assumption)) rfl rfl (by decide) rfl (Nat.le_of_ble_eq_true rfl) d_S_wantRates_61 ?_
    exact Z_vret C hN hr d_S_wantRates_64 rfl (zeq (by apply eC_M; simp only [up_eq, rw4_rw4, rw4_self, rw4_id, sWant]; congr 1; unfold sWant2 sWant1; simp [c15, imn, imx, sUse, upd]))
  · simp [up_eq, rw4_rw4, rw4_self, rw4_id, upd] at c15
    refine Z_aload_n C 0 d_S_wantRates_18 rfl rfl ?_
    refine C_cSn C w (by assumption) (by assumption) mi_S_useRates ml_S_55 (c_S_useRates w _ _ _ _ _ (by assumption) (by assumption)) rfl rfl (by decide) rfl (Nat.le_of_ble_eq_true rfl) d_S_wantRates_19 ?_
    refine Z_goto (tgt := 60) C d_S_wantRates_22 (by decide) ?_
    refine Z_aload_n C 0 d_S_wantRates_60 rfl rfl ?_
    refine C_cSn C w (by assumption) (by assumption) mi_S_hurrySend ml_S_86 (c_S_hurrySend w _ _ _ _ _ (by assumption) (by assumption)) rfl rfl (by decide) rfl (Nat.le_of_ble_eq_true rfl) d_S_wantRates_61 ?_
    exact Z_vret C hN hr d_S_wantRates_64 rfl (zeq (by apply eC_M; simp only [up_eq, rw4_rw4, rw4_self, rw4_id, sWant]; congr 1; unfold sWant2 sWant1; simp [c15, imn, imx, sUse, upd]))
set_option maxRecDepth 100000 in
set_option maxHeartbeats 4000000 in
theorem c_S_shut {l : Launch} {G : zG} {V : zV} (w : wC G V) (M : zM) (P : Nat → Nat) (D : Nat × Nat) (i j : Nat) (hi : i < 5) (hj : j < 5) : zF l y_S_shut b_S_shut 1 none 0 0 G [.ref (V.1 5 i j)] (eC V M P D) none (eC V (rw4 M 5 i j (sShut (M 5 i j))) P D) := by
  refine zF.ofZ (by decide) w.2.2.2.2 (Nat.le_of_ble_eq_true rfl) (fun X hXl hN hr C => ?_)
  subst hXl
  show Z X G (zA G) 1 _ (eC V M P D) 0 [(0, .ref (V.1 5 i j))] []
  refine Z_aload_n C 0 d_S_shut_0 rfl rfl ?_
  refine Z_iconst (v := 0) C d_S_shut_1 (by decide) ?_
  refine C_pS C w (by assumption) (by assumption) 3 (by decide) fl_S_22 rfl rfl rfl rfl rfl d_S_shut_2 ?_
  refine Z_aload_n C 0 d_S_shut_5 rfl rfl ?_
  refine Z_bipush (v := 7) C d_S_shut_6 (by decide) ?_
  refine C_pS C w (by assumption) (by assumption) 6 (by decide) fl_S_31 rfl rfl rfl rfl rfl d_S_shut_8 ?_
  refine Z_aload_n C 0 d_S_shut_11 rfl rfl ?_
  refine Z_iconst (v := 0) C d_S_shut_12 (by decide) ?_
  refine C_pS C w (by assumption) (by assumption) 13 (by decide) fl_S_52 rfl rfl rfl rfl rfl d_S_shut_13 ?_
  exact Z_vret C hN hr d_S_shut_16 rfl (zeq (by apply eC_M; simp only [up_eq, rw4_rw4, rw4_self, rw4_id, sShut]))
set_option maxRecDepth 100000 in
set_option maxHeartbeats 4000000 in
theorem c_S_comeUp {l : Launch} {G : zG} {V : zV} (w : wC G V) (M : zM) (P : Nat → Nat) (D : Nat × Nat) (i j : Nat) (hi : i < 5) (hj : j < 5) : zF l y_S_comeUp b_S_comeUp 1 none 0 0 G [.ref (V.1 5 i j)] (eC V M P D) none (eC V (rw4 M 5 i j (sComeUp (M 5 i j))) P D) := by
  refine zF.ofZ (by decide) w.2.2.2.2 (Nat.le_of_ble_eq_true rfl) (fun X hXl hN hr C => ?_)
  subst hXl
  show Z X G (zA G) 1 _ (eC V M P D) 0 [(0, .ref (V.1 5 i j))] []
  refine Z_aload_n C 0 d_S_comeUp_0 rfl rfl ?_
  refine Z_iconst (v := 3) C d_S_comeUp_1 (by decide) ?_
  refine C_pS C w (by assumption) (by assumption) 3 (by decide) fl_S_22 rfl rfl rfl rfl rfl d_S_comeUp_2 ?_
  refine Z_aload_n C 0 d_S_comeUp_5 rfl rfl ?_
  refine Z_dup C d_S_comeUp_6 rfl ?_
  refine C_gS C w (by assumption) (by assumption) 18 (by decide) fl_S_61 rfl rfl d_S_comeUp_7 ?_
  refine Z_iconst (v := 1) C d_S_comeUp_10 (by decide) ?_
  refine Z_iadd C d_S_comeUp_11 ?_
  refine C_pS C w (by assumption) (by assumption) 18 (by decide) fl_S_61 rfl rfl rfl rfl rfl d_S_comeUp_12 ?_
  exact Z_vret C hN hr d_S_comeUp_15 rfl (zeq (by apply eC_M; simp only [up_eq, rw4_rw4, rw4_self, rw4_id, sComeUp]; rfl))
set_option maxRecDepth 100000 in
set_option maxHeartbeats 4000000 in
theorem c_S_fall {l : Launch} {G : zG} {V : zV} (w : wC G V) (M : zM) (P : Nat → Nat) (D : Nat × Nat) (i j : Nat) (hi : i < 5) (hj : j < 5) (why : Int32) : zF l y_S_fall b_S_fall 2 none 0 0 G [.ref (V.1 5 i j), .int why] (eC V M P D) none (eC V (rw4 M 5 i j (sFall (M 5 i j) why)) P D) := by
  refine zF.ofZ (by decide) w.2.2.2.2 (Nat.le_of_ble_eq_true rfl) (fun X hXl hN hr C => ?_)
  subst hXl
  show Z X G (zA G) 2 _ (eC V M P D) 0 [(0, .ref (V.1 5 i j)), (1, .int why)] []
  refine Z_aload_n C 0 d_S_fall_0 rfl rfl ?_
  refine C_gS C w (by assumption) (by assumption) 3 (by decide) fl_S_22 rfl rfl d_S_fall_1 ?_
  refine Z_iconst (v := 2) C d_S_fall_4 (by decide) ?_
  refine Z_icmp_eq (tgt := 16) C d_S_fall_5 (by decide) (fun c5 => ?_) (fun c5 => ?_)
  · skip
    refine Z_aload_n C 0 d_S_fall_16 rfl rfl ?_
    refine Z_iload_n C 1 d_S_fall_17 rfl rfl ?_
    refine C_pS C w (by assumption) (by assumption) 6 (by decide) fl_S_31 rfl rfl rfl rfl rfl d_S_fall_18 ?_
    refine Z_aload_n C 0 d_S_fall_21 rfl rfl ?_
    refine Z_iconst (v := 1) C d_S_fall_22 (by decide) ?_
    refine C_pS C w (by assumption) (by assumption) 3 (by decide) fl_S_22 rfl rfl rfl rfl rfl d_S_fall_23 ?_
    exact Z_vret C hN hr d_S_fall_26 rfl (zeq (by apply eC_M; simp [up_eq, rw4_rw4, rw4_self, rw4_id, sFall, c5]))
  · skip
    refine Z_aload_n C 0 d_S_fall_8 rfl rfl ?_
    refine C_gS C w (by assumption) (by assumption) 3 (by decide) fl_S_22 rfl rfl d_S_fall_9 ?_
    refine Z_iconst (v := 3) C d_S_fall_12 (by decide) ?_
    refine Z_icmp_ne (tgt := 26) C d_S_fall_13 (by decide) (fun c13 => ?_) (fun c13 => ?_)
    · skip
      exact Z_vret C hN hr d_S_fall_26 rfl (zeq (by apply eC_M; simp [up_eq, rw4_rw4, rw4_self, rw4_id, sFall, c5, c13]))
    · skip
      refine Z_aload_n C 0 d_S_fall_16 rfl rfl ?_
      refine Z_iload_n C 1 d_S_fall_17 rfl rfl ?_
      refine C_pS C w (by assumption) (by assumption) 6 (by decide) fl_S_31 rfl rfl rfl rfl rfl d_S_fall_18 ?_
      refine Z_aload_n C 0 d_S_fall_21 rfl rfl ?_
      refine Z_iconst (v := 1) C d_S_fall_22 (by decide) ?_
      refine C_pS C w (by assumption) (by assumption) 3 (by decide) fl_S_22 rfl rfl rfl rfl rfl d_S_fall_23 ?_
      exact Z_vret C hN hr d_S_fall_26 rfl (zeq (by apply eC_M; simp [up_eq, rw4_rw4, rw4_self, rw4_id, sFall, c5, c13]))
set_option maxRecDepth 100000 in
set_option maxHeartbeats 4000000 in
theorem c_S_follow {l : Launch} {G : zG} {V : zV} (w : wC G V) (M : zM) (P : Nat → Nat) (D : Nat × Nat) (i j : Nat) (hi : i < 5) (hj : j < 5) : zF l y_S_follow b_S_follow 1 none 1 21 G [.ref (V.1 5 i j)] (eC V M P D) none (eC V (rw4 M 5 i j (sFollow (M 5 i j))) P D) := by
  refine zF.ofZ (by decide) w.2.2.2.2 (Nat.le_of_ble_eq_true rfl) (fun X hXl hN hr C => ?_)
  subst hXl
  show Z X G (zA G) 1 _ (eC V M P D) 0 [(0, .ref (V.1 5 i j))] []
  refine Z_aload_n C 0 d_S_follow_0 rfl rfl ?_
  refine C_gS C w (by assumption) (by assumption) 3 (by decide) fl_S_22 rfl rfl d_S_follow_1 ?_
  refine Z_if_ne (tgt := 8) C d_S_follow_4 (by decide) (fun c4 => ?_) (fun c4 => ?_)
  · skip
    refine Z_aload_n C 0 d_S_follow_8 rfl rfl ?_
    refine C_gS C w (by assumption) (by assumption) 4 (by decide) fl_S_25 rfl rfl d_S_follow_9 ?_
    refine Z_if_ne (tgt := 23) C d_S_follow_12 (by decide) (fun c12 => ?_) (fun c12 => ?_)
    · skip
      refine Z_aload_n C 0 d_S_follow_23 rfl rfl ?_
      refine C_gS C w (by assumption) (by assumption) 3 (by decide) fl_S_22 rfl rfl d_S_follow_24 ?_
      refine Z_iconst (v := 1) C d_S_follow_27 (by decide) ?_
      refine Z_icmp_ne (tgt := 62) C d_S_follow_28 (by decide) (fun c28 => ?_) (fun c28 => ?_)
      · skip
        refine Z_aload_n C 0 d_S_follow_62 rfl rfl ?_
        refine C_gS C w (by assumption) (by assumption) 3 (by decide) fl_S_22 rfl rfl d_S_follow_63 ?_
        refine Z_iconst (v := 2) C d_S_follow_66 (by decide) ?_
        refine Z_icmp_ne (tgt := 85) C d_S_follow_67 (by decide) (fun c67 => ?_) (fun c67 => ?_)
        · skip
          refine Z_aload_n C 0 d_S_follow_85 rfl rfl ?_
          refine C_gS C w (by assumption) (by assumption) 4 (by decide) fl_S_25 rfl rfl d_S_follow_86 ?_
          refine Z_iconst (v := 1) C d_S_follow_89 (by decide) ?_
          refine Z_icmp_ne (tgt := 98) C d_S_follow_90 (by decide) (fun c90 => ?_) (fun c90 => ?_)
          · skip
            exact Z_vret C hN hr d_S_follow_98 rfl (zeq (by apply eC_M; simp [up_eq, rw4_rw4, rw4_self, rw4_id, sFollow, c4, c12, c28, c67, c90]))
          · skip
            refine Z_aload_n C 0 d_S_follow_93 rfl rfl ?_
            refine Z_iconst (v := 3) C d_S_follow_94 (by decide) ?_
            refine C_cSn C w (by assumption) (by assumption) mi_S_fall ml_S_109 (c_S_fall w _ _ _ _ _ (by assumption) (by assumption) _) rfl rfl (by decide) rfl (Nat.le_of_ble_eq_true rfl) d_S_follow_95 ?_
            exact Z_vret C hN hr d_S_follow_98 rfl (zeq (by apply eC_M; simp [up_eq, rw4_rw4, rw4_self, rw4_id, sFollow, c4, c12, c28, c67, c90]))
        · skip
          refine Z_aload_n C 0 d_S_follow_70 rfl rfl ?_
          refine C_gS C w (by assumption) (by assumption) 4 (by decide) fl_S_25 rfl rfl d_S_follow_71 ?_
          refine Z_iconst (v := 1) C d_S_follow_74 (by decide) ?_
          refine Z_icmp_eq (tgt := 98) C d_S_follow_75 (by decide) (fun c75 => ?_) (fun c75 => ?_)
          · skip
            exact Z_vret C hN hr d_S_follow_98 rfl (zeq (by apply eC_M; simp [up_eq, rw4_rw4, rw4_self, rw4_id, sFollow, c4, c12, c28, c67, c75]))
          · skip
            refine Z_aload_n C 0 d_S_follow_78 rfl rfl ?_
            refine C_cSn C w (by assumption) (by assumption) mi_S_comeUp ml_S_113 (c_S_comeUp w _ _ _ _ _ (by assumption) (by assumption)) rfl rfl (by decide) rfl (Nat.le_of_ble_eq_true rfl) d_S_follow_79 ?_
            refine Z_goto (tgt := 98) C d_S_follow_82 (by decide) ?_
            exact Z_vret C hN hr d_S_follow_98 rfl (zeq (by apply eC_M; simp [up_eq, rw4_rw4, rw4_self, rw4_id, sFollow, c4, c12, c28, c67, c75]))
      · skip
        refine Z_aload_n C 0 d_S_follow_31 rfl rfl ?_
        refine C_gS C w (by assumption) (by assumption) 4 (by decide) fl_S_25 rfl rfl d_S_follow_32 ?_
        refine Z_iconst (v := 1) C d_S_follow_35 (by decide) ?_
        refine Z_icmp_ne (tgt := 47) C d_S_follow_36 (by decide) (fun c36 => ?_) (fun c36 => ?_)
        · skip
          refine Z_aload_n C 0 d_S_follow_47 rfl rfl ?_
          refine C_gS C w (by assumption) (by assumption) 4 (by decide) fl_S_25 rfl rfl d_S_follow_48 ?_
          refine Z_iconst (v := 2) C d_S_follow_51 (by decide) ?_
          refine Z_icmp_ne (tgt := 98) C d_S_follow_52 (by decide) (fun c52 => ?_) (fun c52 => ?_)
          · skip
            exact Z_vret C hN hr d_S_follow_98 rfl (zeq (by apply eC_M; simp [up_eq, rw4_rw4, rw4_self, rw4_id, sFollow, c4, c12, c28, c36, c52]))
          · skip
            refine Z_aload_n C 0 d_S_follow_55 rfl rfl ?_
            refine C_cSn C w (by assumption) (by assumption) mi_S_comeUp ml_S_113 (c_S_comeUp w _ _ _ _ _ (by assumption) (by assumption)) rfl rfl (by decide) rfl (Nat.le_of_ble_eq_true rfl) d_S_follow_56 ?_
            refine Z_goto (tgt := 98) C d_S_follow_59 (by decide) ?_
            exact Z_vret C hN hr d_S_follow_98 rfl (zeq (by apply eC_M; simp [up_eq, rw4_rw4, rw4_self, rw4_id, sFollow, c4, c12, c28, c36, c52]))
        · skip
          refine Z_aload_n C 0 d_S_follow_39 rfl rfl ?_
          refine Z_iconst (v := 2) C d_S_follow_40 (by decide) ?_
          refine C_pS C w (by assumption) (by assumption) 3 (by decide) fl_S_22 rfl rfl rfl rfl rfl d_S_follow_41 ?_
          refine Z_goto (tgt := 98) C d_S_follow_44 (by decide) ?_
          exact Z_vret C hN hr d_S_follow_98 rfl (zeq (by apply eC_M; simp [up_eq, rw4_rw4, rw4_self, rw4_id, sFollow, c4, c12, c28, c36]))
    · skip
      refine Z_aload_n C 0 d_S_follow_15 rfl rfl ?_
      refine Z_iconst (v := 3) C d_S_follow_16 (by decide) ?_
      refine C_cSn C w (by assumption) (by assumption) mi_S_fall ml_S_109 (c_S_fall w _ _ _ _ _ (by assumption) (by assumption) _) rfl rfl (by decide) rfl (Nat.le_of_ble_eq_true rfl) d_S_follow_17 ?_
      refine Z_goto (tgt := 98) C d_S_follow_20 (by decide) ?_
      exact Z_vret C hN hr d_S_follow_98 rfl (zeq (by apply eC_M; simp [up_eq, rw4_rw4, rw4_self, rw4_id, sFollow, c4, c12]))
  · skip
    exact Z_vret C hN hr d_S_follow_7 rfl (zeq (by apply eC_M; simp [up_eq, rw4_rw4, rw4_self, rw4_id, sFollow, c4]))
set_option maxRecDepth 100000 in
set_option maxHeartbeats 4000000 in
theorem c_S_runDetect {l : Launch} {G : zG} {V : zV} (w : wC G V) (M : zM) (P : Nat → Nat) (D : Nat × Nat) (i j : Nat) (hi : i < 5) (hj : j < 5) : zF l y_S_runDetect b_S_runDetect 1 none 1 21 G [.ref (V.1 5 i j)] (eC V M P D) none (eC V (rw4 M 5 i j (sDetect (M 5 i j))) P D) := by
  refine zF.ofZ (by decide) w.2.2.2.2 (Nat.le_of_ble_eq_true rfl) (fun X hXl hN hr C => ?_)
  subst hXl
  show Z X G (zA G) 1 _ (eC V M P D) 0 [(0, .ref (V.1 5 i j))] []
  refine Z_aload_n C 0 d_S_runDetect_0 rfl rfl ?_
  refine C_gS C w (by assumption) (by assumption) 17 (by decide) fl_S_58 rfl rfl d_S_runDetect_1 ?_
  refine Z_if_le (tgt := 34) C d_S_runDetect_4 (by decide) (fun c4 => ?_) (fun c4 => ?_)
  · try simp [up_eq, rw4_rw4, rw4_self, rw4_id, upd] at c4
    exact Z_vret C hN hr d_S_runDetect_34 rfl (zeq (by apply eC_M; simp [up_eq, rw4_rw4, rw4_self, rw4_id, sDetect, ← Int32.not_le, c4]))
  · try simp [up_eq, rw4_rw4, rw4_self, rw4_id, upd] at c4
    refine Z_aload_n C 0 d_S_runDetect_7 rfl rfl ?_
    refine Z_dup C d_S_runDetect_8 rfl ?_
    refine C_gS C w (by assumption) (by assumption) 17 (by decide) fl_S_58 rfl rfl d_S_runDetect_9 ?_
    refine Z_iconst (v := 1) C d_S_runDetect_12 (by decide) ?_
    refine Z_isub C d_S_runDetect_13 ?_
    refine C_pS C w (by assumption) (by assumption) 17 (by decide) fl_S_58 rfl rfl rfl rfl rfl d_S_runDetect_14 ?_
    refine Z_aload_n C 0 d_S_runDetect_17 rfl rfl ?_
    refine C_gS C w (by assumption) (by assumption) 17 (by decide) fl_S_58 rfl rfl d_S_runDetect_18 ?_
    refine Z_if_ne (tgt := 34) C d_S_runDetect_21 (by decide) (fun c21 => ?_) (fun c21 => ?_)
    · try simp [up_eq, rw4_rw4, rw4_self, rw4_id, upd] at c21
      exact Z_vret C hN hr d_S_runDetect_34 rfl (zeq (by apply eC_M; simp [up_eq, rw4_rw4, rw4_self, rw4_id, sDetect, ← Int32.not_le, c4, c21]))
    · try simp [up_eq, rw4_rw4, rw4_self, rw4_id, upd] at c21
      refine Z_aload_n C 0 d_S_runDetect_24 rfl rfl ?_
      refine Z_iconst (v := 0) C d_S_runDetect_25 (by decide) ?_
      refine C_pS C w (by assumption) (by assumption) 5 (by decide) fl_S_28 rfl rfl rfl rfl rfl d_S_runDetect_26 ?_
      refine Z_aload_n C 0 d_S_runDetect_29 rfl rfl ?_
      refine Z_iconst (v := 1) C d_S_runDetect_30 (by decide) ?_
      refine C_cSn C w (by assumption) (by assumption) mi_S_fall ml_S_109 (c_S_fall w _ _ _ _ _ (by assumption) (by assumption) _) rfl rfl (by decide) rfl (Nat.le_of_ble_eq_true rfl) d_S_runDetect_31 ?_
      exact Z_vret C hN hr d_S_runDetect_34 rfl (zeq (by apply eC_M; simp [up_eq, rw4_rw4, rw4_self, rw4_id, sDetect, ← Int32.not_le, c4, c21]))
set_option maxRecDepth 100000 in
set_option maxHeartbeats 4000000 in
theorem c_S_sendFires {l : Launch} {G : zG} {V : zV} (w : wC G V) (M : zM) (P : Nat → Nat) (D : Nat × Nat) (i j : Nat) (hi : i < 5) (hj : j < 5) : zF l y_S_sendFires b_S_sendFires 1 (some .boolean) 0 0 G [.ref (V.1 5 i j)] (eC V M P D) (some (.int (sFired (M 5 i j)))) (eC V (rw4 M 5 i j (sFires (M 5 i j))) P D) := by
  refine zF.ofZ (by decide) w.2.2.2.2 (Nat.le_of_ble_eq_true rfl) (fun X hXl hN hr C => ?_)
  subst hXl
  show Z X G (zA G) 1 _ (eC V M P D) 0 [(0, .ref (V.1 5 i j))] []
  refine Z_aload_n C 0 d_S_sendFires_0 rfl rfl ?_
  refine C_gS C w (by assumption) (by assumption) 16 (by decide) fl_S_68 rfl rfl d_S_sendFires_1 ?_
  refine Z_if_le (tgt := 30) C d_S_sendFires_4 (by decide) (fun c4 => ?_) (fun c4 => ?_)
  · try simp [up_eq, rw4_rw4, rw4_self, rw4_id, upd] at c4
    refine Z_iconst (v := 0) C d_S_sendFires_30 (by decide) ?_
    exact Z_zret C hN hr (by decide) d_S_sendFires_31 (by simp [sFired, ← Int32.not_le, c4]) (zeq (by apply eC_M; simp [up_eq, rw4_rw4, rw4_self, rw4_id, sFires, ← Int32.not_le, c4]))
  · try simp [up_eq, rw4_rw4, rw4_self, rw4_id, upd] at c4
    refine Z_aload_n C 0 d_S_sendFires_7 rfl rfl ?_
    refine Z_dup C d_S_sendFires_8 rfl ?_
    refine C_gS C w (by assumption) (by assumption) 16 (by decide) fl_S_68 rfl rfl d_S_sendFires_9 ?_
    refine Z_iconst (v := 1) C d_S_sendFires_12 (by decide) ?_
    refine Z_isub C d_S_sendFires_13 ?_
    refine C_pS C w (by assumption) (by assumption) 16 (by decide) fl_S_68 rfl rfl rfl rfl rfl d_S_sendFires_14 ?_
    refine Z_aload_n C 0 d_S_sendFires_17 rfl rfl ?_
    refine C_gS C w (by assumption) (by assumption) 16 (by decide) fl_S_68 rfl rfl d_S_sendFires_18 ?_
    refine Z_if_ne (tgt := 28) C d_S_sendFires_21 (by decide) (fun c21 => ?_) (fun c21 => ?_)
    · try simp [up_eq, rw4_rw4, rw4_self, rw4_id, upd] at c21
      refine Z_iconst (v := 0) C d_S_sendFires_28 (by decide) ?_
      exact Z_zret C hN hr (by decide) d_S_sendFires_29 (by simp [sFired, ← Int32.not_le, c4, c21]) (zeq (by apply eC_M; simp [up_eq, rw4_rw4, rw4_self, rw4_id, sFires, ← Int32.not_le, c4, c21]))
    · try simp [up_eq, rw4_rw4, rw4_self, rw4_id, upd] at c21
      refine Z_iconst (v := 1) C d_S_sendFires_24 (by decide) ?_
      refine Z_goto (tgt := 29) C d_S_sendFires_25 (by decide) ?_
      exact Z_zret C hN hr (by decide) d_S_sendFires_29 (by simp [sFired, ← Int32.not_le, c4, c21]) (zeq (by apply eC_M; simp [up_eq, rw4_rw4, rw4_self, rw4_id, sFires, ← Int32.not_le, c4, c21]))
end
