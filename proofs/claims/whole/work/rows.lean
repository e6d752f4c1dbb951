section
-- ===== PART A: goes FIRST, ahead of the names: the tables' words, and 'selects' of the private methods out of them =====
/-- a private method of a class that the tables say can be made, by its rows of tables_1 -/
def lw_okq (q : MethodName × Nat) : Prop := (q.1.cls ≠ "java/lang/invoke/MethodHandle" ∧ q.1.cls ≠ "java/lang/invoke/VarHandle") ∧ Cond.instantiable q.1.cls q.2 ∈ tables_1 ∧ Cond.privateMethod q.1 ∈ tables_1 ∧ Cond.instanceMethod q.1 ∈ tables_1
theorem lw_p0 : lw_okq (⟨"StandInLan$Router", "weighed", "()I"⟩, 11) := ⟨⟨by decide +kernel, by decide +kernel⟩, List.mem_of_getElem? (i := 104) (by decide +kernel), List.mem_of_getElem? (i := 258) (by decide +kernel), List.mem_of_getElem? (i := 259) (by decide +kernel)⟩
theorem lw_p1 : lw_okq (⟨"java/lang/Throwable", "fillInStackTrace", "(I)Ljava/lang/Throwable;"⟩, 6) := ⟨⟨by decide +kernel, by decide +kernel⟩, List.mem_of_getElem? (i := 341) (by decide +kernel), List.mem_of_getElem? (i := 339) (by decide +kernel), List.mem_of_getElem? (i := 340) (by decide +kernel)⟩
theorem lw_p2 : lw_okq (⟨"StandInLan$Router", "becomeActive", "()V"⟩, 11) := ⟨⟨by decide +kernel, by decide +kernel⟩, List.mem_of_getElem? (i := 104) (by decide +kernel), List.mem_of_getElem? (i := 416) (by decide +kernel), List.mem_of_getElem? (i := 417) (by decide +kernel)⟩
theorem lw_p3 : lw_okq (⟨"StandInLan$Router", "advertise", "(I)V"⟩, 11) := ⟨⟨by decide +kernel, by decide +kernel⟩, List.mem_of_getElem? (i := 104) (by decide +kernel), List.mem_of_getElem? (i := 420) (by decide +kernel), List.mem_of_getElem? (i := 421) (by decide +kernel)⟩
theorem lw_p4 : lw_okq (⟨"StandInLan$Router", "sendDraft", "()V"⟩, 11) := ⟨⟨by decide +kernel, by decide +kernel⟩, List.mem_of_getElem? (i := 104) (by decide +kernel), List.mem_of_getElem? (i := 449) (by decide +kernel), List.mem_of_getElem? (i := 450) (by decide +kernel)⟩
theorem lw_p5 : lw_okq (⟨"StandInLan$Router", "becomeBackup", "()V"⟩, 11) := ⟨⟨by decide +kernel, by decide +kernel⟩, List.mem_of_getElem? (i := 104) (by decide +kernel), List.mem_of_getElem? (i := 461) (by decide +kernel), List.mem_of_getElem? (i := 462) (by decide +kernel)⟩
theorem lw_p6 : lw_okq (⟨"StandInLan$Router", "skew", "()I"⟩, 11) := ⟨⟨by decide +kernel, by decide +kernel⟩, List.mem_of_getElem? (i := 104) (by decide +kernel), List.mem_of_getElem? (i := 465) (by decide +kernel), List.mem_of_getElem? (i := 466) (by decide +kernel)⟩
theorem lw_p7 : lw_okq (⟨"StandInLan$Session", "useRates", "()V"⟩, 19) := ⟨⟨by decide +kernel, by decide +kernel⟩, List.mem_of_getElem? (i := 113) (by decide +kernel), List.mem_of_getElem? (i := 501) (by decide +kernel), List.mem_of_getElem? (i := 502) (by decide +kernel)⟩
theorem lw_p8 : lw_okq (⟨"StandInLan", "handOut", "(LStandInLan$Frame;)V"⟩, 3) := ⟨⟨by decide +kernel, by decide +kernel⟩, List.mem_of_getElem? (i := 15) (by decide +kernel), List.mem_of_getElem? (i := 564) (by decide +kernel), List.mem_of_getElem? (i := 565) (by decide +kernel)⟩
theorem lw_p9 : lw_okq (⟨"StandInLan$Router", "isForUs", "(LStandInLan$Frame;)Z"⟩, 11) := ⟨⟨by decide +kernel, by decide +kernel⟩, List.mem_of_getElem? (i := 104) (by decide +kernel), List.mem_of_getElem? (i := 576) (by decide +kernel), List.mem_of_getElem? (i := 577) (by decide +kernel)⟩
theorem lw_p10 : lw_okq (⟨"StandInLan$Router", "hearAsActive", "(LStandInLan$Frame;)V"⟩, 11) := ⟨⟨by decide +kernel, by decide +kernel⟩, List.mem_of_getElem? (i := 104) (by decide +kernel), List.mem_of_getElem? (i := 588) (by decide +kernel), List.mem_of_getElem? (i := 589) (by decide +kernel)⟩
theorem lw_p11 : lw_okq (⟨"StandInLan$Router", "hearAsBackup", "(LStandInLan$Frame;)V"⟩, 11) := ⟨⟨by decide +kernel, by decide +kernel⟩, List.mem_of_getElem? (i := 104) (by decide +kernel), List.mem_of_getElem? (i := 604) (by decide +kernel), List.mem_of_getElem? (i := 605) (by decide +kernel)⟩
theorem lw_p12 : lw_okq (⟨"StandInLan$Router", "hearPacket", "(LStandInLan$Frame;)Z"⟩, 11) := ⟨⟨by decide +kernel, by decide +kernel⟩, List.mem_of_getElem? (i := 104) (by decide +kernel), List.mem_of_getElem? (i := 608) (by decide +kernel), List.mem_of_getElem? (i := 609) (by decide +kernel)⟩
theorem lw_p13 : lw_okq (⟨"StandInLan$Router", "sessionMeant", "(LStandInLan$Frame;)LStandInLan$Session;"⟩, 11) := ⟨⟨by decide +kernel, by decide +kernel⟩, List.mem_of_getElem? (i := 104) (by decide +kernel), List.mem_of_getElem? (i := 615) (by decide +kernel), List.mem_of_getElem? (i := 616) (by decide +kernel)⟩
theorem lw_p14 : lw_okq (⟨"StandInLan$Session", "follow", "()V"⟩, 19) := ⟨⟨by decide +kernel, by decide +kernel⟩, List.mem_of_getElem? (i := 113) (by decide +kernel), List.mem_of_getElem? (i := 630) (by decide +kernel), List.mem_of_getElem? (i := 631) (by decide +kernel)⟩
theorem lw_p15 : lw_okq (⟨"StandInLan$Session", "fall", "(I)V"⟩, 19) := ⟨⟨by decide +kernel, by decide +kernel⟩, List.mem_of_getElem? (i := 113) (by decide +kernel), List.mem_of_getElem? (i := 634) (by decide +kernel), List.mem_of_getElem? (i := 635) (by decide +kernel)⟩
def lw_privs_1 : List (MethodName × Nat) := [(⟨"StandInLan$Router", "weighed", "()I"⟩, 11), (⟨"java/lang/Throwable", "fillInStackTrace", "(I)Ljava/lang/Throwable;"⟩, 6), (⟨"StandInLan$Router", "becomeActive", "()V"⟩, 11), (⟨"StandInLan$Router", "advertise", "(I)V"⟩, 11), (⟨"StandInLan$Router", "sendDraft", "()V"⟩, 11), (⟨"StandInLan$Router", "becomeBackup", "()V"⟩, 11), (⟨"StandInLan$Router", "skew", "()I"⟩, 11), (⟨"StandInLan$Session", "useRates", "()V"⟩, 19), (⟨"StandInLan", "handOut", "(LStandInLan$Frame;)V"⟩, 3), (⟨"StandInLan$Router", "isForUs", "(LStandInLan$Frame;)Z"⟩, 11), (⟨"StandInLan$Router", "hearAsActive", "(LStandInLan$Frame;)V"⟩, 11), (⟨"StandInLan$Router", "hearAsBackup", "(LStandInLan$Frame;)V"⟩, 11), (⟨"StandInLan$Router", "hearPacket", "(LStandInLan$Frame;)Z"⟩, 11), (⟨"StandInLan$Router", "sessionMeant", "(LStandInLan$Frame;)LStandInLan$Session;"⟩, 11), (⟨"StandInLan$Session", "follow", "()V"⟩, 19), (⟨"StandInLan$Session", "fall", "(I)V"⟩, 19)]
theorem lw_r1 : ∀ q ∈ lw_privs_1, lw_okq q := List.forall_mem_cons.mpr ⟨lw_p0, List.forall_mem_cons.mpr ⟨lw_p1, List.forall_mem_cons.mpr ⟨lw_p2, List.forall_mem_cons.mpr ⟨lw_p3, List.forall_mem_cons.mpr ⟨lw_p4, List.forall_mem_cons.mpr ⟨lw_p5, List.forall_mem_cons.mpr ⟨lw_p6, List.forall_mem_cons.mpr ⟨lw_p7, List.forall_mem_cons.mpr ⟨lw_p8, List.forall_mem_cons.mpr ⟨lw_p9, List.forall_mem_cons.mpr ⟨lw_p10, List.forall_mem_cons.mpr ⟨lw_p11, List.forall_mem_cons.mpr ⟨lw_p12, List.forall_mem_cons.mpr ⟨lw_p13, List.forall_mem_cons.mpr ⟨lw_p14, List.forall_mem_cons.mpr ⟨lw_p15, fun _ h => absurd h List.not_mem_nil⟩⟩⟩⟩⟩⟩⟩⟩⟩⟩⟩⟩⟩⟩⟩⟩
theorem lw_p16 : lw_okq (⟨"StandInLan$Session", "comeUp", "()V"⟩, 19) := ⟨⟨by decide +kernel, by decide +kernel⟩, List.mem_of_getElem? (i := 113) (by decide +kernel), List.mem_of_getElem? (i := 638) (by decide +kernel), List.mem_of_getElem? (i := 639) (by decide +kernel)⟩
theorem lw_p17 : lw_okq (⟨"StandInLan$Router", "sendPacket", "(LStandInLan$Session;I)V"⟩, 11) := ⟨⟨by decide +kernel, by decide +kernel⟩, List.mem_of_getElem? (i := 104) (by decide +kernel), List.mem_of_getElem? (i := 642) (by decide +kernel), List.mem_of_getElem? (i := 643) (by decide +kernel)⟩
theorem lw_p18 : lw_okq (⟨"StandInLan$Router", "timerFires", "()V"⟩, 11) := ⟨⟨by decide +kernel, by decide +kernel⟩, List.mem_of_getElem? (i := 104) (by decide +kernel), List.mem_of_getElem? (i := 652) (by decide +kernel), List.mem_of_getElem? (i := 653) (by decide +kernel)⟩
theorem lw_p19 : lw_okq (⟨"StandInLan$Router", "runSession", "(LStandInLan$Session;)V"⟩, 11) := ⟨⟨by decide +kernel, by decide +kernel⟩, List.mem_of_getElem? (i := 104) (by decide +kernel), List.mem_of_getElem? (i := 656) (by decide +kernel), List.mem_of_getElem? (i := 657) (by decide +kernel)⟩
theorem lw_p20 : lw_okq (⟨"StandInLanModel", "is", "(II)I"⟩, 43) := ⟨⟨by decide +kernel, by decide +kernel⟩, List.mem_of_getElem? (i := 677) (by decide +kernel), List.mem_of_getElem? (i := 834) (by decide +kernel), List.mem_of_getElem? (i := 835) (by decide +kernel)⟩
theorem lw_p21 : lw_okq (⟨"StandInLanModel", "weighed", "(I)I"⟩, 43) := ⟨⟨by decide +kernel, by decide +kernel⟩, List.mem_of_getElem? (i := 677) (by decide +kernel), List.mem_of_getElem? (i := 838) (by decide +kernel), List.mem_of_getElem? (i := 839) (by decide +kernel)⟩
theorem lw_p22 : lw_okq (⟨"StandInLanModel", "beActive", "(I)V"⟩, 43) := ⟨⟨by decide +kernel, by decide +kernel⟩, List.mem_of_getElem? (i := 677) (by decide +kernel), List.mem_of_getElem? (i := 845) (by decide +kernel), List.mem_of_getElem? (i := 846) (by decide +kernel)⟩
theorem lw_p23 : lw_okq (⟨"StandInLanModel", "advertise", "(II)V"⟩, 43) := ⟨⟨by decide +kernel, by decide +kernel⟩, List.mem_of_getElem? (i := 677) (by decide +kernel), List.mem_of_getElem? (i := 849) (by decide +kernel), List.mem_of_getElem? (i := 850) (by decide +kernel)⟩
theorem lw_p24 : lw_okq (⟨"StandInLanModel", "put", "(I)V"⟩, 43) := ⟨⟨by decide +kernel, by decide +kernel⟩, List.mem_of_getElem? (i := 677) (by decide +kernel), List.mem_of_getElem? (i := 853) (by decide +kernel), List.mem_of_getElem? (i := 854) (by decide +kernel)⟩
theorem lw_p25 : lw_okq (⟨"StandInLanModel", "putMany", "(II)V"⟩, 43) := ⟨⟨by decide +kernel, by decide +kernel⟩, List.mem_of_getElem? (i := 677) (by decide +kernel), List.mem_of_getElem? (i := 857) (by decide +kernel), List.mem_of_getElem? (i := 858) (by decide +kernel)⟩
theorem lw_p26 : lw_okq (⟨"StandInLanModel", "send", "(IIII)V"⟩, 43) := ⟨⟨by decide +kernel, by decide +kernel⟩, List.mem_of_getElem? (i := 677) (by decide +kernel), List.mem_of_getElem? (i := 869) (by decide +kernel), List.mem_of_getElem? (i := 870) (by decide +kernel)⟩
theorem lw_p27 : lw_okq (⟨"StandInLanModel", "beBackup", "(I)V"⟩, 43) := ⟨⟨by decide +kernel, by decide +kernel⟩, List.mem_of_getElem? (i := 677) (by decide +kernel), List.mem_of_getElem? (i := 873) (by decide +kernel), List.mem_of_getElem? (i := 874) (by decide +kernel)⟩
theorem lw_p28 : lw_okq (⟨"StandInLanModel", "skew", "(I)I"⟩, 43) := ⟨⟨by decide +kernel, by decide +kernel⟩, List.mem_of_getElem? (i := 677) (by decide +kernel), List.mem_of_getElem? (i := 877) (by decide +kernel), List.mem_of_getElem? (i := 878) (by decide +kernel)⟩
theorem lw_p29 : lw_okq (⟨"StandInLanModel", "setSend", "(I)V"⟩, 43) := ⟨⟨by decide +kernel, by decide +kernel⟩, List.mem_of_getElem? (i := 677) (by decide +kernel), List.mem_of_getElem? (i := 896) (by decide +kernel), List.mem_of_getElem? (i := 897) (by decide +kernel)⟩
theorem lw_p30 : lw_okq (⟨"StandInLanModel", "sendTime", "(I)I"⟩, 43) := ⟨⟨by decide +kernel, by decide +kernel⟩, List.mem_of_getElem? (i := 677) (by decide +kernel), List.mem_of_getElem? (i := 900) (by decide +kernel), List.mem_of_getElem? (i := 901) (by decide +kernel)⟩
theorem lw_p31 : lw_okq (⟨"StandInLanModel", "hurry", "(I)V"⟩, 43) := ⟨⟨by decide +kernel, by decide +kernel⟩, List.mem_of_getElem? (i := 677) (by decide +kernel), List.mem_of_getElem? (i := 908) (by decide +kernel), List.mem_of_getElem? (i := 909) (by decide +kernel)⟩
def lw_privs_2 : List (MethodName × Nat) := [(⟨"StandInLan$Session", "comeUp", "()V"⟩, 19), (⟨"StandInLan$Router", "sendPacket", "(LStandInLan$Session;I)V"⟩, 11), (⟨"StandInLan$Router", "timerFires", "()V"⟩, 11), (⟨"StandInLan$Router", "runSession", "(LStandInLan$Session;)V"⟩, 11), (⟨"StandInLanModel", "is", "(II)I"⟩, 43), (⟨"StandInLanModel", "weighed", "(I)I"⟩, 43), (⟨"StandInLanModel", "beActive", "(I)V"⟩, 43), (⟨"StandInLanModel", "advertise", "(II)V"⟩, 43), (⟨"StandInLanModel", "put", "(I)V"⟩, 43), (⟨"StandInLanModel", "putMany", "(II)V"⟩, 43), (⟨"StandInLanModel", "send", "(IIII)V"⟩, 43), (⟨"StandInLanModel", "beBackup", "(I)V"⟩, 43), (⟨"StandInLanModel", "skew", "(I)I"⟩, 43), (⟨"StandInLanModel", "setSend", "(I)V"⟩, 43), (⟨"StandInLanModel", "sendTime", "(I)I"⟩, 43), (⟨"StandInLanModel", "hurry", "(I)V"⟩, 43)]
theorem lw_r2 : ∀ q ∈ lw_privs_2, lw_okq q := List.forall_mem_cons.mpr ⟨lw_p16, List.forall_mem_cons.mpr ⟨lw_p17, List.forall_mem_cons.mpr ⟨lw_p18, List.forall_mem_cons.mpr ⟨lw_p19, List.forall_mem_cons.mpr ⟨lw_p20, List.forall_mem_cons.mpr ⟨lw_p21, List.forall_mem_cons.mpr ⟨lw_p22, List.forall_mem_cons.mpr ⟨lw_p23, List.forall_mem_cons.mpr ⟨lw_p24, List.forall_mem_cons.mpr ⟨lw_p25, List.forall_mem_cons.mpr ⟨lw_p26, List.forall_mem_cons.mpr ⟨lw_p27, List.forall_mem_cons.mpr ⟨lw_p28, List.forall_mem_cons.mpr ⟨lw_p29, List.forall_mem_cons.mpr ⟨lw_p30, List.forall_mem_cons.mpr ⟨lw_p31, fun _ h => absurd h List.not_mem_nil⟩⟩⟩⟩⟩⟩⟩⟩⟩⟩⟩⟩⟩⟩⟩⟩
theorem lw_p32 : lw_okq (⟨"StandInLanModel", "arriveAll", "()V"⟩, 43) := ⟨⟨by decide +kernel, by decide +kernel⟩, List.mem_of_getElem? (i := 677) (by decide +kernel), List.mem_of_getElem? (i := 916) (by decide +kernel), List.mem_of_getElem? (i := 917) (by decide +kernel)⟩
theorem lw_p33 : lw_okq (⟨"StandInLanModel", "forget", "(I)V"⟩, 43) := ⟨⟨by decide +kernel, by decide +kernel⟩, List.mem_of_getElem? (i := 677) (by decide +kernel), List.mem_of_getElem? (i := 920) (by decide +kernel), List.mem_of_getElem? (i := 921) (by decide +kernel)⟩
theorem lw_p34 : lw_okq (⟨"StandInLanModel", "reach", "(IIIII)V"⟩, 43) := ⟨⟨by decide +kernel, by decide +kernel⟩, List.mem_of_getElem? (i := 677) (by decide +kernel), List.mem_of_getElem? (i := 924) (by decide +kernel), List.mem_of_getElem? (i := 925) (by decide +kernel)⟩
theorem lw_p35 : lw_okq (⟨"StandInLanModel", "advertised", "(III)Z"⟩, 43) := ⟨⟨by decide +kernel, by decide +kernel⟩, List.mem_of_getElem? (i := 677) (by decide +kernel), List.mem_of_getElem? (i := 928) (by decide +kernel), List.mem_of_getElem? (i := 929) (by decide +kernel)⟩
theorem lw_p36 : lw_okq (⟨"StandInLanModel", "told", "(II)J"⟩, 43) := ⟨⟨by decide +kernel, by decide +kernel⟩, List.mem_of_getElem? (i := 677) (by decide +kernel), List.mem_of_getElem? (i := 932) (by decide +kernel), List.mem_of_getElem? (i := 933) (by decide +kernel)⟩
theorem lw_p37 : lw_okq (⟨"StandInLanModel", "packeted", "(III)Z"⟩, 43) := ⟨⟨by decide +kernel, by decide +kernel⟩, List.mem_of_getElem? (i := 677) (by decide +kernel), List.mem_of_getElem? (i := 937) (by decide +kernel), List.mem_of_getElem? (i := 938) (by decide +kernel)⟩
theorem lw_p38 : lw_okq (⟨"StandInLanModel", "meant", "(II)I"⟩, 43) := ⟨⟨by decide +kernel, by decide +kernel⟩, List.mem_of_getElem? (i := 677) (by decide +kernel), List.mem_of_getElem? (i := 941) (by decide +kernel), List.mem_of_getElem? (i := 942) (by decide +kernel)⟩
theorem lw_p39 : lw_okq (⟨"StandInLanModel", "turn", "(II)V"⟩, 43) := ⟨⟨by decide +kernel, by decide +kernel⟩, List.mem_of_getElem? (i := 677) (by decide +kernel), List.mem_of_getElem? (i := 952) (by decide +kernel), List.mem_of_getElem? (i := 953) (by decide +kernel)⟩
theorem lw_p40 : lw_okq (⟨"StandInLanModel", "goDown", "(II)V"⟩, 43) := ⟨⟨by decide +kernel, by decide +kernel⟩, List.mem_of_getElem? (i := 677) (by decide +kernel), List.mem_of_getElem? (i := 956) (by decide +kernel), List.mem_of_getElem? (i := 957) (by decide +kernel)⟩
theorem lw_p41 : lw_okq (⟨"StandInLanModel", "goUp", "(I)V"⟩, 43) := ⟨⟨by decide +kernel, by decide +kernel⟩, List.mem_of_getElem? (i := 677) (by decide +kernel), List.mem_of_getElem? (i := 960) (by decide +kernel), List.mem_of_getElem? (i := 961) (by decide +kernel)⟩
theorem lw_p42 : lw_okq (⟨"StandInLanModel", "sendPacket", "(III)V"⟩, 43) := ⟨⟨by decide +kernel, by decide +kernel⟩, List.mem_of_getElem? (i := 677) (by decide +kernel), List.mem_of_getElem? (i := 964) (by decide +kernel), List.mem_of_getElem? (i := 965) (by decide +kernel)⟩
theorem lw_p43 : lw_okq (⟨"StandInLanModel", "work", "(I)V"⟩, 43) := ⟨⟨by decide +kernel, by decide +kernel⟩, List.mem_of_getElem? (i := 677) (by decide +kernel), List.mem_of_getElem? (i := 968) (by decide +kernel), List.mem_of_getElem? (i := 969) (by decide +kernel)⟩
theorem lw_p44 : lw_okq (⟨"StandInLanModel", "timerFires", "(I)V"⟩, 43) := ⟨⟨by decide +kernel, by decide +kernel⟩, List.mem_of_getElem? (i := 677) (by decide +kernel), List.mem_of_getElem? (i := 972) (by decide +kernel), List.mem_of_getElem? (i := 973) (by decide +kernel)⟩
theorem lw_p45 : lw_okq (⟨"StandInLanModel", "detectFires", "(I)V"⟩, 43) := ⟨⟨by decide +kernel, by decide +kernel⟩, List.mem_of_getElem? (i := 677) (by decide +kernel), List.mem_of_getElem? (i := 976) (by decide +kernel), List.mem_of_getElem? (i := 977) (by decide +kernel)⟩
theorem lw_p46 : lw_okq (⟨"StandInLanModel", "raise", "(I)Z"⟩, 43) := ⟨⟨by decide +kernel, by decide +kernel⟩, List.mem_of_getElem? (i := 677) (by decide +kernel), List.mem_of_getElem? (i := 989) (by decide +kernel), List.mem_of_getElem? (i := 990) (by decide +kernel)⟩
def lw_privs_3 : List (MethodName × Nat) := [(⟨"StandInLanModel", "arriveAll", "()V"⟩, 43), (⟨"StandInLanModel", "forget", "(I)V"⟩, 43), (⟨"StandInLanModel", "reach", "(IIIII)V"⟩, 43), (⟨"StandInLanModel", "advertised", "(III)Z"⟩, 43), (⟨"StandInLanModel", "told", "(II)J"⟩, 43), (⟨"StandInLanModel", "packeted", "(III)Z"⟩, 43), (⟨"StandInLanModel", "meant", "(II)I"⟩, 43), (⟨"StandInLanModel", "turn", "(II)V"⟩, 43), (⟨"StandInLanModel", "goDown", "(II)V"⟩, 43), (⟨"StandInLanModel", "goUp", "(I)V"⟩, 43), (⟨"StandInLanModel", "sendPacket", "(III)V"⟩, 43), (⟨"StandInLanModel", "work", "(I)V"⟩, 43), (⟨"StandInLanModel", "timerFires", "(I)V"⟩, 43), (⟨"StandInLanModel", "detectFires", "(I)V"⟩, 43), (⟨"StandInLanModel", "raise", "(I)Z"⟩, 43)]
theorem lw_r3 : ∀ q ∈ lw_privs_3, lw_okq q := List.forall_mem_cons.mpr ⟨lw_p32, List.forall_mem_cons.mpr ⟨lw_p33, List.forall_mem_cons.mpr ⟨lw_p34, List.forall_mem_cons.mpr ⟨lw_p35, List.forall_mem_cons.mpr ⟨lw_p36, List.forall_mem_cons.mpr ⟨lw_p37, List.forall_mem_cons.mpr ⟨lw_p38, List.forall_mem_cons.mpr ⟨lw_p39, List.forall_mem_cons.mpr ⟨lw_p40, List.forall_mem_cons.mpr ⟨lw_p41, List.forall_mem_cons.mpr ⟨lw_p42, List.forall_mem_cons.mpr ⟨lw_p43, List.forall_mem_cons.mpr ⟨lw_p44, List.forall_mem_cons.mpr ⟨lw_p45, List.forall_mem_cons.mpr ⟨lw_p46, fun _ h => absurd h List.not_mem_nil⟩⟩⟩⟩⟩⟩⟩⟩⟩⟩⟩⟩⟩⟩⟩
def lw_privs : List (MethodName × Nat) := lw_privs_1 ++ (lw_privs_2 ++ (lw_privs_3))
def lw_tbl : List Cond := k2_sels lw_privs ++ tables_1
theorem lw_privs_ok : ∀ q ∈ lw_privs, lw_okq q := by
  show ∀ q ∈ lw_privs_1 ++ (lw_privs_2 ++ (lw_privs_3)), lw_okq q
  exact List.forall_mem_append.mpr ⟨lw_r1, List.forall_mem_append.mpr ⟨lw_r2, lw_r3⟩⟩
end
section
/-- the words that every state of the walk has -/
def zT : List Cond := lw_tbl.filter goodWord
theorem zin {w : Cond} (i : Nat) (h : lw_tbl[i]? = some w) (g : goodWord w = true) : w ∈ zT := List.mem_filter.mpr ⟨List.mem_of_getElem? h, g⟩
/-! THE Z LAYER: one walk of one method over ONE pool of cells (all objects of a system), whose contents K describes. Z hides heap, written places, the array of locals. -/
abbrev zX : Type := Program × Launch × Env × Room × State × MethodId × Array Value × List Frame × Method × Code × Nat × Nat
abbrev zG : Type := va_G × List vw_C × List (ClassId × FieldType) × List Nat
abbrev zK : Type := (Nat → va_E) → Prop
def zW (X : zX) (H : Heap) (locs : List Loc) (Q : State → Prop) (g : JFrame) : Prop :=
  W X.1 X.2.1 X.2.2.1 X.2.2.2.1 X.2.2.2.2.1 X.2.2.2.2.2.1 X.2.2.2.2.2.2.1 X.2.2.2.2.2.2.2.1 X.2.2.2.2.2.2.2.2.1 X.2.2.2.2.2.2.2.2.2.1 H locs X.2.2.2.2.2.2.2.2.2.2.1 X.2.2.2.2.2.2.2.2.2.2.2 Q g
abbrev zX.s (X : zX) : State := X.2.2.2.2.1
abbrev zX.R (X : zX) : Room := X.2.2.2.1
abbrev zX.m (X : zX) : MethodId := X.2.2.2.2.2.1
abbrev zX.args (X : zX) : Array Value := X.2.2.2.2.2.2.1
abbrev zX.meth (X : zX) : Method := X.2.2.2.2.2.2.2.2.1
abbrev zX.c (X : zX) : Code := X.2.2.2.2.2.2.2.2.2.1
def Z (X : zX) (G : zG) (A : Nat → Prop) (nL : Nat) (Q : State → Prop) (K : zK) (pc : Nat) (lv : List (Nat × Value)) (st : List Value) : Prop :=
  ∀ (f : Nat → va_E) (H : Heap) (locs : List Loc) (ls : Array Slot), K f → va_P G.1 G.2.1 (va_pl G.2.2.2 f) H → va_S A X.s.heap H locs → lv_has ls nL lv → zW X H locs Q (F0 X.m pc ls st)
/-- what a walk stands on: machine, code, words, tables, the pool's addresses apart and its own, depth d of calls that there is room for -/
def zC (X : zX) (G : zG) (A : Nat → Prop) (cc : ByteArray) (nL : Nat) (own : String) (fr lo : Nat) : Prop :=
  CallFix X.1 X.m X.c cc nL X.s X.args zT own ∧ va_K G.1 G.2.1 G.2.2.1 X.s ∧ G.2.2.2.Nodup ∧ (∀ q ∈ G.2.2.2, A q) ∧ X.meth.locks = false ∧ X.2.2.2.2.2.2.2.2.2.2.1 ≤ X.R.cells ∧ X.2.2.2.2.2.2.2.2.2.2.2 ≤ X.R.slots ∧ fr ≤ X.R.frames ∧ lo ≤ X.R.locals
theorem zD {L : List Nat} {A : Nat → Prop} {f : Nat → va_E} (hn : L.Nodup) (hA : ∀ q ∈ L, A q) : va_D A (va_pl L f) := by
  refine ⟨fun i j p q hi hj e => ?_, fun k q hk => ?_⟩
  · simp only [va_pl, List.getElem?_map] at hi hj
    cases h1 : L[i]? with
    | none => rw [h1] at hi; cases hi
    | some a =>
      cases h2 : L[j]? with
      | none => rw [h2] at hj; cases hj
      | some b =>
        rw [h1] at hi; rw [h2] at hj
        cases hi; cases hj
        have e : a = b := e
        subst e
        have l1 := (List.getElem?_eq_some_iff.mp h1).1
        exact (List.getElem?_inj l1 hn).mp (h1.trans h2.symm)
  · simp only [va_pl, List.getElem?_map] at hk
    cases h1 : L[k]? with
    | none => rw [h1] at hk; cases hk
    | some a =>
      rw [h1] at hk
      cases hk
      exact hA a (List.mem_of_getElem? h1)
section ZR
variable {X : zX} {G : zG} {A : Nat → Prop} {nL : Nat} {Q : State → Prop} {K : zK} {pc : Nat} {lv : List (Nat × Value)} {st : List Value} {cc : ByteArray} {own : String} {fr lo : Nat}
theorem Z_iconst (C : zC X G A cc nL own fr lo) {n : Int} {v : Int32} (hd : decode cc pc = .ok (.iconst n, 1)) (hv : Int32.ofInt n = v) (k : Z X G A nL Q K (pc + 1) lv (.int v :: st)) : Z X G A nL Q K pc lv (st) := fun f H locs ls hf hP hS hl => lv_iconst C.1.1 C.1.2.1 hd hv (k f H locs ls hf hP hS hl)
theorem Z_bipush (C : zC X G A cc nL own fr lo) {n : Int} {v : Int32} (hd : decode cc pc = .ok (.bipush n, 2)) (hv : (Int8.ofInt n).toInt32 = v) (k : Z X G A nL Q K (pc + 2) lv (.int v :: st)) : Z X G A nL Q K pc lv (st) := fun f H locs ls hf hP hS hl => lv_bipush C.1.1 C.1.2.1 hd hv (k f H locs ls hf hP hS hl)
theorem Z_sipush (C : zC X G A cc nL own fr lo) {n : Int} {v : Int32} (hd : decode cc pc = .ok (.sipush n, 3)) (hv : (Int16.ofInt n).toInt32 = v) (k : Z X G A nL Q K (pc + 3) lv (.int v :: st)) : Z X G A nL Q K pc lv (st) := fun f H locs ls hf hP hS hl => lv_sipush C.1.1 C.1.2.1 hd hv (k f H locs ls hf hP hS hl)
theorem Z_lconst (C : zC X G A cc nL own fr lo) {n : Fin 2} {v : Int64} (hd : decode cc pc = .ok (.lconst n, 1)) (hv : Int64.ofNat (n : Nat) = v) (k : Z X G A nL Q K (pc + 1) lv (.long v :: st)) : Z X G A nL Q K pc lv (st) := fun f H locs ls hf hP hS hl => lv_lconst C.1.1 C.1.2.1 hd hv (k f H locs ls hf hP hS hl)
theorem Z_iload_n (C : zC X G A cc nL own fr lo) (j : Nat) {k : Fin 4} {i : Nat} {x : Int32} (hd : decode cc pc = .ok (.iload_n k, 1)) (hi : (k : Nat) = i) (hx : lv[j]? = some (i, .int x)) (k : Z X G A nL Q K (pc + 1) lv (.int x :: st)) : Z X G A nL Q K pc lv (st) := fun f H locs ls hf hP hS hl => lv_iload_n C.1.1 C.1.2.1 hd hi (lv_at hl j hx) (k f H locs ls hf hP hS hl)
theorem Z_iload (C : zC X G A cc nL own fr lo) (j : Nat) {i : Nat} {x : Int32} (hd : decode cc pc = .ok (.iload i, 2)) (hx : lv[j]? = some (i, .int x)) (k : Z X G A nL Q K (pc + 2) lv (.int x :: st)) : Z X G A nL Q K pc lv (st) := fun f H locs ls hf hP hS hl => lv_iload C.1.1 C.1.2.1 hd (lv_at hl j hx) (k f H locs ls hf hP hS hl)
theorem Z_lload_n (C : zC X G A cc nL own fr lo) (j : Nat) {k : Fin 4} {i : Nat} {x : Int64} (hd : decode cc pc = .ok (.lload_n k, 1)) (hi : (k : Nat) = i) (hx : lv[j]? = some (i, .long x)) (k : Z X G A nL Q K (pc + 1) lv (.long x :: st)) : Z X G A nL Q K pc lv (st) := fun f H locs ls hf hP hS hl => lv_lload_n C.1.1 C.1.2.1 hd hi (lv_at hl j hx) (k f H locs ls hf hP hS hl)
theorem Z_lload (C : zC X G A cc nL own fr lo) (j : Nat) {i : Nat} {x : Int64} (hd : decode cc pc = .ok (.lload i, 2)) (hx : lv[j]? = some (i, .long x)) (k : Z X G A nL Q K (pc + 2) lv (.long x :: st)) : Z X G A nL Q K pc lv (st) := fun f H locs ls hf hP hS hl => lv_lload C.1.1 C.1.2.1 hd (lv_at hl j hx) (k f H locs ls hf hP hS hl)
theorem Z_aload_n (C : zC X G A cc nL own fr lo) (j : Nat) {k : Fin 4} {i : Nat} {x : Nat} (hd : decode cc pc = .ok (.aload_n k, 1)) (hi : (k : Nat) = i) (hx : lv[j]? = some (i, .ref x)) (k : Z X G A nL Q K (pc + 1) lv (.ref x :: st)) : Z X G A nL Q K pc lv (st) := fun f H locs ls hf hP hS hl => lv_aload_n C.1.1 C.1.2.1 hd hi (lv_at hl j hx) (k f H locs ls hf hP hS hl)
theorem Z_aload (C : zC X G A cc nL own fr lo) (j : Nat) {i : Nat} {x : Nat} (hd : decode cc pc = .ok (.aload i, 2)) (hx : lv[j]? = some (i, .ref x)) (k : Z X G A nL Q K (pc + 2) lv (.ref x :: st)) : Z X G A nL Q K pc lv (st) := fun f H locs ls hf hP hS hl => lv_aload C.1.1 C.1.2.1 hd (lv_at hl j hx) (k f H locs ls hf hP hS hl)
theorem Z_istore_n {lv' : List (Nat × Value)} (C : zC X G A cc nL own fr lo) {k : Fin 4} {i : Nat} {x : Int32} (hd : decode cc pc = .ok (.istore_n k, 1)) (hi : (k : Nat) = i) (hn : i < nL) (he : (i, Value.int x) :: lv.filter (fun q => !(q.1 == i) && !(q.1 + 1 == i && q.2.category == 2)) = lv') (k : Z X G A nL Q K (pc + 1) lv' st) : Z X G A nL Q K pc lv (.int x :: st) := fun f H locs ls hf hP hS hl => lv_istore_n C.1.1 C.1.2.1 hd hi hl hn he (fun ls hl => k f H locs ls hf hP hS hl)
theorem Z_istore {lv' : List (Nat × Value)} (C : zC X G A cc nL own fr lo) {i : Nat} {x : Int32} (hd : decode cc pc = .ok (.istore i, 2)) (hn : i < nL) (he : (i, Value.int x) :: lv.filter (fun q => !(q.1 == i) && !(q.1 + 1 == i && q.2.category == 2)) = lv') (k : Z X G A nL Q K (pc + 2) lv' st) : Z X G A nL Q K pc lv (.int x :: st) := fun f H locs ls hf hP hS hl => lv_istore C.1.1 C.1.2.1 hd hl hn he (fun ls hl => k f H locs ls hf hP hS hl)
theorem Z_astore_n {lv' : List (Nat × Value)} (C : zC X G A cc nL own fr lo) {k : Fin 4} {i : Nat} {x : Nat} (hd : decode cc pc = .ok (.astore_n k, 1)) (hi : (k : Nat) = i) (hn : i < nL) (he : (i, Value.ref x) :: lv.filter (fun q => !(q.1 == i) && !(q.1 + 1 == i && q.2.category == 2)) = lv') (k : Z X G A nL Q K (pc + 1) lv' st) : Z X G A nL Q K pc lv (.ref x :: st) := fun f H locs ls hf hP hS hl => lv_astore_n C.1.1 C.1.2.1 hd hi hl hn he (fun ls hl => k f H locs ls hf hP hS hl)
theorem Z_astore {lv' : List (Nat × Value)} (C : zC X G A cc nL own fr lo) {i : Nat} {x : Nat} (hd : decode cc pc = .ok (.astore i, 2)) (hn : i < nL) (he : (i, Value.ref x) :: lv.filter (fun q => !(q.1 == i) && !(q.1 + 1 == i && q.2.category == 2)) = lv') (k : Z X G A nL Q K (pc + 2) lv' st) : Z X G A nL Q K pc lv (.ref x :: st) := fun f H locs ls hf hP hS hl => lv_astore C.1.1 C.1.2.1 hd hl hn he (fun ls hl => k f H locs ls hf hP hS hl)
theorem Z_lstore_n {lv' : List (Nat × Value)} (C : zC X G A cc nL own fr lo) {k : Fin 4} {i : Nat} {x : Int64} (hd : decode cc pc = .ok (.lstore_n k, 1)) (hi : (k : Nat) = i) (hn : i + 1 < nL) (he : (i, Value.long x) :: lv.filter (fun q => !(q.1 == i) && (!(q.1 == i + 1) && !(q.1 + 1 == i && q.2.category == 2))) = lv') (k : Z X G A nL Q K (pc + 1) lv' st) : Z X G A nL Q K pc lv (.long x :: st) := fun f H locs ls hf hP hS hl => lv_lstore_n C.1.1 C.1.2.1 hd hi hl hn he (fun ls hl => k f H locs ls hf hP hS hl)
theorem Z_lstore {lv' : List (Nat × Value)} (C : zC X G A cc nL own fr lo) {i : Nat} {x : Int64} (hd : decode cc pc = .ok (.lstore i, 2)) (hn : i + 1 < nL) (he : (i, Value.long x) :: lv.filter (fun q => !(q.1 == i) && (!(q.1 == i + 1) && !(q.1 + 1 == i && q.2.category == 2))) = lv') (k : Z X G A nL Q K (pc + 2) lv' st) : Z X G A nL Q K pc lv (.long x :: st) := fun f H locs ls hf hP hS hl => lv_lstore C.1.1 C.1.2.1 hd hl hn he (fun ls hl => k f H locs ls hf hP hS hl)
theorem Z_iinc {lv' : List (Nat × Value)} (j : Nat) (C : zC X G A cc nL own fr lo) {i : Nat} {n : Int} {x v : Int32} (hd : decode cc pc = .ok (.iinc i n, 3)) (hx : lv[j]? = some (i, .int x)) (hv : x + Int32.ofInt n = v) (hn : i < nL) (he : (i, Value.int v) :: lv.filter (fun q => !(q.1 == i) && !(q.1 + 1 == i && q.2.category == 2)) = lv') (k : Z X G A nL Q K (pc + 3) lv' st) : Z X G A nL Q K pc lv st := fun f H locs ls hf hP hS hl => lv_iinc C.1.1 C.1.2.1 hd hl hx hv hn he (fun ls hl => k f H locs ls hf hP hS hl)
theorem Z_iadd (C : zC X G A cc nL own fr lo) {x y : Int32} (hd : decode cc pc = .ok (.iadd, 1)) (k : Z X G A nL Q K (pc + 1) lv (.int (x + y) :: st)) : Z X G A nL Q K pc lv (.int y :: .int x :: st) := fun f H locs ls hf hP hS hl => lv_iadd C.1.1 C.1.2.1 hd (k f H locs ls hf hP hS hl)
theorem Z_isub (C : zC X G A cc nL own fr lo) {x y : Int32} (hd : decode cc pc = .ok (.isub, 1)) (k : Z X G A nL Q K (pc + 1) lv (.int (x - y) :: st)) : Z X G A nL Q K pc lv (.int y :: .int x :: st) := fun f H locs ls hf hP hS hl => lv_isub C.1.1 C.1.2.1 hd (k f H locs ls hf hP hS hl)
theorem Z_imul (C : zC X G A cc nL own fr lo) {x y : Int32} (hd : decode cc pc = .ok (.imul, 1)) (k : Z X G A nL Q K (pc + 1) lv (.int (x * y) :: st)) : Z X G A nL Q K pc lv (.int y :: .int x :: st) := fun f H locs ls hf hP hS hl => lv_imul C.1.1 C.1.2.1 hd (k f H locs ls hf hP hS hl)
theorem Z_iand (C : zC X G A cc nL own fr lo) {x y : Int32} (hd : decode cc pc = .ok (.iand, 1)) (k : Z X G A nL Q K (pc + 1) lv (.int (x &&& y) :: st)) : Z X G A nL Q K pc lv (.int y :: .int x :: st) := fun f H locs ls hf hP hS hl => lv_iand C.1.1 C.1.2.1 hd (k f H locs ls hf hP hS hl)
theorem Z_ior (C : zC X G A cc nL own fr lo) {x y : Int32} (hd : decode cc pc = .ok (.ior, 1)) (k : Z X G A nL Q K (pc + 1) lv (.int (x ||| y) :: st)) : Z X G A nL Q K pc lv (.int y :: .int x :: st) := fun f H locs ls hf hP hS hl => lv_ior C.1.1 C.1.2.1 hd (k f H locs ls hf hP hS hl)
theorem Z_ixor (C : zC X G A cc nL own fr lo) {x y : Int32} (hd : decode cc pc = .ok (.ixor, 1)) (k : Z X G A nL Q K (pc + 1) lv (.int (x ^^^ y) :: st)) : Z X G A nL Q K pc lv (.int y :: .int x :: st) := fun f H locs ls hf hP hS hl => lv_ixor C.1.1 C.1.2.1 hd (k f H locs ls hf hP hS hl)
theorem Z_ishl (C : zC X G A cc nL own fr lo) {x y : Int32} (hd : decode cc pc = .ok (.ishl, 1)) (k : Z X G A nL Q K (pc + 1) lv (.int (x <<< (y &&& 31)) :: st)) : Z X G A nL Q K pc lv (.int y :: .int x :: st) := fun f H locs ls hf hP hS hl => lv_ishl C.1.1 C.1.2.1 hd (k f H locs ls hf hP hS hl)
theorem Z_ishr (C : zC X G A cc nL own fr lo) {x y : Int32} (hd : decode cc pc = .ok (.ishr, 1)) (k : Z X G A nL Q K (pc + 1) lv (.int (x >>> (y &&& 31)) :: st)) : Z X G A nL Q K pc lv (.int y :: .int x :: st) := fun f H locs ls hf hP hS hl => lv_ishr C.1.1 C.1.2.1 hd (k f H locs ls hf hP hS hl)
theorem Z_idiv (C : zC X G A cc nL own fr lo) {x y : Int32} (hd : decode cc pc = .ok (.idiv, 1)) (hne : ¬ y = 0) (k : Z X G A nL Q K (pc + 1) lv (.int (x / y) :: st)) : Z X G A nL Q K pc lv (.int y :: .int x :: st) := fun f H locs ls hf hP hS hl => lv_idiv C.1.1 C.1.2.1 hd hne (k f H locs ls hf hP hS hl)
theorem Z_irem (C : zC X G A cc nL own fr lo) {x y : Int32} (hd : decode cc pc = .ok (.irem, 1)) (hne : ¬ y = 0) (k : Z X G A nL Q K (pc + 1) lv (.int (x - x / y * y) :: st)) : Z X G A nL Q K pc lv (.int y :: .int x :: st) := fun f H locs ls hf hP hS hl => lv_irem C.1.1 C.1.2.1 hd hne (k f H locs ls hf hP hS hl)
theorem Z_ldiv (C : zC X G A cc nL own fr lo) {x y : Int64} (hd : decode cc pc = .ok (.ldiv, 1)) (hne : ¬ y = 0) (k : Z X G A nL Q K (pc + 1) lv (.long (x / y) :: st)) : Z X G A nL Q K pc lv (.long y :: .long x :: st) := fun f H locs ls hf hP hS hl => lv_ldiv C.1.1 C.1.2.1 hd hne (k f H locs ls hf hP hS hl)
theorem Z_lrem (C : zC X G A cc nL own fr lo) {x y : Int64} (hd : decode cc pc = .ok (.lrem, 1)) (hne : ¬ y = 0) (k : Z X G A nL Q K (pc + 1) lv (.long (x - x / y * y) :: st)) : Z X G A nL Q K pc lv (.long y :: .long x :: st) := fun f H locs ls hf hP hS hl => lv_lrem C.1.1 C.1.2.1 hd hne (k f H locs ls hf hP hS hl)
theorem Z_ineg (C : zC X G A cc nL own fr lo) {x : Int32} (hd : decode cc pc = .ok (.ineg, 1)) (k : Z X G A nL Q K (pc + 1) lv (.int (-x) :: st)) : Z X G A nL Q K pc lv (.int x :: st) := fun f H locs ls hf hP hS hl => lv_ineg C.1.1 C.1.2.1 hd (k f H locs ls hf hP hS hl)
theorem Z_ladd (C : zC X G A cc nL own fr lo) {x y : Int64} (hd : decode cc pc = .ok (.ladd, 1)) (k : Z X G A nL Q K (pc + 1) lv (.long (x + y) :: st)) : Z X G A nL Q K pc lv (.long y :: .long x :: st) := fun f H locs ls hf hP hS hl => lv_ladd C.1.1 C.1.2.1 hd (k f H locs ls hf hP hS hl)
theorem Z_lsub (C : zC X G A cc nL own fr lo) {x y : Int64} (hd : decode cc pc = .ok (.lsub, 1)) (k : Z X G A nL Q K (pc + 1) lv (.long (x - y) :: st)) : Z X G A nL Q K pc lv (.long y :: .long x :: st) := fun f H locs ls hf hP hS hl => lv_lsub C.1.1 C.1.2.1 hd (k f H locs ls hf hP hS hl)
theorem Z_lmul (C : zC X G A cc nL own fr lo) {x y : Int64} (hd : decode cc pc = .ok (.lmul, 1)) (k : Z X G A nL Q K (pc + 1) lv (.long (x * y) :: st)) : Z X G A nL Q K pc lv (.long y :: .long x :: st) := fun f H locs ls hf hP hS hl => lv_lmul C.1.1 C.1.2.1 hd (k f H locs ls hf hP hS hl)
theorem Z_land (C : zC X G A cc nL own fr lo) {x y : Int64} (hd : decode cc pc = .ok (.land, 1)) (k : Z X G A nL Q K (pc + 1) lv (.long (x &&& y) :: st)) : Z X G A nL Q K pc lv (.long y :: .long x :: st) := fun f H locs ls hf hP hS hl => lv_land C.1.1 C.1.2.1 hd (k f H locs ls hf hP hS hl)
theorem Z_lor (C : zC X G A cc nL own fr lo) {x y : Int64} (hd : decode cc pc = .ok (.lor, 1)) (k : Z X G A nL Q K (pc + 1) lv (.long (x ||| y) :: st)) : Z X G A nL Q K pc lv (.long y :: .long x :: st) := fun f H locs ls hf hP hS hl => lv_lor C.1.1 C.1.2.1 hd (k f H locs ls hf hP hS hl)
theorem Z_lxor (C : zC X G A cc nL own fr lo) {x y : Int64} (hd : decode cc pc = .ok (.lxor, 1)) (k : Z X G A nL Q K (pc + 1) lv (.long (x ^^^ y) :: st)) : Z X G A nL Q K pc lv (.long y :: .long x :: st) := fun f H locs ls hf hP hS hl => lv_lxor C.1.1 C.1.2.1 hd (k f H locs ls hf hP hS hl)
theorem Z_iushr (C : zC X G A cc nL own fr lo) {x y : Int32} (hd : decode cc pc = .ok (.iushr, 1)) (k : Z X G A nL Q K (pc + 1) lv (.int ((x.toUInt32 >>> (y.toUInt32 &&& Int32.toUInt32 31)).toInt32) :: st)) : Z X G A nL Q K pc lv (.int y :: .int x :: st) := fun f H locs ls hf hP hS hl => lv_iushr C.1.1 C.1.2.1 hd rfl (k f H locs ls hf hP hS hl)
theorem Z_lushr (C : zC X G A cc nL own fr lo) {x : Int64} {y : Int32} (hd : decode cc pc = .ok (.lushr, 1)) (k : Z X G A nL Q K (pc + 1) lv (.long ((x.toUInt64 >>> (y.toInt64.toUInt64 &&& Int64.toUInt64 63)).toInt64) :: st)) : Z X G A nL Q K pc lv (.int y :: .long x :: st) := fun f H locs ls hf hP hS hl => lv_lushr C.1.1 C.1.2.1 hd rfl (k f H locs ls hf hP hS hl)
theorem Z_lshl (C : zC X G A cc nL own fr lo) {x : Int64} {y : Int32} (hd : decode cc pc = .ok (.lshl, 1)) (k : Z X G A nL Q K (pc + 1) lv (.long (x <<< (y.toInt64 &&& 63)) :: st)) : Z X G A nL Q K pc lv (.int y :: .long x :: st) := fun f H locs ls hf hP hS hl => lv_lshl C.1.1 C.1.2.1 hd rfl (k f H locs ls hf hP hS hl)
theorem Z_lshr (C : zC X G A cc nL own fr lo) {x : Int64} {y : Int32} (hd : decode cc pc = .ok (.lshr, 1)) (k : Z X G A nL Q K (pc + 1) lv (.long (x >>> (y.toInt64 &&& 63)) :: st)) : Z X G A nL Q K pc lv (.int y :: .long x :: st) := fun f H locs ls hf hP hS hl => lv_lshr C.1.1 C.1.2.1 hd rfl (k f H locs ls hf hP hS hl)
theorem Z_i2l (C : zC X G A cc nL own fr lo) {x : Int32} (hd : decode cc pc = .ok (.i2l, 1)) (k : Z X G A nL Q K (pc + 1) lv (.long x.toInt64 :: st)) : Z X G A nL Q K pc lv (.int x :: st) := fun f H locs ls hf hP hS hl => lv_i2l C.1.1 C.1.2.1 hd rfl (k f H locs ls hf hP hS hl)
theorem Z_l2i (C : zC X G A cc nL own fr lo) {x : Int64} (hd : decode cc pc = .ok (.l2i, 1)) (k : Z X G A nL Q K (pc + 1) lv (.int x.toInt32 :: st)) : Z X G A nL Q K pc lv (.long x :: st) := fun f H locs ls hf hP hS hl => lv_l2i C.1.1 C.1.2.1 hd rfl (k f H locs ls hf hP hS hl)
theorem Z_i2b (C : zC X G A cc nL own fr lo) {x : Int32} (hd : decode cc pc = .ok (.i2b, 1)) (k : Z X G A nL Q K (pc + 1) lv (.int x.toInt8.toInt32 :: st)) : Z X G A nL Q K pc lv (.int x :: st) := fun f H locs ls hf hP hS hl => lv_i2b C.1.1 C.1.2.1 hd rfl (k f H locs ls hf hP hS hl)
theorem Z_dup (C : zC X G A cc nL own fr lo) {va : Value} (hd : decode cc pc = .ok (.dup, 1)) (hva : va.category = 1) (k : Z X G A nL Q K (pc + 1) lv (va :: va :: st)) : Z X G A nL Q K pc lv (va :: st) := fun f H locs ls hf hP hS hl => lv_dup C.1.1 C.1.2.1 hd hva (k f H locs ls hf hP hS hl)
theorem Z_pop (C : zC X G A cc nL own fr lo) {va : Value} (hd : decode cc pc = .ok (.pop, 1)) (hva : va.category = 1) (k : Z X G A nL Q K (pc + 1) lv (st)) : Z X G A nL Q K pc lv (va :: st) := fun f H locs ls hf hP hS hl => lv_pop C.1.1 C.1.2.1 hd hva (k f H locs ls hf hP hS hl)
theorem Z_dup_x1 (C : zC X G A cc nL own fr lo) {va vb : Value} (hd : decode cc pc = .ok (.dup_x1, 1)) (hva : va.category = 1) (hvb : vb.category = 1) (k : Z X G A nL Q K (pc + 1) lv (va :: vb :: va :: st)) : Z X G A nL Q K pc lv (va :: vb :: st) := fun f H locs ls hf hP hS hl => lv_dup_x1 C.1.1 C.1.2.1 hd hva hvb (k f H locs ls hf hP hS hl)
theorem Z_dup_x2 (C : zC X G A cc nL own fr lo) {va vb vd : Value} (hd : decode cc pc = .ok (.dup_x2, 1)) (hva : va.category = 1) (hvb : vb.category = 1) (hvd : vd.category = 1) (k : Z X G A nL Q K (pc + 1) lv (va :: vb :: vd :: va :: st)) : Z X G A nL Q K pc lv (va :: vb :: vd :: st) := fun f H locs ls hf hP hS hl => lv_dup_x2 C.1.1 C.1.2.1 hd hva hvb hvd (k f H locs ls hf hP hS hl)
theorem Z_dup2_11 (C : zC X G A cc nL own fr lo) {va vb : Value} (hd : decode cc pc = .ok (.dup2, 1)) (hva : va.category = 1) (hvb : vb.category = 1) (k : Z X G A nL Q K (pc + 1) lv (va :: vb :: va :: vb :: st)) : Z X G A nL Q K pc lv (va :: vb :: st) := fun f H locs ls hf hP hS hl => lv_dup2_11 C.1.1 C.1.2.1 hd hva hvb (k f H locs ls hf hP hS hl)
theorem Z_goto (C : zC X G A cc nL own fr lo) {off : Int} {tgt : Nat} (hd : decode cc pc = .ok (.goto off, 3)) (ht : (pc : Int) + off = (tgt : Int)) (k : Z X G A nL Q K (tgt) lv (st)) : Z X G A nL Q K pc lv (st) := fun f H locs ls hf hP hS hl => lv_goto C.1.1 C.1.2.1 hd ht (k f H locs ls hf hP hS hl)
theorem Z_null (C : zC X G A cc nL own fr lo) (hd : decode cc pc = .ok (.aconst_null, 1)) (k : Z X G A nL Q K (pc + 1) lv (.null :: st)) : Z X G A nL Q K pc lv (st) := fun f H locs ls hf hP hS hl => lv_null C.1.1 C.1.2.1 hd (k f H locs ls hf hP hS hl)
theorem Z_if_eq {tgt : Nat} (C : zC X G A cc nL own fr lo) {x : Int32} {off : Int} (hd : decode cc pc = .ok (.ifCond .eq off, 3)) (ht : (pc : Int) + off = (tgt : Int)) (kt : x = 0 → Z X G A nL Q K tgt lv st) (kf : ¬ x = 0 → Z X G A nL Q K (pc + 3) lv st) : Z X G A nL Q K pc lv (.int x :: st) := fun f H locs ls hf hP hS hl => lv_if_eq C.1.1 C.1.2.1 hd ht (fun h => kt h f H locs ls hf hP hS hl) (fun h => kf h f H locs ls hf hP hS hl)
theorem Z_if_ne {tgt : Nat} (C : zC X G A cc nL own fr lo) {x : Int32} {off : Int} (hd : decode cc pc = .ok (.ifCond .ne off, 3)) (ht : (pc : Int) + off = (tgt : Int)) (kt : ¬ x = 0 → Z X G A nL Q K tgt lv st) (kf : x = 0 → Z X G A nL Q K (pc + 3) lv st) : Z X G A nL Q K pc lv (.int x :: st) := fun f H locs ls hf hP hS hl => lv_if_ne C.1.1 C.1.2.1 hd ht (fun h => kt h f H locs ls hf hP hS hl) (fun h => kf h f H locs ls hf hP hS hl)
theorem Z_if_lt {tgt : Nat} (C : zC X G A cc nL own fr lo) {x : Int32} {off : Int} (hd : decode cc pc = .ok (.ifCond .lt off, 3)) (ht : (pc : Int) + off = (tgt : Int)) (kt : x < 0 → Z X G A nL Q K tgt lv st) (kf : ¬ x < 0 → Z X G A nL Q K (pc + 3) lv st) : Z X G A nL Q K pc lv (.int x :: st) := fun f H locs ls hf hP hS hl => lv_if_lt C.1.1 C.1.2.1 hd ht (fun h => kt h f H locs ls hf hP hS hl) (fun h => kf h f H locs ls hf hP hS hl)
theorem Z_if_ge {tgt : Nat} (C : zC X G A cc nL own fr lo) {x : Int32} {off : Int} (hd : decode cc pc = .ok (.ifCond .ge off, 3)) (ht : (pc : Int) + off = (tgt : Int)) (kt : 0 ≤ x → Z X G A nL Q K tgt lv st) (kf : ¬ 0 ≤ x → Z X G A nL Q K (pc + 3) lv st) : Z X G A nL Q K pc lv (.int x :: st) := fun f H locs ls hf hP hS hl => lv_if_ge C.1.1 C.1.2.1 hd ht (fun h => kt h f H locs ls hf hP hS hl) (fun h => kf h f H locs ls hf hP hS hl)
theorem Z_if_gt {tgt : Nat} (C : zC X G A cc nL own fr lo) {x : Int32} {off : Int} (hd : decode cc pc = .ok (.ifCond .gt off, 3)) (ht : (pc : Int) + off = (tgt : Int)) (kt : 0 < x → Z X G A nL Q K tgt lv st) (kf : ¬ 0 < x → Z X G A nL Q K (pc + 3) lv st) : Z X G A nL Q K pc lv (.int x :: st) := fun f H locs ls hf hP hS hl => lv_if_gt C.1.1 C.1.2.1 hd ht (fun h => kt h f H locs ls hf hP hS hl) (fun h => kf h f H locs ls hf hP hS hl)
theorem Z_if_le {tgt : Nat} (C : zC X G A cc nL own fr lo) {x : Int32} {off : Int} (hd : decode cc pc = .ok (.ifCond .le off, 3)) (ht : (pc : Int) + off = (tgt : Int)) (kt : x ≤ 0 → Z X G A nL Q K tgt lv st) (kf : ¬ x ≤ 0 → Z X G A nL Q K (pc + 3) lv st) : Z X G A nL Q K pc lv (.int x :: st) := fun f H locs ls hf hP hS hl => lv_if_le C.1.1 C.1.2.1 hd ht (fun h => kt h f H locs ls hf hP hS hl) (fun h => kf h f H locs ls hf hP hS hl)
theorem Z_icmp_eq {tgt : Nat} (C : zC X G A cc nL own fr lo) {x y : Int32} {off : Int} (hd : decode cc pc = .ok (.if_icmp .eq off, 3)) (ht : (pc : Int) + off = (tgt : Int)) (kt : x = y → Z X G A nL Q K tgt lv st) (kf : ¬ x = y → Z X G A nL Q K (pc + 3) lv st) : Z X G A nL Q K pc lv (.int y :: .int x :: st) := fun f H locs ls hf hP hS hl => lv_icmp_eq C.1.1 C.1.2.1 hd ht (fun h => kt h f H locs ls hf hP hS hl) (fun h => kf h f H locs ls hf hP hS hl)
theorem Z_icmp_ne {tgt : Nat} (C : zC X G A cc nL own fr lo) {x y : Int32} {off : Int} (hd : decode cc pc = .ok (.if_icmp .ne off, 3)) (ht : (pc : Int) + off = (tgt : Int)) (kt : ¬ x = y → Z X G A nL Q K tgt lv st) (kf : x = y → Z X G A nL Q K (pc + 3) lv st) : Z X G A nL Q K pc lv (.int y :: .int x :: st) := fun f H locs ls hf hP hS hl => lv_icmp_ne C.1.1 C.1.2.1 hd ht (fun h => kt h f H locs ls hf hP hS hl) (fun h => kf h f H locs ls hf hP hS hl)
theorem Z_icmp_lt {tgt : Nat} (C : zC X G A cc nL own fr lo) {x y : Int32} {off : Int} (hd : decode cc pc = .ok (.if_icmp .lt off, 3)) (ht : (pc : Int) + off = (tgt : Int)) (kt : x < y → Z X G A nL Q K tgt lv st) (kf : ¬ x < y → Z X G A nL Q K (pc + 3) lv st) : Z X G A nL Q K pc lv (.int y :: .int x :: st) := fun f H locs ls hf hP hS hl => lv_icmp_lt C.1.1 C.1.2.1 hd ht (fun h => kt h f H locs ls hf hP hS hl) (fun h => kf h f H locs ls hf hP hS hl)
theorem Z_icmp_ge {tgt : Nat} (C : zC X G A cc nL own fr lo) {x y : Int32} {off : Int} (hd : decode cc pc = .ok (.if_icmp .ge off, 3)) (ht : (pc : Int) + off = (tgt : Int)) (kt : y ≤ x → Z X G A nL Q K tgt lv st) (kf : ¬ y ≤ x → Z X G A nL Q K (pc + 3) lv st) : Z X G A nL Q K pc lv (.int y :: .int x :: st) := fun f H locs ls hf hP hS hl => lv_icmp_ge C.1.1 C.1.2.1 hd ht (fun h => kt h f H locs ls hf hP hS hl) (fun h => kf h f H locs ls hf hP hS hl)
theorem Z_icmp_gt {tgt : Nat} (C : zC X G A cc nL own fr lo) {x y : Int32} {off : Int} (hd : decode cc pc = .ok (.if_icmp .gt off, 3)) (ht : (pc : Int) + off = (tgt : Int)) (kt : y < x → Z X G A nL Q K tgt lv st) (kf : ¬ y < x → Z X G A nL Q K (pc + 3) lv st) : Z X G A nL Q K pc lv (.int y :: .int x :: st) := fun f H locs ls hf hP hS hl => lv_icmp_gt C.1.1 C.1.2.1 hd ht (fun h => kt h f H locs ls hf hP hS hl) (fun h => kf h f H locs ls hf hP hS hl)
theorem Z_icmp_le {tgt : Nat} (C : zC X G A cc nL own fr lo) {x y : Int32} {off : Int} (hd : decode cc pc = .ok (.if_icmp .le off, 3)) (ht : (pc : Int) + off = (tgt : Int)) (kt : x ≤ y → Z X G A nL Q K tgt lv st) (kf : ¬ x ≤ y → Z X G A nL Q K (pc + 3) lv st) : Z X G A nL Q K pc lv (.int y :: .int x :: st) := fun f H locs ls hf hP hS hl => lv_icmp_le C.1.1 C.1.2.1 hd ht (fun h => kt h f H locs ls hf hP hS hl) (fun h => kf h f H locs ls hf hP hS hl)
theorem Z_ifnonnull (C : zC X G A cc nL own fr lo) {x : Nat} {off : Int} {tgt : Nat} (hd : decode cc pc = .ok (.ifnonnull off, 3)) (ht : (pc : Int) + off = (tgt : Int)) (k : Z X G A nL Q K (tgt) lv (st)) : Z X G A nL Q K pc lv (.ref x :: st) := fun f H locs ls hf hP hS hl => lv_ifnonnull C.1.1 C.1.2.1 hd ht (k f H locs ls hf hP hS hl)
theorem Z_ifnonnullN (C : zC X G A cc nL own fr lo) {off : Int} (hd : decode cc pc = .ok (.ifnonnull off, 3)) (k : Z X G A nL Q K (pc + 3) lv (st)) : Z X G A nL Q K pc lv (.null :: st) := fun f H locs ls hf hP hS hl => lv_ifnonnullN C.1.1 C.1.2.1 hd (k f H locs ls hf hP hS hl)
theorem Z_ifnull (C : zC X G A cc nL own fr lo) {x : Nat} {off : Int} (hd : decode cc pc = .ok (.ifnull off, 3)) (k : Z X G A nL Q K (pc + 3) lv (st)) : Z X G A nL Q K pc lv (.ref x :: st) := fun f H locs ls hf hP hS hl => lv_ifnull C.1.1 C.1.2.1 hd (k f H locs ls hf hP hS hl)
theorem Z_ifnullN (C : zC X G A cc nL own fr lo) {off : Int} {tgt : Nat} (hd : decode cc pc = .ok (.ifnull off, 3)) (ht : (pc : Int) + off = (tgt : Int)) (k : Z X G A nL Q K (tgt) lv (st)) : Z X G A nL Q K pc lv (.null :: st) := fun f H locs ls hf hP hS hl => lv_ifnullN C.1.1 C.1.2.1 hd ht (k f H locs ls hf hP hS hl)
theorem Z_ldc (C : zC X G A cc nL own fr lo) {index : Nat} {v : Int32} (hw : Cond.constant own index v ∈ zT) (hd : decode cc pc = .ok (.ldc index, 2)) (k : Z X G A nL Q K (pc + 2) lv (.int v :: st)) : Z X G A nL Q K pc lv st := fun f H locs ls hf hP hS hl => lv_ldc C.1.1 C.1.2.1 C.1.2.2.2.1 (C.1.2.2.2.2 _ hw) hd (k f H locs ls hf hP hS hl)
theorem Z_ldcw (C : zC X G A cc nL own fr lo) {index : Nat} {v : Int32} (hw : Cond.constant own index v ∈ zT) (hd : decode cc pc = .ok (.ldc_w index, 3)) (k : Z X G A nL Q K (pc + 3) lv (.int v :: st)) : Z X G A nL Q K pc lv st := fun f H locs ls hf hP hS hl => lv_ldcw C.1.1 C.1.2.1 C.1.2.2.2.1 (C.1.2.2.2.2 _ hw) hd (k f H locs ls hf hP hS hl)
theorem Z_ldc2 (C : zC X G A cc nL own fr lo) {index : Nat} {v : Int64} (hw : Cond.constantLong own index v ∈ zT) (hd : decode cc pc = .ok (.ldc2_w index, 3)) (k : Z X G A nL Q K (pc + 3) lv (.long v :: st)) : Z X G A nL Q K pc lv st := fun f H locs ls hf hP hS hl => lv_ldc2 C.1.1 C.1.2.1 C.1.2.2.2.1 (C.1.2.2.2.2 _ hw) hd (k f H locs ls hf hP hS hl)
/-- memory: the cell at a -/
theorem Z_get (C : zC X G A cc nL own fr lo) {ref CN : String} {T : u_T} {N ci index a : Nat} {fs : List Value} (k : Nat) {v : Value} (ha : a ∈ G.2.2.2) (hm : ∀ f, K f → f a = .inr (ci, fs)) (hc : G.2.1[ci]? = some (CN, T, N)) (hin : ∀ w ∈ u_ws CN T N, w ∈ zT) (hk : k < N) (hlink : Cond.fieldLink own index ref (T k).2.1 (T k).2.2.1 ∈ zT) (href : (T k).1 = ref) (hv : fs[k]? = some v) (hd : decode cc pc = .ok (.getfield index, 3)) (kk : Z X G A nL Q K (pc + 3) lv (v :: st)) : Z X G A nL Q K pc lv (.ref a :: st) := fun f H locs ls hf hP hS hl => by
  obtain ⟨q0, hq⟩ := va_pl_get (X := []) (f := f) ha
  rw [hm f hf] at hq
  exact va_get C.1.1 C.1.2.1 C.1.2.2.2.2 hin C.1.2.2.2.1 C.2.1 hP q0 hq hc k hk (C.1.2.2.2.2 _ hlink) (fun x h => by rw [← href]; exact h) hv hd (kk f H locs ls hf hP hS hl)
theorem Z_put {K' : zK} (C : zC X G A cc nL own fr lo) {ref CN : String} {T : u_T} {N ci index a : Nat} {fs : List Value} (k : Nat) {v : Value} {ty : FieldType} (ty0 : Nat → FieldType) (ha : a ∈ G.2.2.2) (hm : ∀ f, K f → f a = .inr (ci, fs)) (hc : G.2.1[ci]? = some (CN, T, N)) (hin : ∀ w ∈ u_ws CN T N, w ∈ zT) (hty : ∀ k, k < N → parseFieldDescriptor (T k).2.2.1 = some (ty0 k)) (hnm : ∀ a, a < N → ∀ b, b < N → a ≠ b → (T a).2.1 ≠ (T b).2.1) (hk : k < N) (hlink : Cond.fieldLink own index ref (T k).2.1 (T k).2.2.1 ∈ zT) (href : (T k).1 = ref) (hfin : (T k).2.2.2 = false) (hd' : parseFieldDescriptor (T k).2.2.1 = some ty) (hn : narrow ty v = v) (hfit : fits ty v = true) (hl' : k < fs.length) (hK : ∀ f, K f → K' (va_up f a (.inr (ci, fs.set k v)))) (hd : decode cc pc = .ok (.putfield index, 3)) (kk : Z X G A nL Q K' (pc + 3) lv st) : Z X G A nL Q K pc lv (v :: .ref a :: st) := fun f H locs ls hf hP hS hl => by
  obtain ⟨q0, hq⟩ := va_pl_get (X := []) (f := f) ha
  have hD : va_D A (va_pl G.2.2.2 f) := zD C.2.2.1 C.2.2.2.1
  have hq0 := hq
  rw [hm f hf] at hq
  refine va_put C.1.1 C.1.2.1 C.1.2.2.2.2 hin ty0 hty hnm C.1.2.2.2.1 C.2.1 hP hD hS q0 hq hc k hk (C.1.2.2.2.2 _ hlink) (fun x h => by rw [← href]; exact h) hfin hd' hn hfit hl' hd (fun H1 locs1 hP1 hD1 hS1 => ?_)
  have e := va_pl_set (X := []) (e := .inr (ci, fs.set k v)) hD ha hq0
  simp only [List.nil_append] at e
  rw [e] at hP1
  exact kk _ H1 locs1 ls (hK f hf) hP1 hS1 hl
theorem Z_alen (C : zC X G A cc nL own fr lo) {a t0 : Nat} {cA : ClassId} {x : vp_A} {ty : FieldType} {v : Int32} (ha : a ∈ G.2.2.2) (hm : ∀ f, K f → f a = .inl (cA, x)) (ht : G.2.2.1[t0]? = some (cA, ty)) (hv : Int32.ofNat x.1 = v) (hd : decode cc pc = .ok (.arraylength, 1)) (kk : Z X G A nL Q K (pc + 1) lv (.int v :: st)) : Z X G A nL Q K pc lv (.ref a :: st) := fun f H locs ls hf hP hS hl => by
  obtain ⟨q0, hq⟩ := va_pl_get (X := []) (f := f) ha
  rw [hm f hf] at hq
  exact va_alen C.1.1 C.1.2.1 C.2.1 hP q0 t0 hq ht hv hd (kk f H locs ls hf hP hS hl)
theorem Z_iald (C : zC X G A cc nL own fr lo) {a t0 n : Nat} {cA : ClassId} {g : Nat → Int32} {i : Int32} (ha : a ∈ G.2.2.2) (hm : ∀ f, K f → f a = .inl (cA, n, .inl g)) (ht : G.2.2.1[t0]? = some (cA, .int)) (hin : vp_in i n) (hd : decode cc pc = .ok (.iaload, 1)) (kk : Z X G A nL Q K (pc + 1) lv (.int (g i.toNatClampNeg) :: st)) : Z X G A nL Q K pc lv (.int i :: .ref a :: st) := fun f H locs ls hf hP hS hl => by
  obtain ⟨q0, hq⟩ := va_pl_get (X := []) (f := f) ha
  rw [hm f hf] at hq
  exact va_iald C.1.1 C.1.2.1 C.2.1 hP q0 t0 hq ht hin hd (kk f H locs ls hf hP hS hl)
theorem Z_iast {K' : zK} (C : zC X G A cc nL own fr lo) {a t0 n : Nat} {cA : ClassId} {g : Nat → Int32} {i x : Int32} (ha : a ∈ G.2.2.2) (hm : ∀ f, K f → f a = .inl (cA, n, .inl g)) (ht : G.2.2.1[t0]? = some (cA, .int)) (hin : vp_in i n) (hK : ∀ f, K f → K' (va_up f a (.inl (cA, n, .inl (upd g i.toNatClampNeg x))))) (hd : decode cc pc = .ok (.iastore, 1)) (kk : Z X G A nL Q K' (pc + 1) lv st) : Z X G A nL Q K pc lv (.int x :: .int i :: .ref a :: st) := fun f H locs ls hf hP hS hl => by
  obtain ⟨q0, hq⟩ := va_pl_get (X := []) (f := f) ha
  have hD : va_D A (va_pl G.2.2.2 f) := zD C.2.2.1 C.2.2.2.1
  have hq0 := hq
  rw [hm f hf] at hq
  refine va_iast C.1.1 C.1.2.1 C.2.1 hP hD hS q0 t0 hq ht hin hd (fun H1 locs1 hP1 hD1 hS1 => ?_)
  have e := va_pl_set (X := []) (e := .inl (cA, n, .inl (upd g i.toNatClampNeg x))) hD ha hq0
  simp only [List.nil_append] at e
  rw [e] at hP1
  exact kk _ H1 locs1 ls (hK f hf) hP1 hS1 hl
theorem Z_aald (C : zC X G A cc nL own fr lo) {a t0 n : Nat} {cA : ClassId} {CN : String} {g : Nat → Option Nat} {i : Int32} (ha : a ∈ G.2.2.2) (hm : ∀ f, K f → f a = .inl (cA, n, .inr (.inr (.inr (.inr g))))) (ht : G.2.2.1[t0]? = some (cA, .object CN)) (hin : vp_in i n) (hd : decode cc pc = .ok (.aaload, 1)) (kk : Z X G A nL Q K (pc + 1) lv (va_rf (g i.toNatClampNeg) :: st)) : Z X G A nL Q K pc lv (.int i :: .ref a :: st) := fun f H locs ls hf hP hS hl => by
  obtain ⟨q0, hq⟩ := va_pl_get (X := []) (f := f) ha
  rw [hm f hf] at hq
  exact va_aldq C.1.1 C.1.2.1 C.2.1 hP q0 t0 hq ht hin hd (kk f H locs ls hf hP hS hl)
end ZR
end
section
/-! CONTRACTS: functional ones (a method over one pool: these arguments, this state: this answer, that state), returns and calls -/
def zPre (G : zG) (K : zK) (U : State) : Prop := (∃ f, K f ∧ va_P G.1 G.2.1 (va_pl G.2.2.2 f) U.heap) ∧ va_K G.1 G.2.1 G.2.2.1 U
abbrev zA (G : zG) : Nat → Prop := fun q => q ∈ G.2.2.2
def zPost (G : zG) (w : Option Value) (K : zK) : Array Value → State → Outcome → State → Prop := fun _ st oc t => (oc = .returned w ∧ zPre G K t) ∧ va_F (zA G) st t
abbrev zRm (fr lo : Nat) : Room := { frames := fr, cells := 0, slots := 0, locals := lo }
abbrev zWs (y : MethodName) (cc : ByteArray) (nL : Nat) (ret : Option FieldType) : List Cond := Cond.code y cc nL ret :: zT
/-- method y (its code, locals, kind of answer) called with As where the pool holds K: it answers w, the pool holds K' -/
def zF (l : Launch) (y : MethodName) (cc : ByteArray) (nL : Nat) (ret : Option FieldType) (fr lo : Nat) (G : zG) (As : List Value) (K : zK) (w : Option Value) (K' : zK) : Prop :=
  Met l y (zWs y cc nL ret) (zRm fr lo) (va_Pc As (zPre G K)) (zPost G w K') 0 0 (zA G)
def zQ (X : zX) (G : zG) (w : Option Value) (K : zK) : State → Prop := MQ X.2.2.2.2.2.2.2.1 (zPost G w K) X.args X.s 0 0 (zA G)
abbrev zX.l (X : zX) : Launch := X.2.1
def zN (X : zX) : Prop := X.2.2.2.2.2.2.2.2.2.2.1 = 0 ∧ X.2.2.2.2.2.2.2.2.2.2.2 = 0
/-- a contract out of a walk of the body -/
theorem zF.ofZ {l : Launch} {y : MethodName} {fr lo : Nat} {G : zG} {As : List Value} {K K' : zK} {w : Option Value} {cc : ByteArray} {nL : Nat} {ret : Option FieldType}
    (hy : plainName y.cls = true) (hL : G.2.2.2.Nodup) (hE : (lg_sl As).length ≤ nL)
    (body : ∀ X : zX, X.l = l → zN X → X.meth.sig.returnType = ret → zC X G (zA G) cc nL y.cls fr lo → Z X G (zA G) nL (zQ X G w K') K 0 (lv_args 0 As) []) : zF l y cc nL ret fr lo G As K w K' := by
  refine Met.ofW (cc := cc) (maxL := nL) (ret := ret) (ws' := zT) hy rfl ?_
  intro p e s m args below meth c s₁ B hml hv
  obtain ⟨rfl, ⟨f, hf, hP⟩, hK⟩ := hv
  have hts := atoms_spec (ws := zWs y cc nL ret) B.pre
  have hown : s.vm.findClass y.cls = some m.cls := findClass_of_methodNamed B.named
  have hl := lv_entry As (n := nL) hE
  rw [lg_entry_eq]
  exact body (p, l, e, (headSpec (zWs y cc nL ret) (zRm fr lo)).room, s, m, As.toArray, below, meth, c, 0, 0) rfl ⟨rfl, rfl⟩ B.returns ⟨⟨B.exec, B.bytes, hml, hown, fun w h => hts w (List.mem_cons_of_mem _ h)⟩, hK, hL, fun q h => h, B.notSynchronized, Nat.zero_le _, Nat.zero_le _, Nat.le_refl _, Nat.le_refl _⟩ f s.heap [] _ hf hP va_S.rf hl
section ZE
variable {X : zX} {G : zG} {nL : Nat} {K K' : zK} {w : Option Value} {pc : Nat} {lv : List (Nat × Value)} {cc : ByteArray} {own : String} {fr lo : Nat}
theorem Z_iret {v : Int32} (C : zC X G (zA G) cc nL own fr lo) (hN : zN X) (hr : X.meth.sig.returnType = some .int) (hd : decode cc pc = .ok (.ireturn, 1)) (hw : w = some (.int v)) (hK : ∀ f, K f → K' f) : Z X G (zA G) nL (zQ X G w K') K pc lv [.int v] := by
  subst hw
  intro f H locs ls hf hP hS hl
  obtain ⟨p, l, e, R, s, m, args, below, meth, c, n1, n2⟩ := X
  obtain ⟨h1, h2⟩ := hN
  dsimp only at h1 h2
  subst h1; subst h2
  exact W.iret C.1.1 C.1.2.1 hr (fun t ht hW => ⟨⟨rfl, ⟨f, hK f hf, by rw [ht]; exact hP⟩, va_K.moved hW.alike C.2.1⟩, hS.F ht⟩) hS.2.2 hd C.2.2.2.2.1
theorem Z_zret {v : Int32} {ty : FieldType} (C : zC X G (zA G) cc nL own fr lo) (hN : zN X) (hr : X.meth.sig.returnType = some ty) (hn : narrow ty (.int v) = .int v) (hd : decode cc pc = .ok (.ireturn, 1)) (hw : w = some (.int v)) (hK : ∀ f, K f → K' f) : Z X G (zA G) nL (zQ X G w K') K pc lv [.int v] := by
  subst hw
  intro f H locs ls hf hP hS hl
  obtain ⟨p, l, e, R, s, m, args, below, meth, c, n1, n2⟩ := X
  obtain ⟨h1, h2⟩ := hN
  dsimp only at h1 h2
  subst h1; subst h2
  exact W.zret C.1.1 C.1.2.1 hr hn (fun t ht hW => ⟨⟨rfl, ⟨f, hK f hf, by rw [ht]; exact hP⟩, va_K.moved hW.alike C.2.1⟩, hS.F ht⟩) hS.2.2 hd C.2.2.2.2.1
theorem Z_vret (C : zC X G (zA G) cc nL own fr lo) (hN : zN X) (hr : X.meth.sig.returnType = none) (hd : decode cc pc = .ok (.return_, 1)) (hw : w = none) (hK : ∀ f, K f → K' f) : Z X G (zA G) nL (zQ X G w K') K pc lv [] := by
  subst hw
  intro f H locs ls hf hP hS hl
  obtain ⟨p, l, e, R, s, m, args, below, meth, c, n1, n2⟩ := X
  obtain ⟨h1, h2⟩ := hN
  dsimp only at h1 h2
  subst h1; subst h2
  exact W.vret C.1.1 C.1.2.1 hr (fun t ht hW => ⟨⟨rfl, ⟨f, hK f hf, by rw [ht]; exact hP⟩, va_K.moved hW.alike C.2.1⟩, hS.F ht⟩) hS.2.2 hd C.2.2.2.2.1
theorem Z_aret {v : Value} {rt : FieldType} (C : zC X G (zA G) cc nL own fr lo) (hN : zN X) (hr : X.meth.sig.returnType = some rt) (hrt : (∃ n, rt = .object n) ∨ ∃ t, rt = .array t) (hv : v = .null ∨ ∃ a, v = .ref a) (hd : decode cc pc = .ok (.areturn, 1)) (hw : w = some v) (hK : ∀ f, K f → K' f) : Z X G (zA G) nL (zQ X G w K') K pc lv [v] := by
  subst hw
  intro f H locs ls hf hP hS hl
  obtain ⟨p, l, e, R, s, m, args, below, meth, c, n1, n2⟩ := X
  obtain ⟨h1, h2⟩ := hN
  dsimp only at h1 h2
  subst h1; subst h2
  exact W.aret C.1.1 C.1.2.1 hr hrt hv (fun t ht hW => ⟨⟨rfl, ⟨f, hK f hf, by rw [ht]; exact hP⟩, va_K.moved hW.alike C.2.1⟩, hS.F ht⟩) hS.2.2 hd C.2.2.2.2.1
end ZE
section ZCl
variable {X : zX} {G : zG} {A : Nat → Prop} {nL : Nat} {Q : State → Prop} {K K' : zK} {pc : Nat} {lv : List (Nat × Value)} {st rest As : List Value} {cc bytes : ByteArray} {own : String} {fr lo fr' lo' : Nat} {y : MethodName} {w : Option Value} {n b index maxL : Nat} {ret : Option FieldType}
theorem zPre.blind : FrameBlind (va_Pc As (zPre G K)) := fun a U g mk q => by
  obtain ⟨q0, q1, qK⟩ := q
  exact ⟨q0, q1, va_K.moved (u := U) (U := U.calling g mk a) (Vm.Alike.refl U.vm) qK⟩
theorem zPre.at {f : Nat → va_E} {H : Heap} (C : zC X G A cc nL own fr lo) (hf : K f) (hP : va_P G.1 G.2.1 (va_pl G.2.2.2 f) H) : ∀ U : State, U.heap = H → X.s.WarmedH U.vm → va_Pc As (zPre G K) As.toArray U :=
  fun U hU hW => ⟨rfl, ⟨f, hf, by rw [hU]; exact hP⟩, va_K.moved hW.alike C.2.1⟩
/-- behind the run of a call: the walk goes on with the callee's answer and state -/
theorem zBack (C : zC X G A cc nL own fr lo) {H : Heap} {locs : List Loc} {ls : Array Slot} {a : Array Value} (hS : va_S A X.s.heap H locs) (hl : lv_has ls nL lv)
    (hr : va_Run X.1 X.2.1 X.2.2.1 X.2.2.2.1 X.2.2.2.2.1 X.2.2.2.2.2.1 X.2.2.2.2.2.2.1 X.2.2.2.2.2.2.2.1 X.2.2.2.2.2.2.2.2.1 X.2.2.2.2.2.2.2.2.2.1 H locs X.2.2.2.2.2.2.2.2.2.2.1 X.2.2.2.2.2.2.2.2.2.2.2 0 0 (F0 X.m pc ls st) rest (zPost G w K' a) (zA G))
    (k : Z X G A nL Q K' (pc + 3) lv (w.toList ++ rest)) : zW X H locs Q (F0 X.m pc ls st) := by
  intro T hT XX
  obtain ⟨v, st₀, t, T', L, h0, X', hL, e1, e2, ⟨⟨hv, ⟨f', hf', hP'⟩, hK'⟩, hz, hk⟩, stp⟩ := hr T hT XX
  cases hv
  rw [h0] at hz hk
  have hS' : va_S A X.s.heap T'.heap (locs ++ L) := ⟨Nat.le_trans hS.1 (by rw [e1]; exact hz), fun q h1 h2 => by
      rw [e1, hk q (Nat.lt_of_lt_of_le h1 hS.1) (fun z => h2 (C.2.2.2.1 q z))]; exact hS.2.1 q h1 h2, fun q hq => by
      rcases List.mem_append.mp hq with h | h
      · exact hS.2.2 q h
      · exact C.2.2.2.1 _ (hL q h)⟩
  obtain ⟨t2, a1, b1⟩ := k f' T'.heap (locs ++ L) ls hf' (by rw [e1]; exact hP') hS' hl T' rfl X'
  exact ⟨t2, stp t2 a1, b1⟩
/-- what a call's words are, of an instance method; of a static one -/
def zMi (y : MethodName) (bytes : ByteArray) (maxL : Nat) (ret : Option FieldType) (n : Nat) : Prop :=
  Cond.instanceMethod y ∈ zT ∧ Cond.selects y.cls y y ∈ zT ∧ Cond.initialized y.cls ∈ zT ∧ Cond.code y bytes maxL ret ∈ zT ∧ (y.cls ≠ "java/lang/invoke/MethodHandle" ∧ y.cls ≠ "java/lang/invoke/VarHandle") ∧ (parseMethodDescriptor y.desc).map (fun d => d.parameters.length) = some n
def zMs (y : MethodName) (bytes : ByteArray) (maxL : Nat) (ret : Option FieldType) (n : Nat) : Prop :=
  Cond.static y ∈ zT ∧ Cond.initialized y.cls ∈ zT ∧ Cond.code y bytes maxL ret ∈ zT ∧ (y.cls ≠ "java/lang/invoke/MethodHandle" ∧ y.cls ≠ "java/lang/invoke/VarHandle") ∧ (parseMethodDescriptor y.desc).map (fun d => d.parameters.length) = some n
theorem zCB (C : zC X G A cc nL own fr lo) (hini : Cond.initialized y.cls ∈ zT) (hc : Cond.code y bytes maxL ret ∈ zT) (hy : y.cls ≠ "java/lang/invoke/MethodHandle" ∧ y.cls ≠ "java/lang/invoke/VarHandle") (hn : (parseMethodDescriptor y.desc).map (fun d => d.parameters.length) = some n) (hl : Cond.methodLink own index y ∈ zT) (hle : fr' + 1 ≤ fr ∧ 19 + maxL + lo' ≤ lo) :
    CallB X.R X.s X.args own index y bytes maxL ret (zWs y bytes maxL ret) (zRm fr' lo') 0 0 n := by
  have hts := C.1.2.2.2.2
  have good : ∀ w ∈ zWs y bytes maxL ret, w ∈ zT ∧ ((w.onTables && w.keeps) = true ∨ ∃ ty, w = .arrayClass ty) := by
    intro w hw
    have h1 : w ∈ zT := by
      rcases List.mem_cons.mp hw with h | h
      · rw [h]; exact hc
      · exact h
    exact ⟨h1, good_of_word (List.mem_filter.mp h1).2⟩
  have e1 := C.2.2.2.2.2.2.2.1
  have e2 := C.2.2.2.2.2.2.2.2
  refine ⟨rfl, rfl, ?_, ?_, pay_in hts good, List.mem_cons_self, hts _ hc, hts _ hini, hy, fun sig h => ?_, hts _ hl⟩
  · show fr' + 1 ≤ _; omega
  · show 8 + (maxL + 11) + lo' ≤ _; omega
  · rw [h] at hn
    exact (Option.some.inj hn).symm
theorem Z_callV (C : zC X G A cc nL own fr lo) (mi : zMi y bytes maxL ret n) (hlk : Cond.methodLink own index y ∈ zT) (hM : zF X.l y bytes maxL ret fr' lo' G (.ref b :: As) K w K') (hle : fr' + 1 ≤ fr ∧ 19 + maxL + lo' ≤ lo)
    {ci N : Nat} {T : u_T} {fs : List Value} (hb : b ∈ G.2.2.2) (hm : ∀ f, K f → f b = .inr (ci, fs)) (hcl : G.2.1[ci]? = some (y.cls, T, N)) (hn : As.length = n) (hst : st = As.reverse ++ .ref b :: rest) (hrm : (rest.map fun v => v.category).sum ≤ 8) (hd : decode cc pc = .ok (.invokevirtual index, 3))
    (k : Z X G A nL Q K' (pc + 3) lv (w.toList ++ rest)) : Z X G A nL Q K pc lv st := by
  intro f H locs ls hf hP hS hl
  obtain ⟨q0, hq⟩ := va_pl_get (X := []) (f := f) hb
  rw [hm f hf] at hq
  have hcw := zCB C mi.2.2.1 mi.2.2.2.1 mi.2.2.2.2.1 mi.2.2.2.2.2 hlk hle
  exact zBack C hS hl (va_runV (As := As) (rest := rest) C.1 hM ⟨hcw, C.1.2.2.2.2 _ mi.1, C.1.2.2.2.2 _ mi.2.1⟩ ⟨zPre.blind, va_recv C.2.1 hP hcl hq, zPre.at C hf hP⟩ rfl hn hl.1 hst (lv_room hrm) hd ⟨C.2.2.2.2.2.1, C.2.2.2.2.2.2.1⟩) k
theorem Z_callS (C : zC X G A cc nL own fr lo) (mi : zMs y bytes maxL ret n) (hlk : Cond.methodLink own index y ∈ zT) (hM : zF X.l y bytes maxL ret fr' lo' G As K w K') (hle : fr' + 1 ≤ fr ∧ 19 + maxL + lo' ≤ lo)
    (hn : As.length = n) (hst : st = As.reverse ++ rest) (hrm : (rest.map fun v => v.category).sum ≤ 8) (hd : decode cc pc = .ok (.invokestatic index, 3))
    (k : Z X G A nL Q K' (pc + 3) lv (w.toList ++ rest)) : Z X G A nL Q K pc lv st := by
  intro f H locs ls hf hP hS hl
  have hcw := zCB C mi.2.1 mi.2.2.1 mi.2.2.2.1 mi.2.2.2.2 hlk hle
  exact zBack C hS hl (va_runS (As := As) (rest := rest) C.1 hM ⟨hcw, C.1.2.2.2.2 _ mi.1⟩ ⟨zPre.blind, zPre.at C hf hP⟩ rfl hn hl.1 hst (lv_room hrm) hd ⟨C.2.2.2.2.2.1, C.2.2.2.2.2.2.1⟩) k
theorem Z_mmax {x y : Int32} (C : zC X G A cc nL own fr lo) (hlk : Cond.methodLink own index Lib.Math.max.name ∈ zT) (h1 : Cond.static Lib.Math.max.name ∈ zT) (h2 : Cond.initialized "java/lang/Math" ∈ zT) (h3 : Cond.code Lib.Math.max.name Lib.Math.max.code 2 (some .int) ∈ zT) (hle : 1 ≤ fr ∧ (rest.map fun v => v.category).sum + 13 ≤ lo) (hd : decode cc pc = .ok (.invokestatic index, 3))
    (k : Z X G A nL Q K (pc + 3) lv (.int (if x < y then y else x) :: rest)) : Z X G A nL Q K pc lv (.int y :: .int x :: rest) := fun f H locs ls hf hP hS hl =>
  va_mmax C.1.1 C.1.2.1 (by rw [hl.1]; exact C.1.2.2.1) C.1.2.2.2.1 (C.1.2.2.2.2 _ hlk) (C.1.2.2.2.2 _ h1) (C.1.2.2.2.2 _ h2) (C.1.2.2.2.2 _ h3) (Nat.le_trans hle.1 C.2.2.2.2.2.2.2.1) (Nat.le_trans hle.2 C.2.2.2.2.2.2.2.2) C.2.2.2.2.2.1 C.2.2.2.2.2.2.1 hd (k f H locs ls hf hP hS hl)
theorem Z_mmin {x y : Int32} (C : zC X G A cc nL own fr lo) (hlk : Cond.methodLink own index Lib.Math.min.name ∈ zT) (h1 : Cond.static Lib.Math.min.name ∈ zT) (h2 : Cond.initialized "java/lang/Math" ∈ zT) (h3 : Cond.code Lib.Math.min.name Lib.Math.min.code 2 (some .int) ∈ zT) (hle : 1 ≤ fr ∧ (rest.map fun v => v.category).sum + 13 ≤ lo) (hd : decode cc pc = .ok (.invokestatic index, 3))
    (k : Z X G A nL Q K (pc + 3) lv (.int (if y < x then y else x) :: rest)) : Z X G A nL Q K pc lv (.int y :: .int x :: rest) := fun f H locs ls hf hP hS hl =>
  va_mmin C.1.1 C.1.2.1 (by rw [hl.1]; exact C.1.2.2.1) C.1.2.2.2.1 (C.1.2.2.2.2 _ hlk) (C.1.2.2.2.2 _ h1) (C.1.2.2.2.2 _ h2) (C.1.2.2.2.2 _ h3) (Nat.le_trans hle.1 C.2.2.2.2.2.2.2.1) (Nat.le_trans hle.2 C.2.2.2.2.2.2.2.2) C.2.2.2.2.2.1 C.2.2.2.2.2.2.1 hd (k f H locs ls hf hP hS hl)
end ZCl
end
section
def RX0 : String := "StandInLan$Frame"
def TX0 : u_T := fun k => match k with
  | 0 => ("StandInLan$Frame", "bytes", "[I", true)
  | 1 => ("StandInLan$Frame", "length", "I", false)
  | 2 => ("StandInLan$Frame", "kind", "I", false)
  | 3 => ("StandInLan$Frame", "from", "I", false)
  | 4 => ("StandInLan$Frame", "to", "I", false)
  | 5 => ("StandInLan$Frame", "address", "I", false)
  | 6 => ("StandInLan$Frame", "hops", "I", false)
  | 7 => ("StandInLan$Frame", "ports", "I", false)
  | _ => ("StandInLan$Frame", "due", "I", false)
def tyX0 : Nat → FieldType := fun k => match k with
  | 0 => .array .int
  | 1 => .int
  | 2 => .int
  | 3 => .int
  | 4 => .int
  | 5 => .int
  | 6 => .int
  | 7 => .int
  | _ => .int
abbrev wsX00 : List Cond := u_ws RX0 TX0 9
theorem nmX0 : ∀ a, a < 9 → ∀ b, b < 9 → a ≠ b → (TX0 a).2.1 ≠ (TX0 b).2.1 := by decide +kernel
theorem tyX0_ok : ∀ k, k < 9 → parseFieldDescriptor (TX0 k).2.2.1 = some (tyX0 k) := by decide +kernel
def RX1 : String := "StandInLan$Router"
def TX1 : u_T := fun k => match k with
  | 0 => ("StandInLan$Router", "number", "I", true)
  | 1 => ("StandInLan$Router", "wire", "LStandInLan$Wire;", true)
  | 2 => ("StandInLan$Router", "settings", "[I", true)
  | 3 => ("StandInLan$Router", "sessions", "[LStandInLan$Session;", true)
  | 4 => ("StandInLan$Router", "state", "I", false)
  | 5 => ("StandInLan$Router", "timer", "I", false)
  | 6 => ("StandInLan$Router", "known", "I", false)
  | 7 => ("StandInLan$Router", "timesActive", "I", false)
  | 8 => ("StandInLan$Router", "taken", "I", false)
  | 9 => ("StandInLan$Router", "sent", "I", false)
  | _ => ("StandInLan$Router", "noted", "I", false)
def tyX1 : Nat → FieldType := fun k => match k with
  | 0 => .int
  | 1 => .object "StandInLan$Wire"
  | 2 => .array .int
  | 3 => .array (.object "StandInLan$Session")
  | 4 => .int
  | 5 => .int
  | 6 => .int
  | 7 => .int
  | 8 => .int
  | 9 => .int
  | _ => .int
abbrev wsX10 : List Cond := u_ws RX1 TX1 11
theorem nmX1 : ∀ a, a < 11 → ∀ b, b < 11 → a ≠ b → (TX1 a).2.1 ≠ (TX1 b).2.1 := by decide +kernel
theorem tyX1_ok : ∀ k, k < 11 → parseFieldDescriptor (TX1 k).2.2.1 = some (tyX1 k) := by decide +kernel
def RX2 : String := "StandInLan$Session"
def TX2 : u_T := fun k => match k with
  | 0 => ("StandInLan$Session", "number", "I", true)
  | 1 => ("StandInLan$Session", "other", "I", true)
  | 2 => ("StandInLan$Session", "exists", "Z", false)
  | 3 => ("StandInLan$Session", "state", "I", false)
  | 4 => ("StandInLan$Session", "remoteState", "I", false)
  | 5 => ("StandInLan$Session", "remoteNumber", "I", false)
  | 6 => ("StandInLan$Session", "diagnosis", "I", false)
  | 7 => ("StandInLan$Session", "tx", "I", false)
  | 8 => ("StandInLan$Session", "rx", "I", false)
  | 9 => ("StandInLan$Session", "multiplier", "I", false)
  | 10 => ("StandInLan$Session", "itsRx", "I", false)
  | 11 => ("StandInLan$Session", "itsTx", "I", false)
  | 12 => ("StandInLan$Session", "itsMultiplier", "I", false)
  | 13 => ("StandInLan$Session", "polls", "Z", false)
  | 14 => ("StandInLan$Session", "txInUse", "I", false)
  | 15 => ("StandInLan$Session", "rxInUse", "I", false)
  | 16 => ("StandInLan$Session", "sendTimer", "I", false)
  | 17 => ("StandInLan$Session", "detectTimer", "I", false)
  | _ => ("StandInLan$Session", "timesUp", "I", false)
def tyX2 : Nat → FieldType := fun k => match k with
  | 0 => .int
  | 1 => .int
  | 2 => .boolean
  | 3 => .int
  | 4 => .int
  | 5 => .int
  | 6 => .int
  | 7 => .int
  | 8 => .int
  | 9 => .int
  | 10 => .int
  | 11 => .int
  | 12 => .int
  | 13 => .boolean
  | 14 => .int
  | 15 => .int
  | 16 => .int
  | 17 => .int
  | _ => .int
abbrev wsX20 : List Cond := u_ws RX2 TX2 19
theorem nmX2 : ∀ a, a < 19 → ∀ b, b < 19 → a ≠ b → (TX2 a).2.1 ≠ (TX2 b).2.1 := by decide +kernel
theorem tyX2_ok : ∀ k, k < 19 → parseFieldDescriptor (TX2 k).2.2.1 = some (tyX2 k) := by decide +kernel
def RX3 : String := "StandInLan$Wire"
def TX3 : u_T := fun k => match k with
  | 0 => ("StandInLan$Wire", "places", "[I", true)
  | 1 => ("StandInLan$Wire", "way", "[LStandInLan$Frame;", true)
  | 2 => ("StandInLan$Wire", "count", "I", false)
  | 3 => ("StandInLan$Wire", "clock", "I", false)
  | 4 => ("StandInLan$Wire", "draft", "LStandInLan$Frame;", false)
  | _ => ("StandInLan$Wire", "taken", "LStandInLan$Frame;", false)
def tyX3 : Nat → FieldType := fun k => match k with
  | 0 => .array .int
  | 1 => .array (.object "StandInLan$Frame")
  | 2 => .int
  | 3 => .int
  | 4 => .object "StandInLan$Frame"
  | _ => .object "StandInLan$Frame"
abbrev wsX30 : List Cond := u_ws RX3 TX3 6
theorem nmX3 : ∀ a, a < 6 → ∀ b, b < 6 → a ≠ b → (TX3 a).2.1 ≠ (TX3 b).2.1 := by decide +kernel
theorem tyX3_ok : ∀ k, k < 6 → parseFieldDescriptor (TX3 k).2.2.1 = some (tyX3 k) := by decide +kernel
def RX4 : String := "StandInLan"
def TX4 : u_T := fun k => match k with
  | 0 => ("StandInLan", "wire", "LStandInLan$Wire;", true)
  | 1 => ("StandInLan", "routers", "[LStandInLan$Router;", true)
  | _ => ("StandInLan", "tape", "LStandInLan$Frame;", true)
def tyX4 : Nat → FieldType := fun k => match k with
  | 0 => .object "StandInLan$Wire"
  | 1 => .array (.object "StandInLan$Router")
  | _ => .object "StandInLan$Frame"
abbrev wsX40 : List Cond := u_ws RX4 TX4 3
theorem nmX4 : ∀ a, a < 3 → ∀ b, b < 3 → a ≠ b → (TX4 a).2.1 ≠ (TX4 b).2.1 := by decide +kernel
theorem tyX4_ok : ∀ k, k < 3 → parseFieldDescriptor (TX4 k).2.2.1 = some (tyX4 k) := by decide +kernel
def RX5 : String := "StandInLanModel"
def TX5 : u_T := fun k => match k with
  | _ => ("", "", "", false)
def tyX5 : Nat → FieldType := fun k => match k with
  | _ => .int
abbrev wsX50 : List Cond := u_ws RX5 TX5 0
theorem nmX5 : ∀ a, a < 0 → ∀ b, b < 0 → a ≠ b → (TX5 a).2.1 ≠ (TX5 b).2.1 := by decide +kernel
theorem tyX5_ok : ∀ k, k < 0 → parseFieldDescriptor (TX5 k).2.2.1 = some (tyX5 k) := by decide +kernel

def RXL : String := "StandInLanLaw"
abbrev b_L_init : ByteArray := prog_1_method_1_code
def y_L_init : MethodName := ⟨RX4, "<init>", "()V"⟩
abbrev b_L_set : ByteArray := prog_1_method_2_code
def y_L_set : MethodName := ⟨RX4, "set", "(III)V"⟩
abbrev b_L_start : ByteArray := prog_1_method_3_code
def y_L_start : MethodName := ⟨RX4, "start", "(I)V"⟩
abbrev b_L_stop : ByteArray := prog_1_method_4_code
def y_L_stop : MethodName := ⟨RX4, "stop", "(IZ)V"⟩
abbrev b_L_open : ByteArray := prog_1_method_5_code
def y_L_open : MethodName := ⟨RX4, "open", "(IIIII)V"⟩
abbrev b_L_change : ByteArray := prog_1_method_6_code
def y_L_change : MethodName := ⟨RX4, "change", "(IIII)V"⟩
abbrev b_L_ask : ByteArray := prog_1_method_7_code
def y_L_ask : MethodName := ⟨RX4, "ask", "(I)V"⟩
abbrev b_L_tick : ByteArray := prog_1_method_8_code
def y_L_tick : MethodName := ⟨RX4, "tick", "(I)I"⟩
abbrev b_L_type : ByteArray := prog_1_method_9_code
def y_L_type : MethodName := ⟨RX4, "type", "(JI)Z"⟩
abbrev b_L_arrive : ByteArray := prog_1_method_10_code
def y_L_arrive : MethodName := ⟨RX4, "arrive", "(IIIII)Z"⟩
abbrev b_L_router : ByteArray := prog_1_method_11_code
def y_L_router : MethodName := ⟨RX4, "router", "(II)I"⟩
abbrev b_L_session : ByteArray := prog_1_method_12_code
def y_L_session : MethodName := ⟨RX4, "session", "(III)I"⟩
abbrev b_L_port : ByteArray := prog_1_method_13_code
def y_L_port : MethodName := ⟨RX4, "port", "(I)I"⟩
abbrev b_L_flying : ByteArray := prog_1_method_14_code
def y_L_flying : MethodName := ⟨RX4, "flying", "()I"⟩
abbrev b_L_frame : ByteArray := prog_1_method_15_code
def y_L_frame : MethodName := ⟨RX4, "frame", "(II)I"⟩
abbrev b_L_isRouter : ByteArray := prog_1_method_16_code
def y_L_isRouter : MethodName := ⟨RX4, "isRouter", "(I)Z"⟩
abbrev b_L_isRate : ByteArray := prog_1_method_17_code
def y_L_isRate : MethodName := ⟨RX4, "isRate", "(I)Z"⟩
abbrev b_L_handOut : ByteArray := prog_1_method_18_code
def y_L_handOut : MethodName := ⟨RX4, "handOut", "(LStandInLan$Frame;)V"⟩
abbrev b_M_init : ByteArray := prog_7_method_1_code
def y_M_init : MethodName := ⟨RX5, "<init>", "()V"⟩
abbrev b_M_thrown : ByteArray := prog_7_method_2_code
def y_M_thrown : MethodName := ⟨RX5, "thrown", "()I"⟩
abbrev b_M_raise : ByteArray := prog_7_method_3_code
def y_M_raise : MethodName := ⟨RX5, "raise", "(I)Z"⟩
abbrev b_M_isRouter : ByteArray := prog_7_method_4_code
def y_M_isRouter : MethodName := ⟨RX5, "isRouter", "(I)Z"⟩
abbrev b_M_is : ByteArray := prog_7_method_5_code
def y_M_is : MethodName := ⟨RX5, "is", "(II)I"⟩
abbrev b_M_fits : ByteArray := prog_7_method_6_code
def y_M_fits : MethodName := ⟨RX5, "fits", "(II)Z"⟩
abbrev b_M_set : ByteArray := prog_7_method_7_code
def y_M_set : MethodName := ⟨RX5, "set", "(III)V"⟩
abbrev b_M_put : ByteArray := prog_7_method_8_code
def y_M_put : MethodName := ⟨RX5, "put", "(I)V"⟩
abbrev b_M_putMany : ByteArray := prog_7_method_9_code
def y_M_putMany : MethodName := ⟨RX5, "putMany", "(II)V"⟩
abbrev b_M_send : ByteArray := prog_7_method_10_code
def y_M_send : MethodName := ⟨RX5, "send", "(IIII)V"⟩
abbrev b_M_forget : ByteArray := prog_7_method_11_code
def y_M_forget : MethodName := ⟨RX5, "forget", "(I)V"⟩
abbrev b_M_weighed : ByteArray := prog_7_method_12_code
def y_M_weighed : MethodName := ⟨RX5, "weighed", "(I)I"⟩
abbrev b_M_max : ByteArray := prog_7_method_13_code
def y_M_max : MethodName := ⟨RX5, "max", "(II)I"⟩
abbrev b_M_atLeastOne : ByteArray := prog_7_method_14_code
def y_M_atLeastOne : MethodName := ⟨RX5, "atLeastOne", "(I)I"⟩
abbrev b_M_skew : ByteArray := prog_7_method_15_code
def y_M_skew : MethodName := ⟨RX5, "skew", "(I)I"⟩
abbrev b_M_fold : ByteArray := prog_7_method_16_code
def y_M_fold : MethodName := ⟨RX5, "fold", "(I)I"⟩
abbrev b_M_sum : ByteArray := prog_7_method_17_code
def y_M_sum : MethodName := ⟨RX5, "sum", "([II)I"⟩
abbrev b_M_advertise : ByteArray := prog_7_method_18_code
def y_M_advertise : MethodName := ⟨RX5, "advertise", "(II)V"⟩
abbrev b_M_beActive : ByteArray := prog_7_method_19_code
def y_M_beActive : MethodName := ⟨RX5, "beActive", "(I)V"⟩
abbrev b_M_beBackup : ByteArray := prog_7_method_20_code
def y_M_beBackup : MethodName := ⟨RX5, "beBackup", "(I)V"⟩
abbrev b_M_start : ByteArray := prog_7_method_21_code
def y_M_start : MethodName := ⟨RX5, "start", "(I)V"⟩
abbrev b_M_stop : ByteArray := prog_7_method_22_code
def y_M_stop : MethodName := ⟨RX5, "stop", "(IZ)V"⟩
abbrev b_M_timerFires : ByteArray := prog_7_method_23_code
def y_M_timerFires : MethodName := ⟨RX5, "timerFires", "(I)V"⟩
abbrev b_M_told : ByteArray := prog_7_method_24_code
def y_M_told : MethodName := ⟨RX5, "told", "(II)J"⟩
abbrev b_M_advertised : ByteArray := prog_7_method_25_code
def y_M_advertised : MethodName := ⟨RX5, "advertised", "(III)Z"⟩
abbrev b_M_ask : ByteArray := prog_7_method_26_code
def y_M_ask : MethodName := ⟨RX5, "ask", "(I)V"⟩
abbrev b_M_sendTime : ByteArray := prog_7_method_27_code
def y_M_sendTime : MethodName := ⟨RX5, "sendTime", "(I)I"⟩
abbrev b_M_setSend : ByteArray := prog_7_method_28_code
def y_M_setSend : MethodName := ⟨RX5, "setSend", "(I)V"⟩
abbrev b_M_hurry : ByteArray := prog_7_method_29_code
def y_M_hurry : MethodName := ⟨RX5, "hurry", "(I)V"⟩
abbrev b_M_sendPacket : ByteArray := prog_7_method_30_code
def y_M_sendPacket : MethodName := ⟨RX5, "sendPacket", "(III)V"⟩
abbrev b_M_open : ByteArray := prog_7_method_31_code
def y_M_open : MethodName := ⟨RX5, "open", "(IIIII)V"⟩
abbrev b_M_change : ByteArray := prog_7_method_32_code
def y_M_change : MethodName := ⟨RX5, "change", "(IIII)V"⟩
abbrev b_M_meant : ByteArray := prog_7_method_33_code
def y_M_meant : MethodName := ⟨RX5, "meant", "(II)I"⟩
abbrev b_M_capped : ByteArray := prog_7_method_34_code
def y_M_capped : MethodName := ⟨RX5, "capped", "(J)I"⟩
abbrev b_M_goDown : ByteArray := prog_7_method_35_code
def y_M_goDown : MethodName := ⟨RX5, "goDown", "(II)V"⟩
abbrev b_M_goUp : ByteArray := prog_7_method_36_code
def y_M_goUp : MethodName := ⟨RX5, "goUp", "(I)V"⟩
abbrev b_M_turn : ByteArray := prog_7_method_37_code
def y_M_turn : MethodName := ⟨RX5, "turn", "(II)V"⟩
abbrev b_M_packeted : ByteArray := prog_7_method_38_code
def y_M_packeted : MethodName := ⟨RX5, "packeted", "(III)Z"⟩
abbrev b_M_detectFires : ByteArray := prog_7_method_39_code
def y_M_detectFires : MethodName := ⟨RX5, "detectFires", "(I)V"⟩
abbrev b_M_reach : ByteArray := prog_7_method_40_code
def y_M_reach : MethodName := ⟨RX5, "reach", "(IIIII)V"⟩
abbrev b_M_arriveAll : ByteArray := prog_7_method_41_code
def y_M_arriveAll : MethodName := ⟨RX5, "arriveAll", "()V"⟩
abbrev b_M_work : ByteArray := prog_7_method_42_code
def y_M_work : MethodName := ⟨RX5, "work", "(I)V"⟩
abbrev b_M_tick : ByteArray := prog_7_method_43_code
def y_M_tick : MethodName := ⟨RX5, "tick", "(I)I"⟩
abbrev b_M_type : ByteArray := prog_7_method_44_code
def y_M_type : MethodName := ⟨RX5, "type", "(JI)Z"⟩
abbrev b_M_arrive : ByteArray := prog_7_method_45_code
def y_M_arrive : MethodName := ⟨RX5, "arrive", "(IIIII)Z"⟩
abbrev b_M_router : ByteArray := prog_7_method_46_code
def y_M_router : MethodName := ⟨RX5, "router", "(II)I"⟩
abbrev b_M_session : ByteArray := prog_7_method_47_code
def y_M_session : MethodName := ⟨RX5, "session", "(III)I"⟩
abbrev b_M_port : ByteArray := prog_7_method_48_code
def y_M_port : MethodName := ⟨RX5, "port", "(I)I"⟩
abbrev b_M_flying : ByteArray := prog_7_method_49_code
def y_M_flying : MethodName := ⟨RX5, "flying", "()I"⟩
abbrev b_M_frame : ByteArray := prog_7_method_50_code
def y_M_frame : MethodName := ⟨RX5, "frame", "(II)I"⟩
abbrev b_F_init : ByteArray := prog_2_method_1_code
def y_F_init : MethodName := ⟨RX0, "<init>", "()V"⟩
abbrev b_F_put : ByteArray := prog_2_method_2_code
def y_F_put : MethodName := ⟨RX0, "put", "(I)V"⟩
abbrev b_F_putTwo : ByteArray := prog_2_method_3_code
def y_F_putTwo : MethodName := ⟨RX0, "putTwo", "(I)V"⟩
abbrev b_F_putFour : ByteArray := prog_2_method_4_code
def y_F_putFour : MethodName := ⟨RX0, "putFour", "(I)V"⟩
abbrev b_F_byteAt : ByteArray := prog_2_method_5_code
def y_F_byteAt : MethodName := ⟨RX0, "byteAt", "(I)I"⟩
abbrev b_F_twoAt : ByteArray := prog_2_method_6_code
def y_F_twoAt : MethodName := ⟨RX0, "twoAt", "(I)I"⟩
abbrev b_F_fourAt : ByteArray := prog_2_method_7_code
def y_F_fourAt : MethodName := ⟨RX0, "fourAt", "(I)I"⟩
abbrev b_F_sum : ByteArray := prog_2_method_8_code
def y_F_sum : MethodName := ⟨RX0, "sum", "()I"⟩
abbrev b_F_putCheckAt : ByteArray := prog_2_method_9_code
def y_F_putCheckAt : MethodName := ⟨RX0, "putCheckAt", "(I)V"⟩
abbrev b_R_init : ByteArray := prog_3_method_1_code
def y_R_init : MethodName := ⟨RX1, "<init>", "(ILStandInLan$Wire;)V"⟩
abbrev b_R_tell : ByteArray := prog_3_method_2_code
def y_R_tell : MethodName := ⟨RX1, "tell", "(I)I"⟩
abbrev b_R_wake : ByteArray := prog_3_method_3_code
def y_R_wake : MethodName := ⟨RX1, "wake", "()V"⟩
abbrev b_R_sayGoodbye : ByteArray := prog_3_method_4_code
def y_R_sayGoodbye : MethodName := ⟨RX1, "sayGoodbye", "()V"⟩
abbrev b_R_forgetAll : ByteArray := prog_3_method_5_code
def y_R_forgetAll : MethodName := ⟨RX1, "forgetAll", "()V"⟩
abbrev b_R_weighed : ByteArray := prog_3_method_6_code
def y_R_weighed : MethodName := ⟨RX1, "weighed", "()I"⟩
abbrev b_R_skew : ByteArray := prog_3_method_7_code
def y_R_skew : MethodName := ⟨RX1, "skew", "()I"⟩
abbrev b_R_becomeActive : ByteArray := prog_3_method_8_code
def y_R_becomeActive : MethodName := ⟨RX1, "becomeActive", "()V"⟩
abbrev b_R_becomeBackup : ByteArray := prog_3_method_9_code
def y_R_becomeBackup : MethodName := ⟨RX1, "becomeBackup", "()V"⟩
abbrev b_R_advertise : ByteArray := prog_3_method_10_code
def y_R_advertise : MethodName := ⟨RX1, "advertise", "(I)V"⟩
abbrev b_R_sendEmpty : ByteArray := prog_3_method_11_code
def y_R_sendEmpty : MethodName := ⟨RX1, "sendEmpty", "(III)V"⟩
abbrev b_R_sendPacket : ByteArray := prog_3_method_12_code
def y_R_sendPacket : MethodName := ⟨RX1, "sendPacket", "(LStandInLan$Session;I)V"⟩
abbrev b_R_sendDraft : ByteArray := prog_3_method_13_code
def y_R_sendDraft : MethodName := ⟨RX1, "sendDraft", "()V"⟩
abbrev b_R_minds : ByteArray := prog_3_method_14_code
def y_R_minds : MethodName := ⟨RX1, "minds", "(LStandInLan$Frame;)Z"⟩
abbrev b_R_hear : ByteArray := prog_3_method_15_code
def y_R_hear : MethodName := ⟨RX1, "hear", "(LStandInLan$Frame;)Z"⟩
abbrev b_R_isForUs : ByteArray := prog_3_method_16_code
def y_R_isForUs : MethodName := ⟨RX1, "isForUs", "(LStandInLan$Frame;)Z"⟩
abbrev b_R_hearAsBackup : ByteArray := prog_3_method_17_code
def y_R_hearAsBackup : MethodName := ⟨RX1, "hearAsBackup", "(LStandInLan$Frame;)V"⟩
abbrev b_R_hearAsActive : ByteArray := prog_3_method_18_code
def y_R_hearAsActive : MethodName := ⟨RX1, "hearAsActive", "(LStandInLan$Frame;)V"⟩
abbrev b_R_intervalIn : ByteArray := prog_3_method_19_code
def y_R_intervalIn : MethodName := ⟨RX1, "intervalIn", "(LStandInLan$Frame;)I"⟩
abbrev b_R_isAbove : ByteArray := prog_3_method_20_code
def y_R_isAbove : MethodName := ⟨RX1, "isAbove", "(II)Z"⟩
abbrev b_R_hearPacket : ByteArray := prog_3_method_21_code
def y_R_hearPacket : MethodName := ⟨RX1, "hearPacket", "(LStandInLan$Frame;)Z"⟩
abbrev b_R_isWhole : ByteArray := prog_3_method_22_code
def y_R_isWhole : MethodName := ⟨RX1, "isWhole", "(LStandInLan$Frame;)Z"⟩
abbrev b_R_sessionMeant : ByteArray := prog_3_method_23_code
def y_R_sessionMeant : MethodName := ⟨RX1, "sessionMeant", "(LStandInLan$Frame;)LStandInLan$Session;"⟩
abbrev b_R_runTimers : ByteArray := prog_3_method_24_code
def y_R_runTimers : MethodName := ⟨RX1, "runTimers", "()V"⟩
abbrev b_R_timerFires : ByteArray := prog_3_method_25_code
def y_R_timerFires : MethodName := ⟨RX1, "timerFires", "()V"⟩
abbrev b_R_runSession : ByteArray := prog_3_method_26_code
def y_R_runSession : MethodName := ⟨RX1, "runSession", "(LStandInLan$Session;)V"⟩
abbrev b_S_init : ByteArray := prog_4_method_1_code
def y_S_init : MethodName := ⟨RX2, "<init>", "(II)V"⟩
abbrev b_S_begin : ByteArray := prog_4_method_2_code
def y_S_begin : MethodName := ⟨RX2, "begin", "(III)V"⟩
abbrev b_S_wantRates : ByteArray := prog_4_method_3_code
def y_S_wantRates : MethodName := ⟨RX2, "wantRates", "(II)V"⟩
abbrev b_S_shut : ByteArray := prog_4_method_4_code
def y_S_shut : MethodName := ⟨RX2, "shut", "()V"⟩
abbrev b_S_useRates : ByteArray := prog_4_method_5_code
def y_S_useRates : MethodName := ⟨RX2, "useRates", "()V"⟩
abbrev b_S_slowed : ByteArray := prog_4_method_6_code
def y_S_slowed : MethodName := ⟨RX2, "slowed", "(I)I"⟩
abbrev b_S_sendPause : ByteArray := prog_4_method_7_code
def y_S_sendPause : MethodName := ⟨RX2, "sendPause", "()I"⟩
abbrev b_S_hurrySend : ByteArray := prog_4_method_8_code
def y_S_hurrySend : MethodName := ⟨RX2, "hurrySend", "()V"⟩
abbrev b_S_learn : ByteArray := prog_4_method_9_code
def y_S_learn : MethodName := ⟨RX2, "learn", "(LStandInLan$Frame;)Z"⟩
abbrev b_S_told : ByteArray := prog_4_method_10_code
def y_S_told : MethodName := ⟨RX2, "told", "(I)I"⟩
abbrev b_S_follow : ByteArray := prog_4_method_11_code
def y_S_follow : MethodName := ⟨RX2, "follow", "()V"⟩
abbrev b_S_comeUp : ByteArray := prog_4_method_12_code
def y_S_comeUp : MethodName := ⟨RX2, "comeUp", "()V"⟩
abbrev b_S_fall : ByteArray := prog_4_method_13_code
def y_S_fall : MethodName := ⟨RX2, "fall", "(I)V"⟩
abbrev b_S_runDetect : ByteArray := prog_4_method_14_code
def y_S_runDetect : MethodName := ⟨RX2, "runDetect", "()V"⟩
abbrev b_S_sendFires : ByteArray := prog_4_method_15_code
def y_S_sendFires : MethodName := ⟨RX2, "sendFires", "()Z"⟩
abbrev b_S_tell : ByteArray := prog_4_method_16_code
def y_S_tell : MethodName := ⟨RX2, "tell", "(I)I"⟩
abbrev b_W_init : ByteArray := prog_5_method_1_code
def y_W_init : MethodName := ⟨RX3, "<init>", "()V"⟩
abbrev b_W_placeOf : ByteArray := prog_5_method_2_code
def y_W_placeOf : MethodName := ⟨RX3, "placeOf", "(I)I"⟩
abbrev b_W_countDue : ByteArray := prog_5_method_3_code
def y_W_countDue : MethodName := ⟨RX3, "countDue", "()I"⟩
abbrev b_W_takeDue : ByteArray := prog_5_method_4_code
def y_W_takeDue : MethodName := ⟨RX3, "takeDue", "()LStandInLan$Frame;"⟩
abbrev b_W_newDraft : ByteArray := prog_5_method_5_code
def y_W_newDraft : MethodName := ⟨RX3, "newDraft", "(IIII)LStandInLan$Frame;"⟩
abbrev b_W_carryDraft : ByteArray := prog_5_method_6_code
def y_W_carryDraft : MethodName := ⟨RX3, "carryDraft", "(II)V"⟩
abbrev b_J_set : ByteArray := method_3_code
def y_J_set : MethodName := ⟨RXL, "set", "(LStandInLan;III)I"⟩
abbrev b_J_start : ByteArray := method_4_code
def y_J_start : MethodName := ⟨RXL, "start", "(LStandInLan;I)I"⟩
abbrev b_J_stop : ByteArray := method_5_code
def y_J_stop : MethodName := ⟨RXL, "stop", "(LStandInLan;IZ)I"⟩
abbrev b_J_open : ByteArray := method_6_code
def y_J_open : MethodName := ⟨RXL, "open", "(LStandInLan;IIIII)I"⟩
abbrev b_J_change : ByteArray := method_7_code
def y_J_change : MethodName := ⟨RXL, "change", "(LStandInLan;IIII)I"⟩
abbrev b_J_ask : ByteArray := method_8_code
def y_J_ask : MethodName := ⟨RXL, "ask", "(LStandInLan;I)I"⟩
abbrev b_J_tick : ByteArray := method_9_code
def y_J_tick : MethodName := ⟨RXL, "tick", "(LStandInLan;I[J)I"⟩
abbrev b_J_arrive : ByteArray := method_10_code
def y_J_arrive : MethodName := ⟨RXL, "arrive", "(LStandInLan;IIIII[J)I"⟩
abbrev b_J_law : ByteArray := code
def y_J_law : MethodName := ⟨RXL, "law", "([I)Z"⟩
end
section
theorem d_F_init_0 : decode b_F_init 0 = .ok (.aload_n 0, 1) := by decide +kernel
theorem d_F_init_1 : decode b_F_init 1 = .ok (.invokespecial 3, 3) := by decide +kernel
theorem d_F_init_4 : decode b_F_init 4 = .ok (.aload_n 0, 1) := by decide +kernel
theorem d_F_init_5 : decode b_F_init 5 = .ok (.bipush 40, 2) := by decide +kernel
theorem d_F_init_7 : decode b_F_init 7 = .ok (.newarray .int, 2) := by decide +kernel
theorem d_F_init_9 : decode b_F_init 9 = .ok (.putfield 9, 3) := by decide +kernel
theorem d_F_init_12 : decode b_F_init 12 = .ok (.return_, 1) := by decide +kernel
theorem d_F_put_0 : decode b_F_put 0 = .ok (.aload_n 0, 1) := by decide +kernel
theorem d_F_put_1 : decode b_F_put 1 = .ok (.getfield 15, 3) := by decide +kernel
theorem d_F_put_4 : decode b_F_put 4 = .ok (.ifCond .lt 39, 3) := by decide +kernel
theorem d_F_put_7 : decode b_F_put 7 = .ok (.aload_n 0, 1) := by decide +kernel
theorem d_F_put_8 : decode b_F_put 8 = .ok (.getfield 15, 3) := by decide +kernel
theorem d_F_put_11 : decode b_F_put 11 = .ok (.aload_n 0, 1) := by decide +kernel
theorem d_F_put_12 : decode b_F_put 12 = .ok (.getfield 9, 3) := by decide +kernel
theorem d_F_put_15 : decode b_F_put 15 = .ok (.arraylength, 1) := by decide +kernel
theorem d_F_put_16 : decode b_F_put 16 = .ok (.if_icmp .ge 27, 3) := by decide +kernel
theorem d_F_put_19 : decode b_F_put 19 = .ok (.aload_n 0, 1) := by decide +kernel
theorem d_F_put_20 : decode b_F_put 20 = .ok (.getfield 9, 3) := by decide +kernel
theorem d_F_put_23 : decode b_F_put 23 = .ok (.aload_n 0, 1) := by decide +kernel
theorem d_F_put_24 : decode b_F_put 24 = .ok (.getfield 15, 3) := by decide +kernel
theorem d_F_put_27 : decode b_F_put 27 = .ok (.iload_n 1, 1) := by decide +kernel
theorem d_F_put_28 : decode b_F_put 28 = .ok (.sipush 255, 3) := by decide +kernel
theorem d_F_put_31 : decode b_F_put 31 = .ok (.iand, 1) := by decide +kernel
theorem d_F_put_32 : decode b_F_put 32 = .ok (.iastore, 1) := by decide +kernel
theorem d_F_put_33 : decode b_F_put 33 = .ok (.aload_n 0, 1) := by decide +kernel
theorem d_F_put_34 : decode b_F_put 34 = .ok (.dup, 1) := by decide +kernel
theorem d_F_put_35 : decode b_F_put 35 = .ok (.getfield 15, 3) := by decide +kernel
theorem d_F_put_38 : decode b_F_put 38 = .ok (.iconst 1, 1) := by decide +kernel
theorem d_F_put_39 : decode b_F_put 39 = .ok (.iadd, 1) := by decide +kernel
theorem d_F_put_40 : decode b_F_put 40 = .ok (.putfield 15, 3) := by decide +kernel
theorem d_F_put_43 : decode b_F_put 43 = .ok (.return_, 1) := by decide +kernel
theorem d_F_putTwo_0 : decode b_F_putTwo 0 = .ok (.aload_n 0, 1) := by decide +kernel
theorem d_F_putTwo_1 : decode b_F_putTwo 1 = .ok (.iload_n 1, 1) := by decide +kernel
theorem d_F_putTwo_2 : decode b_F_putTwo 2 = .ok (.bipush 8, 2) := by decide +kernel
theorem d_F_putTwo_4 : decode b_F_putTwo 4 = .ok (.iushr, 1) := by decide +kernel
theorem d_F_putTwo_5 : decode b_F_putTwo 5 = .ok (.invokevirtual 19, 3) := by decide +kernel
theorem d_F_putTwo_8 : decode b_F_putTwo 8 = .ok (.aload_n 0, 1) := by decide +kernel
theorem d_F_putTwo_9 : decode b_F_putTwo 9 = .ok (.iload_n 1, 1) := by decide +kernel
theorem d_F_putTwo_10 : decode b_F_putTwo 10 = .ok (.invokevirtual 19, 3) := by decide +kernel
theorem d_F_putTwo_13 : decode b_F_putTwo 13 = .ok (.return_, 1) := by decide +kernel
theorem d_F_putFour_0 : decode b_F_putFour 0 = .ok (.aload_n 0, 1) := by decide +kernel
theorem d_F_putFour_1 : decode b_F_putFour 1 = .ok (.iload_n 1, 1) := by decide +kernel
theorem d_F_putFour_2 : decode b_F_putFour 2 = .ok (.bipush 24, 2) := by decide +kernel
theorem d_F_putFour_4 : decode b_F_putFour 4 = .ok (.iushr, 1) := by decide +kernel
theorem d_F_putFour_5 : decode b_F_putFour 5 = .ok (.invokevirtual 19, 3) := by decide +kernel
theorem d_F_putFour_8 : decode b_F_putFour 8 = .ok (.aload_n 0, 1) := by decide +kernel
theorem d_F_putFour_9 : decode b_F_putFour 9 = .ok (.iload_n 1, 1) := by decide +kernel
theorem d_F_putFour_10 : decode b_F_putFour 10 = .ok (.bipush 16, 2) := by decide +kernel
theorem d_F_putFour_12 : decode b_F_putFour 12 = .ok (.iushr, 1) := by decide +kernel
theorem d_F_putFour_13 : decode b_F_putFour 13 = .ok (.invokevirtual 19, 3) := by decide +kernel
theorem d_F_putFour_16 : decode b_F_putFour 16 = .ok (.aload_n 0, 1) := by decide +kernel
theorem d_F_putFour_17 : decode b_F_putFour 17 = .ok (.iload_n 1, 1) := by decide +kernel
theorem d_F_putFour_18 : decode b_F_putFour 18 = .ok (.bipush 8, 2) := by decide +kernel
theorem d_F_putFour_20 : decode b_F_putFour 20 = .ok (.iushr, 1) := by decide +kernel
theorem d_F_putFour_21 : decode b_F_putFour 21 = .ok (.invokevirtual 19, 3) := by decide +kernel
theorem d_F_putFour_24 : decode b_F_putFour 24 = .ok (.aload_n 0, 1) := by decide +kernel
theorem d_F_putFour_25 : decode b_F_putFour 25 = .ok (.iload_n 1, 1) := by decide +kernel
theorem d_F_putFour_26 : decode b_F_putFour 26 = .ok (.invokevirtual 19, 3) := by decide +kernel
theorem d_F_putFour_29 : decode b_F_putFour 29 = .ok (.return_, 1) := by decide +kernel
theorem d_F_byteAt_0 : decode b_F_byteAt 0 = .ok (.iload_n 1, 1) := by decide +kernel
theorem d_F_byteAt_1 : decode b_F_byteAt 1 = .ok (.ifCond .lt 29, 3) := by decide +kernel
theorem d_F_byteAt_4 : decode b_F_byteAt 4 = .ok (.iload_n 1, 1) := by decide +kernel
theorem d_F_byteAt_5 : decode b_F_byteAt 5 = .ok (.aload_n 0, 1) := by decide +kernel
theorem d_F_byteAt_6 : decode b_F_byteAt 6 = .ok (.getfield 15, 3) := by decide +kernel
theorem d_F_byteAt_9 : decode b_F_byteAt 9 = .ok (.if_icmp .ge 21, 3) := by decide +kernel
theorem d_F_byteAt_12 : decode b_F_byteAt 12 = .ok (.iload_n 1, 1) := by decide +kernel
theorem d_F_byteAt_13 : decode b_F_byteAt 13 = .ok (.aload_n 0, 1) := by decide +kernel
theorem d_F_byteAt_14 : decode b_F_byteAt 14 = .ok (.getfield 9, 3) := by decide +kernel
theorem d_F_byteAt_17 : decode b_F_byteAt 17 = .ok (.arraylength, 1) := by decide +kernel
theorem d_F_byteAt_18 : decode b_F_byteAt 18 = .ok (.if_icmp .ge 12, 3) := by decide +kernel
theorem d_F_byteAt_21 : decode b_F_byteAt 21 = .ok (.aload_n 0, 1) := by decide +kernel
theorem d_F_byteAt_22 : decode b_F_byteAt 22 = .ok (.getfield 9, 3) := by decide +kernel
theorem d_F_byteAt_25 : decode b_F_byteAt 25 = .ok (.iload_n 1, 1) := by decide +kernel
theorem d_F_byteAt_26 : decode b_F_byteAt 26 = .ok (.iaload, 1) := by decide +kernel
theorem d_F_byteAt_27 : decode b_F_byteAt 27 = .ok (.goto 4, 3) := by decide +kernel
theorem d_F_byteAt_30 : decode b_F_byteAt 30 = .ok (.iconst (-1), 1) := by decide +kernel
theorem d_F_byteAt_31 : decode b_F_byteAt 31 = .ok (.ireturn, 1) := by decide +kernel
theorem d_F_twoAt_0 : decode b_F_twoAt 0 = .ok (.aload_n 0, 1) := by decide +kernel
theorem d_F_twoAt_1 : decode b_F_twoAt 1 = .ok (.iload_n 1, 1) := by decide +kernel
theorem d_F_twoAt_2 : decode b_F_twoAt 2 = .ok (.invokevirtual 23, 3) := by decide +kernel
theorem d_F_twoAt_5 : decode b_F_twoAt 5 = .ok (.bipush 8, 2) := by decide +kernel
theorem d_F_twoAt_7 : decode b_F_twoAt 7 = .ok (.ishl, 1) := by decide +kernel
theorem d_F_twoAt_8 : decode b_F_twoAt 8 = .ok (.aload_n 0, 1) := by decide +kernel
theorem d_F_twoAt_9 : decode b_F_twoAt 9 = .ok (.iload_n 1, 1) := by decide +kernel
theorem d_F_twoAt_10 : decode b_F_twoAt 10 = .ok (.iconst 1, 1) := by decide +kernel
theorem d_F_twoAt_11 : decode b_F_twoAt 11 = .ok (.iadd, 1) := by decide +kernel
theorem d_F_twoAt_12 : decode b_F_twoAt 12 = .ok (.invokevirtual 23, 3) := by decide +kernel
theorem d_F_twoAt_15 : decode b_F_twoAt 15 = .ok (.ior, 1) := by decide +kernel
theorem d_F_twoAt_16 : decode b_F_twoAt 16 = .ok (.ireturn, 1) := by decide +kernel
theorem d_F_fourAt_0 : decode b_F_fourAt 0 = .ok (.aload_n 0, 1) := by decide +kernel
theorem d_F_fourAt_1 : decode b_F_fourAt 1 = .ok (.iload_n 1, 1) := by decide +kernel
theorem d_F_fourAt_2 : decode b_F_fourAt 2 = .ok (.invokevirtual 23, 3) := by decide +kernel
theorem d_F_fourAt_5 : decode b_F_fourAt 5 = .ok (.bipush 24, 2) := by decide +kernel
theorem d_F_fourAt_7 : decode b_F_fourAt 7 = .ok (.ishl, 1) := by decide +kernel
theorem d_F_fourAt_8 : decode b_F_fourAt 8 = .ok (.aload_n 0, 1) := by decide +kernel
theorem d_F_fourAt_9 : decode b_F_fourAt 9 = .ok (.iload_n 1, 1) := by decide +kernel
theorem d_F_fourAt_10 : decode b_F_fourAt 10 = .ok (.iconst 1, 1) := by decide +kernel
theorem d_F_fourAt_11 : decode b_F_fourAt 11 = .ok (.iadd, 1) := by decide +kernel
theorem d_F_fourAt_12 : decode b_F_fourAt 12 = .ok (.invokevirtual 23, 3) := by decide +kernel
theorem d_F_fourAt_15 : decode b_F_fourAt 15 = .ok (.bipush 16, 2) := by decide +kernel
theorem d_F_fourAt_17 : decode b_F_fourAt 17 = .ok (.ishl, 1) := by decide +kernel
theorem d_F_fourAt_18 : decode b_F_fourAt 18 = .ok (.ior, 1) := by decide +kernel
theorem d_F_fourAt_19 : decode b_F_fourAt 19 = .ok (.aload_n 0, 1) := by decide +kernel
theorem d_F_fourAt_20 : decode b_F_fourAt 20 = .ok (.iload_n 1, 1) := by decide +kernel
theorem d_F_fourAt_21 : decode b_F_fourAt 21 = .ok (.iconst 2, 1) := by decide +kernel
theorem d_F_fourAt_22 : decode b_F_fourAt 22 = .ok (.iadd, 1) := by decide +kernel
theorem d_F_fourAt_23 : decode b_F_fourAt 23 = .ok (.invokevirtual 23, 3) := by decide +kernel
theorem d_F_fourAt_26 : decode b_F_fourAt 26 = .ok (.bipush 8, 2) := by decide +kernel
theorem d_F_fourAt_28 : decode b_F_fourAt 28 = .ok (.ishl, 1) := by decide +kernel
theorem d_F_fourAt_29 : decode b_F_fourAt 29 = .ok (.ior, 1) := by decide +kernel
theorem d_F_fourAt_30 : decode b_F_fourAt 30 = .ok (.aload_n 0, 1) := by decide +kernel
theorem d_F_fourAt_31 : decode b_F_fourAt 31 = .ok (.iload_n 1, 1) := by decide +kernel
theorem d_F_fourAt_32 : decode b_F_fourAt 32 = .ok (.iconst 3, 1) := by decide +kernel
theorem d_F_fourAt_33 : decode b_F_fourAt 33 = .ok (.iadd, 1) := by decide +kernel
theorem d_F_fourAt_34 : decode b_F_fourAt 34 = .ok (.invokevirtual 23, 3) := by decide +kernel
theorem d_F_fourAt_37 : decode b_F_fourAt 37 = .ok (.ior, 1) := by decide +kernel
theorem d_F_fourAt_38 : decode b_F_fourAt 38 = .ok (.ireturn, 1) := by decide +kernel
theorem d_F_sum_0 : decode b_F_sum 0 = .ok (.aload_n 0, 1) := by decide +kernel
theorem d_F_sum_1 : decode b_F_sum 1 = .ok (.getfield 27, 3) := by decide +kernel
theorem d_F_sum_4 : decode b_F_sum 4 = .ok (.bipush 16, 2) := by decide +kernel
theorem d_F_sum_6 : decode b_F_sum 6 = .ok (.iushr, 1) := by decide +kernel
theorem d_F_sum_7 : decode b_F_sum 7 = .ok (.aload_n 0, 1) := by decide +kernel
theorem d_F_sum_8 : decode b_F_sum 8 = .ok (.getfield 27, 3) := by decide +kernel
theorem d_F_sum_11 : decode b_F_sum 11 = .ok (.ldc 30, 2) := by decide +kernel
theorem d_F_sum_13 : decode b_F_sum 13 = .ok (.iand, 1) := by decide +kernel
theorem d_F_sum_14 : decode b_F_sum 14 = .ok (.iadd, 1) := by decide +kernel
theorem d_F_sum_15 : decode b_F_sum 15 = .ok (.ldc 31, 2) := by decide +kernel
theorem d_F_sum_17 : decode b_F_sum 17 = .ok (.iadd, 1) := by decide +kernel
theorem d_F_sum_18 : decode b_F_sum 18 = .ok (.bipush 18, 2) := by decide +kernel
theorem d_F_sum_20 : decode b_F_sum 20 = .ok (.iadd, 1) := by decide +kernel
theorem d_F_sum_21 : decode b_F_sum 21 = .ok (.bipush 112, 2) := by decide +kernel
theorem d_F_sum_23 : decode b_F_sum 23 = .ok (.iadd, 1) := by decide +kernel
theorem d_F_sum_24 : decode b_F_sum 24 = .ok (.bipush 12, 2) := by decide +kernel
theorem d_F_sum_26 : decode b_F_sum 26 = .ok (.iadd, 1) := by decide +kernel
theorem d_F_sum_27 : decode b_F_sum 27 = .ok (.istore_n 1, 1) := by decide +kernel
theorem d_F_sum_28 : decode b_F_sum 28 = .ok (.iconst 0, 1) := by decide +kernel
theorem d_F_sum_29 : decode b_F_sum 29 = .ok (.istore_n 2, 1) := by decide +kernel
theorem d_F_sum_30 : decode b_F_sum 30 = .ok (.iload_n 2, 1) := by decide +kernel
theorem d_F_sum_31 : decode b_F_sum 31 = .ok (.iconst 1, 1) := by decide +kernel
theorem d_F_sum_32 : decode b_F_sum 32 = .ok (.iadd, 1) := by decide +kernel
theorem d_F_sum_33 : decode b_F_sum 33 = .ok (.aload_n 0, 1) := by decide +kernel
theorem d_F_sum_34 : decode b_F_sum 34 = .ok (.getfield 15, 3) := by decide +kernel
theorem d_F_sum_37 : decode b_F_sum 37 = .ok (.if_icmp .ge 42, 3) := by decide +kernel
theorem d_F_sum_40 : decode b_F_sum 40 = .ok (.iload_n 2, 1) := by decide +kernel
theorem d_F_sum_41 : decode b_F_sum 41 = .ok (.iconst 1, 1) := by decide +kernel
theorem d_F_sum_42 : decode b_F_sum 42 = .ok (.iadd, 1) := by decide +kernel
theorem d_F_sum_43 : decode b_F_sum 43 = .ok (.aload_n 0, 1) := by decide +kernel
theorem d_F_sum_44 : decode b_F_sum 44 = .ok (.getfield 9, 3) := by decide +kernel
theorem d_F_sum_47 : decode b_F_sum 47 = .ok (.arraylength, 1) := by decide +kernel
theorem d_F_sum_48 : decode b_F_sum 48 = .ok (.if_icmp .ge 31, 3) := by decide +kernel
theorem d_F_sum_51 : decode b_F_sum 51 = .ok (.iload_n 1, 1) := by decide +kernel
theorem d_F_sum_52 : decode b_F_sum 52 = .ok (.aload_n 0, 1) := by decide +kernel
theorem d_F_sum_53 : decode b_F_sum 53 = .ok (.getfield 9, 3) := by decide +kernel
theorem d_F_sum_56 : decode b_F_sum 56 = .ok (.iload_n 2, 1) := by decide +kernel
theorem d_F_sum_57 : decode b_F_sum 57 = .ok (.iaload, 1) := by decide +kernel
theorem d_F_sum_58 : decode b_F_sum 58 = .ok (.sipush 256, 3) := by decide +kernel
theorem d_F_sum_61 : decode b_F_sum 61 = .ok (.imul, 1) := by decide +kernel
theorem d_F_sum_62 : decode b_F_sum 62 = .ok (.aload_n 0, 1) := by decide +kernel
theorem d_F_sum_63 : decode b_F_sum 63 = .ok (.getfield 9, 3) := by decide +kernel
theorem d_F_sum_66 : decode b_F_sum 66 = .ok (.iload_n 2, 1) := by decide +kernel
theorem d_F_sum_67 : decode b_F_sum 67 = .ok (.iconst 1, 1) := by decide +kernel
theorem d_F_sum_68 : decode b_F_sum 68 = .ok (.iadd, 1) := by decide +kernel
theorem d_F_sum_69 : decode b_F_sum 69 = .ok (.iaload, 1) := by decide +kernel
theorem d_F_sum_70 : decode b_F_sum 70 = .ok (.iadd, 1) := by decide +kernel
theorem d_F_sum_71 : decode b_F_sum 71 = .ok (.iadd, 1) := by decide +kernel
theorem d_F_sum_72 : decode b_F_sum 72 = .ok (.istore_n 1, 1) := by decide +kernel
theorem d_F_sum_73 : decode b_F_sum 73 = .ok (.iinc 2 2, 3) := by decide +kernel
theorem d_F_sum_76 : decode b_F_sum 76 = .ok (.goto (-46), 3) := by decide +kernel
theorem d_F_sum_79 : decode b_F_sum 79 = .ok (.iconst 0, 1) := by decide +kernel
theorem d_F_sum_80 : decode b_F_sum 80 = .ok (.istore_n 2, 1) := by decide +kernel
theorem d_F_sum_81 : decode b_F_sum 81 = .ok (.iload_n 2, 1) := by decide +kernel
theorem d_F_sum_82 : decode b_F_sum 82 = .ok (.iconst 4, 1) := by decide +kernel
theorem d_F_sum_83 : decode b_F_sum 83 = .ok (.if_icmp .ge 25, 3) := by decide +kernel
theorem d_F_sum_86 : decode b_F_sum 86 = .ok (.iload_n 1, 1) := by decide +kernel
theorem d_F_sum_87 : decode b_F_sum 87 = .ok (.ldc 30, 2) := by decide +kernel
theorem d_F_sum_89 : decode b_F_sum 89 = .ok (.if_icmp .le 19, 3) := by decide +kernel
theorem d_F_sum_92 : decode b_F_sum 92 = .ok (.iload_n 1, 1) := by decide +kernel
theorem d_F_sum_93 : decode b_F_sum 93 = .ok (.ldc 32, 2) := by decide +kernel
theorem d_F_sum_95 : decode b_F_sum 95 = .ok (.idiv, 1) := by decide +kernel
theorem d_F_sum_96 : decode b_F_sum 96 = .ok (.iload_n 1, 1) := by decide +kernel
theorem d_F_sum_97 : decode b_F_sum 97 = .ok (.ldc 32, 2) := by decide +kernel
theorem d_F_sum_99 : decode b_F_sum 99 = .ok (.irem, 1) := by decide +kernel
theorem d_F_sum_100 : decode b_F_sum 100 = .ok (.iadd, 1) := by decide +kernel
theorem d_F_sum_101 : decode b_F_sum 101 = .ok (.istore_n 1, 1) := by decide +kernel
theorem d_F_sum_102 : decode b_F_sum 102 = .ok (.iinc 2 1, 3) := by decide +kernel
theorem d_F_sum_105 : decode b_F_sum 105 = .ok (.goto (-24), 3) := by decide +kernel
theorem d_F_sum_108 : decode b_F_sum 108 = .ok (.iload_n 1, 1) := by decide +kernel
theorem d_F_sum_109 : decode b_F_sum 109 = .ok (.ireturn, 1) := by decide +kernel
theorem d_F_putCheckAt_0 : decode b_F_putCheckAt 0 = .ok (.ldc 30, 2) := by decide +kernel
theorem d_F_putCheckAt_2 : decode b_F_putCheckAt 2 = .ok (.aload_n 0, 1) := by decide +kernel
theorem d_F_putCheckAt_3 : decode b_F_putCheckAt 3 = .ok (.invokevirtual 33, 3) := by decide +kernel
theorem d_F_putCheckAt_6 : decode b_F_putCheckAt 6 = .ok (.isub, 1) := by decide +kernel
theorem d_F_putCheckAt_7 : decode b_F_putCheckAt 7 = .ok (.istore_n 2, 1) := by decide +kernel
theorem d_F_putCheckAt_8 : decode b_F_putCheckAt 8 = .ok (.iload_n 1, 1) := by decide +kernel
theorem d_F_putCheckAt_9 : decode b_F_putCheckAt 9 = .ok (.ifCond .lt 47, 3) := by decide +kernel
theorem d_F_putCheckAt_12 : decode b_F_putCheckAt 12 = .ok (.iload_n 1, 1) := by decide +kernel
theorem d_F_putCheckAt_13 : decode b_F_putCheckAt 13 = .ok (.iconst 1, 1) := by decide +kernel
theorem d_F_putCheckAt_14 : decode b_F_putCheckAt 14 = .ok (.iadd, 1) := by decide +kernel
theorem d_F_putCheckAt_15 : decode b_F_putCheckAt 15 = .ok (.aload_n 0, 1) := by decide +kernel
theorem d_F_putCheckAt_16 : decode b_F_putCheckAt 16 = .ok (.getfield 15, 3) := by decide +kernel
theorem d_F_putCheckAt_19 : decode b_F_putCheckAt 19 = .ok (.if_icmp .ge 37, 3) := by decide +kernel
theorem d_F_putCheckAt_22 : decode b_F_putCheckAt 22 = .ok (.iload_n 1, 1) := by decide +kernel
theorem d_F_putCheckAt_23 : decode b_F_putCheckAt 23 = .ok (.iconst 1, 1) := by decide +kernel
theorem d_F_putCheckAt_24 : decode b_F_putCheckAt 24 = .ok (.iadd, 1) := by decide +kernel
theorem d_F_putCheckAt_25 : decode b_F_putCheckAt 25 = .ok (.aload_n 0, 1) := by decide +kernel
theorem d_F_putCheckAt_26 : decode b_F_putCheckAt 26 = .ok (.getfield 9, 3) := by decide +kernel
theorem d_F_putCheckAt_29 : decode b_F_putCheckAt 29 = .ok (.arraylength, 1) := by decide +kernel
theorem d_F_putCheckAt_30 : decode b_F_putCheckAt 30 = .ok (.if_icmp .ge 26, 3) := by decide +kernel
theorem d_F_putCheckAt_33 : decode b_F_putCheckAt 33 = .ok (.aload_n 0, 1) := by decide +kernel
theorem d_F_putCheckAt_34 : decode b_F_putCheckAt 34 = .ok (.getfield 9, 3) := by decide +kernel
theorem d_F_putCheckAt_37 : decode b_F_putCheckAt 37 = .ok (.iload_n 1, 1) := by decide +kernel
theorem d_F_putCheckAt_38 : decode b_F_putCheckAt 38 = .ok (.iload_n 2, 1) := by decide +kernel
theorem d_F_putCheckAt_39 : decode b_F_putCheckAt 39 = .ok (.bipush 8, 2) := by decide +kernel
theorem d_F_putCheckAt_41 : decode b_F_putCheckAt 41 = .ok (.iushr, 1) := by decide +kernel
theorem d_F_putCheckAt_42 : decode b_F_putCheckAt 42 = .ok (.iastore, 1) := by decide +kernel
theorem d_F_putCheckAt_43 : decode b_F_putCheckAt 43 = .ok (.aload_n 0, 1) := by decide +kernel
theorem d_F_putCheckAt_44 : decode b_F_putCheckAt 44 = .ok (.getfield 9, 3) := by decide +kernel
theorem d_F_putCheckAt_47 : decode b_F_putCheckAt 47 = .ok (.iload_n 1, 1) := by decide +kernel
theorem d_F_putCheckAt_48 : decode b_F_putCheckAt 48 = .ok (.iconst 1, 1) := by decide +kernel
theorem d_F_putCheckAt_49 : decode b_F_putCheckAt 49 = .ok (.iadd, 1) := by decide +kernel
theorem d_F_putCheckAt_50 : decode b_F_putCheckAt 50 = .ok (.iload_n 2, 1) := by decide +kernel
theorem d_F_putCheckAt_51 : decode b_F_putCheckAt 51 = .ok (.sipush 255, 3) := by decide +kernel
theorem d_F_putCheckAt_54 : decode b_F_putCheckAt 54 = .ok (.iand, 1) := by decide +kernel
theorem d_F_putCheckAt_55 : decode b_F_putCheckAt 55 = .ok (.iastore, 1) := by decide +kernel
theorem d_F_putCheckAt_56 : decode b_F_putCheckAt 56 = .ok (.return_, 1) := by decide +kernel
end
section
theorem d_R_init_0 : decode b_R_init 0 = .ok (.aload_n 0, 1) := by decide +kernel
theorem d_R_init_1 : decode b_R_init 1 = .ok (.invokespecial 3, 3) := by decide +kernel
theorem d_R_init_4 : decode b_R_init 4 = .ok (.aload_n 0, 1) := by decide +kernel
theorem d_R_init_5 : decode b_R_init 5 = .ok (.iload_n 1, 1) := by decide +kernel
theorem d_R_init_6 : decode b_R_init 6 = .ok (.putfield 9, 3) := by decide +kernel
theorem d_R_init_9 : decode b_R_init 9 = .ok (.aload_n 0, 1) := by decide +kernel
theorem d_R_init_10 : decode b_R_init 10 = .ok (.aload_n 2, 1) := by decide +kernel
theorem d_R_init_11 : decode b_R_init 11 = .ok (.putfield 15, 3) := by decide +kernel
theorem d_R_init_14 : decode b_R_init 14 = .ok (.aload_n 0, 1) := by decide +kernel
theorem d_R_init_15 : decode b_R_init 15 = .ok (.bipush 10, 2) := by decide +kernel
theorem d_R_init_17 : decode b_R_init 17 = .ok (.newarray .int, 2) := by decide +kernel
theorem d_R_init_19 : decode b_R_init 19 = .ok (.dup, 1) := by decide +kernel
theorem d_R_init_20 : decode b_R_init 20 = .ok (.iconst 0, 1) := by decide +kernel
theorem d_R_init_21 : decode b_R_init 21 = .ok (.bipush 100, 2) := by decide +kernel
theorem d_R_init_23 : decode b_R_init 23 = .ok (.iastore, 1) := by decide +kernel
theorem d_R_init_24 : decode b_R_init 24 = .ok (.dup, 1) := by decide +kernel
theorem d_R_init_25 : decode b_R_init 25 = .ok (.iconst 1, 1) := by decide +kernel
theorem d_R_init_26 : decode b_R_init 26 = .ok (.bipush 100, 2) := by decide +kernel
theorem d_R_init_28 : decode b_R_init 28 = .ok (.iastore, 1) := by decide +kernel
theorem d_R_init_29 : decode b_R_init 29 = .ok (.dup, 1) := by decide +kernel
theorem d_R_init_30 : decode b_R_init 30 = .ok (.iconst 2, 1) := by decide +kernel
theorem d_R_init_31 : decode b_R_init 31 = .ok (.iconst 1, 1) := by decide +kernel
theorem d_R_init_32 : decode b_R_init 32 = .ok (.iastore, 1) := by decide +kernel
theorem d_R_init_33 : decode b_R_init 33 = .ok (.dup, 1) := by decide +kernel
theorem d_R_init_34 : decode b_R_init 34 = .ok (.iconst 3, 1) := by decide +kernel
theorem d_R_init_35 : decode b_R_init 35 = .ok (.iconst 1, 1) := by decide +kernel
theorem d_R_init_36 : decode b_R_init 36 = .ok (.iastore, 1) := by decide +kernel
theorem d_R_init_37 : decode b_R_init 37 = .ok (.dup, 1) := by decide +kernel
theorem d_R_init_38 : decode b_R_init 38 = .ok (.iconst 4, 1) := by decide +kernel
theorem d_R_init_39 : decode b_R_init 39 = .ok (.ldc 19, 2) := by decide +kernel
theorem d_R_init_41 : decode b_R_init 41 = .ok (.iload_n 1, 1) := by decide +kernel
theorem d_R_init_42 : decode b_R_init 42 = .ok (.iadd, 1) := by decide +kernel
theorem d_R_init_43 : decode b_R_init 43 = .ok (.iastore, 1) := by decide +kernel
theorem d_R_init_44 : decode b_R_init 44 = .ok (.dup, 1) := by decide +kernel
theorem d_R_init_45 : decode b_R_init 45 = .ok (.iconst 5, 1) := by decide +kernel
theorem d_R_init_46 : decode b_R_init 46 = .ok (.ldc 20, 2) := by decide +kernel
theorem d_R_init_48 : decode b_R_init 48 = .ok (.iastore, 1) := by decide +kernel
theorem d_R_init_49 : decode b_R_init 49 = .ok (.dup, 1) := by decide +kernel
theorem d_R_init_50 : decode b_R_init 50 = .ok (.bipush 6, 2) := by decide +kernel
theorem d_R_init_52 : decode b_R_init 52 = .ok (.iconst 1, 1) := by decide +kernel
theorem d_R_init_53 : decode b_R_init 53 = .ok (.iastore, 1) := by decide +kernel
theorem d_R_init_54 : decode b_R_init 54 = .ok (.dup, 1) := by decide +kernel
theorem d_R_init_55 : decode b_R_init 55 = .ok (.bipush 7, 2) := by decide +kernel
theorem d_R_init_57 : decode b_R_init 57 = .ok (.iconst 0, 1) := by decide +kernel
theorem d_R_init_58 : decode b_R_init 58 = .ok (.iastore, 1) := by decide +kernel
theorem d_R_init_59 : decode b_R_init 59 = .ok (.dup, 1) := by decide +kernel
theorem d_R_init_60 : decode b_R_init 60 = .ok (.bipush 8, 2) := by decide +kernel
theorem d_R_init_62 : decode b_R_init 62 = .ok (.iconst 0, 1) := by decide +kernel
theorem d_R_init_63 : decode b_R_init 63 = .ok (.iastore, 1) := by decide +kernel
theorem d_R_init_64 : decode b_R_init 64 = .ok (.dup, 1) := by decide +kernel
theorem d_R_init_65 : decode b_R_init 65 = .ok (.bipush 9, 2) := by decide +kernel
theorem d_R_init_67 : decode b_R_init 67 = .ok (.iconst 0, 1) := by decide +kernel
theorem d_R_init_68 : decode b_R_init 68 = .ok (.iastore, 1) := by decide +kernel
theorem d_R_init_69 : decode b_R_init 69 = .ok (.putfield 21, 3) := by decide +kernel
theorem d_R_init_72 : decode b_R_init 72 = .ok (.aload_n 0, 1) := by decide +kernel
theorem d_R_init_73 : decode b_R_init 73 = .ok (.iconst 5, 1) := by decide +kernel
theorem d_R_init_74 : decode b_R_init 74 = .ok (.anewarray 25, 3) := by decide +kernel
theorem d_R_init_77 : decode b_R_init 77 = .ok (.putfield 27, 3) := by decide +kernel
theorem d_R_init_80 : decode b_R_init 80 = .ok (.iconst 0, 1) := by decide +kernel
theorem d_R_init_81 : decode b_R_init 81 = .ok (.istore_n 3, 1) := by decide +kernel
theorem d_R_init_82 : decode b_R_init 82 = .ok (.iload_n 3, 1) := by decide +kernel
theorem d_R_init_83 : decode b_R_init 83 = .ok (.iconst 5, 1) := by decide +kernel
theorem d_R_init_84 : decode b_R_init 84 = .ok (.if_icmp .ge 31, 3) := by decide +kernel
theorem d_R_init_87 : decode b_R_init 87 = .ok (.aload_n 0, 1) := by decide +kernel
theorem d_R_init_88 : decode b_R_init 88 = .ok (.getfield 27, 3) := by decide +kernel
theorem d_R_init_91 : decode b_R_init 91 = .ok (.iload_n 3, 1) := by decide +kernel
theorem d_R_init_92 : decode b_R_init 92 = .ok (.new 25, 3) := by decide +kernel
theorem d_R_init_95 : decode b_R_init 95 = .ok (.dup, 1) := by decide +kernel
theorem d_R_init_96 : decode b_R_init 96 = .ok (.bipush 16, 2) := by decide +kernel
theorem d_R_init_98 : decode b_R_init 98 = .ok (.iload_n 1, 1) := by decide +kernel
theorem d_R_init_99 : decode b_R_init 99 = .ok (.imul, 1) := by decide +kernel
theorem d_R_init_100 : decode b_R_init 100 = .ok (.iload_n 3, 1) := by decide +kernel
theorem d_R_init_101 : decode b_R_init 101 = .ok (.iadd, 1) := by decide +kernel
theorem d_R_init_102 : decode b_R_init 102 = .ok (.iconst 1, 1) := by decide +kernel
theorem d_R_init_103 : decode b_R_init 103 = .ok (.iadd, 1) := by decide +kernel
theorem d_R_init_104 : decode b_R_init 104 = .ok (.iload_n 3, 1) := by decide +kernel
theorem d_R_init_105 : decode b_R_init 105 = .ok (.invokespecial 31, 3) := by decide +kernel
theorem d_R_init_108 : decode b_R_init 108 = .ok (.aastore, 1) := by decide +kernel
theorem d_R_init_109 : decode b_R_init 109 = .ok (.iinc 3 1, 3) := by decide +kernel
theorem d_R_init_112 : decode b_R_init 112 = .ok (.goto (-30), 3) := by decide +kernel
theorem d_R_init_115 : decode b_R_init 115 = .ok (.return_, 1) := by decide +kernel
theorem d_R_tell_0 : decode b_R_tell 0 = .ok (.iload_n 1, 1) := by decide +kernel
theorem d_R_tell_1 : decode b_R_tell 1 = .ok (.tableswitch 98 0 7 #[47, 52, 57, 73, 78, 83, 88, 93], 47) := by decide +kernel
theorem d_R_tell_48 : decode b_R_tell 48 = .ok (.aload_n 0, 1) := by decide +kernel
theorem d_R_tell_49 : decode b_R_tell 49 = .ok (.getfield 34, 3) := by decide +kernel
theorem d_R_tell_52 : decode b_R_tell 52 = .ok (.ireturn, 1) := by decide +kernel
theorem d_R_tell_53 : decode b_R_tell 53 = .ok (.aload_n 0, 1) := by decide +kernel
theorem d_R_tell_54 : decode b_R_tell 54 = .ok (.getfield 37, 3) := by decide +kernel
theorem d_R_tell_57 : decode b_R_tell 57 = .ok (.ireturn, 1) := by decide +kernel
theorem d_R_tell_58 : decode b_R_tell 58 = .ok (.aload_n 0, 1) := by decide +kernel
theorem d_R_tell_59 : decode b_R_tell 59 = .ok (.getfield 34, 3) := by decide +kernel
theorem d_R_tell_62 : decode b_R_tell 62 = .ok (.ifCond .ne 7, 3) := by decide +kernel
theorem d_R_tell_65 : decode b_R_tell 65 = .ok (.iconst 0, 1) := by decide +kernel
theorem d_R_tell_66 : decode b_R_tell 66 = .ok (.goto 7, 3) := by decide +kernel
theorem d_R_tell_69 : decode b_R_tell 69 = .ok (.aload_n 0, 1) := by decide +kernel
theorem d_R_tell_70 : decode b_R_tell 70 = .ok (.invokevirtual 40, 3) := by decide +kernel
theorem d_R_tell_73 : decode b_R_tell 73 = .ok (.ireturn, 1) := by decide +kernel
theorem d_R_tell_74 : decode b_R_tell 74 = .ok (.aload_n 0, 1) := by decide +kernel
theorem d_R_tell_75 : decode b_R_tell 75 = .ok (.getfield 44, 3) := by decide +kernel
theorem d_R_tell_78 : decode b_R_tell 78 = .ok (.ireturn, 1) := by decide +kernel
theorem d_R_tell_79 : decode b_R_tell 79 = .ok (.aload_n 0, 1) := by decide +kernel
theorem d_R_tell_80 : decode b_R_tell 80 = .ok (.getfield 47, 3) := by decide +kernel
theorem d_R_tell_83 : decode b_R_tell 83 = .ok (.ireturn, 1) := by decide +kernel
theorem d_R_tell_84 : decode b_R_tell 84 = .ok (.aload_n 0, 1) := by decide +kernel
theorem d_R_tell_85 : decode b_R_tell 85 = .ok (.getfield 50, 3) := by decide +kernel
theorem d_R_tell_88 : decode b_R_tell 88 = .ok (.ireturn, 1) := by decide +kernel
theorem d_R_tell_89 : decode b_R_tell 89 = .ok (.aload_n 0, 1) := by decide +kernel
theorem d_R_tell_90 : decode b_R_tell 90 = .ok (.getfield 53, 3) := by decide +kernel
theorem d_R_tell_93 : decode b_R_tell 93 = .ok (.ireturn, 1) := by decide +kernel
theorem d_R_tell_94 : decode b_R_tell 94 = .ok (.aload_n 0, 1) := by decide +kernel
theorem d_R_tell_95 : decode b_R_tell 95 = .ok (.getfield 56, 3) := by decide +kernel
theorem d_R_tell_98 : decode b_R_tell 98 = .ok (.ireturn, 1) := by decide +kernel
theorem d_R_tell_99 : decode b_R_tell 99 = .ok (.iconst (-1), 1) := by decide +kernel
theorem d_R_tell_100 : decode b_R_tell 100 = .ok (.ireturn, 1) := by decide +kernel
theorem d_R_wake_0 : decode b_R_wake 0 = .ok (.aload_n 0, 1) := by decide +kernel
theorem d_R_wake_1 : decode b_R_wake 1 = .ok (.aload_n 0, 1) := by decide +kernel
theorem d_R_wake_2 : decode b_R_wake 2 = .ok (.getfield 21, 3) := by decide +kernel
theorem d_R_wake_5 : decode b_R_wake 5 = .ok (.iconst 1, 1) := by decide +kernel
theorem d_R_wake_6 : decode b_R_wake 6 = .ok (.iaload, 1) := by decide +kernel
theorem d_R_wake_7 : decode b_R_wake 7 = .ok (.putfield 44, 3) := by decide +kernel
theorem d_R_wake_10 : decode b_R_wake 10 = .ok (.aload_n 0, 1) := by decide +kernel
theorem d_R_wake_11 : decode b_R_wake 11 = .ok (.invokevirtual 40, 3) := by decide +kernel
theorem d_R_wake_14 : decode b_R_wake 14 = .ok (.sipush 255, 3) := by decide +kernel
theorem d_R_wake_17 : decode b_R_wake 17 = .ok (.if_icmp .ne 10, 3) := by decide +kernel
theorem d_R_wake_20 : decode b_R_wake 20 = .ok (.aload_n 0, 1) := by decide +kernel
theorem d_R_wake_21 : decode b_R_wake 21 = .ok (.invokevirtual 59, 3) := by decide +kernel
theorem d_R_wake_24 : decode b_R_wake 24 = .ok (.goto 7, 3) := by decide +kernel
theorem d_R_wake_27 : decode b_R_wake 27 = .ok (.aload_n 0, 1) := by decide +kernel
theorem d_R_wake_28 : decode b_R_wake 28 = .ok (.invokevirtual 62, 3) := by decide +kernel
theorem d_R_wake_31 : decode b_R_wake 31 = .ok (.return_, 1) := by decide +kernel
theorem d_R_sayGoodbye_0 : decode b_R_sayGoodbye 0 = .ok (.aload_n 0, 1) := by decide +kernel
theorem d_R_sayGoodbye_1 : decode b_R_sayGoodbye 1 = .ok (.getfield 34, 3) := by decide +kernel
theorem d_R_sayGoodbye_4 : decode b_R_sayGoodbye 4 = .ok (.iconst 2, 1) := by decide +kernel
theorem d_R_sayGoodbye_5 : decode b_R_sayGoodbye 5 = .ok (.if_icmp .ne 8, 3) := by decide +kernel
theorem d_R_sayGoodbye_8 : decode b_R_sayGoodbye 8 = .ok (.aload_n 0, 1) := by decide +kernel
theorem d_R_sayGoodbye_9 : decode b_R_sayGoodbye 9 = .ok (.iconst 0, 1) := by decide +kernel
theorem d_R_sayGoodbye_10 : decode b_R_sayGoodbye 10 = .ok (.invokevirtual 65, 3) := by decide +kernel
theorem d_R_sayGoodbye_13 : decode b_R_sayGoodbye 13 = .ok (.return_, 1) := by decide +kernel
theorem d_R_forgetAll_0 : decode b_R_forgetAll 0 = .ok (.aload_n 0, 1) := by decide +kernel
theorem d_R_forgetAll_1 : decode b_R_forgetAll 1 = .ok (.iconst 0, 1) := by decide +kernel
theorem d_R_forgetAll_2 : decode b_R_forgetAll 2 = .ok (.putfield 34, 3) := by decide +kernel
theorem d_R_forgetAll_5 : decode b_R_forgetAll 5 = .ok (.aload_n 0, 1) := by decide +kernel
theorem d_R_forgetAll_6 : decode b_R_forgetAll 6 = .ok (.iconst 0, 1) := by decide +kernel
theorem d_R_forgetAll_7 : decode b_R_forgetAll 7 = .ok (.putfield 37, 3) := by decide +kernel
theorem d_R_forgetAll_10 : decode b_R_forgetAll 10 = .ok (.aload_n 0, 1) := by decide +kernel
theorem d_R_forgetAll_11 : decode b_R_forgetAll 11 = .ok (.iconst 0, 1) := by decide +kernel
theorem d_R_forgetAll_12 : decode b_R_forgetAll 12 = .ok (.putfield 44, 3) := by decide +kernel
theorem d_R_forgetAll_15 : decode b_R_forgetAll 15 = .ok (.iconst 0, 1) := by decide +kernel
theorem d_R_forgetAll_16 : decode b_R_forgetAll 16 = .ok (.istore_n 1, 1) := by decide +kernel
theorem d_R_forgetAll_17 : decode b_R_forgetAll 17 = .ok (.iload_n 1, 1) := by decide +kernel
theorem d_R_forgetAll_18 : decode b_R_forgetAll 18 = .ok (.iconst 5, 1) := by decide +kernel
theorem d_R_forgetAll_19 : decode b_R_forgetAll 19 = .ok (.if_icmp .ge 19, 3) := by decide +kernel
theorem d_R_forgetAll_22 : decode b_R_forgetAll 22 = .ok (.aload_n 0, 1) := by decide +kernel
theorem d_R_forgetAll_23 : decode b_R_forgetAll 23 = .ok (.getfield 27, 3) := by decide +kernel
theorem d_R_forgetAll_26 : decode b_R_forgetAll 26 = .ok (.iload_n 1, 1) := by decide +kernel
theorem d_R_forgetAll_27 : decode b_R_forgetAll 27 = .ok (.aaload, 1) := by decide +kernel
theorem d_R_forgetAll_28 : decode b_R_forgetAll 28 = .ok (.iconst 0, 1) := by decide +kernel
theorem d_R_forgetAll_29 : decode b_R_forgetAll 29 = .ok (.putfield 69, 3) := by decide +kernel
theorem d_R_forgetAll_32 : decode b_R_forgetAll 32 = .ok (.iinc 1 1, 3) := by decide +kernel
theorem d_R_forgetAll_35 : decode b_R_forgetAll 35 = .ok (.goto (-18), 3) := by decide +kernel
theorem d_R_forgetAll_38 : decode b_R_forgetAll 38 = .ok (.return_, 1) := by decide +kernel
theorem d_R_weighed_0 : decode b_R_weighed 0 = .ok (.aload_n 0, 1) := by decide +kernel
theorem d_R_weighed_1 : decode b_R_weighed 1 = .ok (.getfield 21, 3) := by decide +kernel
theorem d_R_weighed_4 : decode b_R_weighed 4 = .ok (.iconst 0, 1) := by decide +kernel
theorem d_R_weighed_5 : decode b_R_weighed 5 = .ok (.iaload, 1) := by decide +kernel
theorem d_R_weighed_6 : decode b_R_weighed 6 = .ok (.istore_n 1, 1) := by decide +kernel
theorem d_R_weighed_7 : decode b_R_weighed 7 = .ok (.iload_n 1, 1) := by decide +kernel
theorem d_R_weighed_8 : decode b_R_weighed 8 = .ok (.sipush 255, 3) := by decide +kernel
theorem d_R_weighed_11 : decode b_R_weighed 11 = .ok (.if_icmp .ne 5, 3) := by decide +kernel
theorem d_R_weighed_14 : decode b_R_weighed 14 = .ok (.iload_n 1, 1) := by decide +kernel
theorem d_R_weighed_15 : decode b_R_weighed 15 = .ok (.ireturn, 1) := by decide +kernel
theorem d_R_weighed_16 : decode b_R_weighed 16 = .ok (.iconst 0, 1) := by decide +kernel
theorem d_R_weighed_17 : decode b_R_weighed 17 = .ok (.istore_n 2, 1) := by decide +kernel
theorem d_R_weighed_18 : decode b_R_weighed 18 = .ok (.iload_n 2, 1) := by decide +kernel
theorem d_R_weighed_19 : decode b_R_weighed 19 = .ok (.iconst 5, 1) := by decide +kernel
theorem d_R_weighed_20 : decode b_R_weighed 20 = .ok (.if_icmp .ge 58, 3) := by decide +kernel
theorem d_R_weighed_23 : decode b_R_weighed 23 = .ok (.aload_n 0, 1) := by decide +kernel
theorem d_R_weighed_24 : decode b_R_weighed 24 = .ok (.getfield 21, 3) := by decide +kernel
theorem d_R_weighed_27 : decode b_R_weighed 27 = .ok (.bipush 9, 2) := by decide +kernel
theorem d_R_weighed_29 : decode b_R_weighed 29 = .ok (.iaload, 1) := by decide +kernel
theorem d_R_weighed_30 : decode b_R_weighed 30 = .ok (.iload_n 2, 1) := by decide +kernel
theorem d_R_weighed_31 : decode b_R_weighed 31 = .ok (.ishr, 1) := by decide +kernel
theorem d_R_weighed_32 : decode b_R_weighed 32 = .ok (.iconst 1, 1) := by decide +kernel
theorem d_R_weighed_33 : decode b_R_weighed 33 = .ok (.iand, 1) := by decide +kernel
theorem d_R_weighed_34 : decode b_R_weighed 34 = .ok (.ifCond .eq 38, 3) := by decide +kernel
theorem d_R_weighed_37 : decode b_R_weighed 37 = .ok (.aload_n 0, 1) := by decide +kernel
theorem d_R_weighed_38 : decode b_R_weighed 38 = .ok (.getfield 27, 3) := by decide +kernel
theorem d_R_weighed_41 : decode b_R_weighed 41 = .ok (.iload_n 2, 1) := by decide +kernel
theorem d_R_weighed_42 : decode b_R_weighed 42 = .ok (.aaload, 1) := by decide +kernel
theorem d_R_weighed_43 : decode b_R_weighed 43 = .ok (.getfield 69, 3) := by decide +kernel
theorem d_R_weighed_46 : decode b_R_weighed 46 = .ok (.ifCond .eq 26, 3) := by decide +kernel
theorem d_R_weighed_49 : decode b_R_weighed 49 = .ok (.aload_n 0, 1) := by decide +kernel
theorem d_R_weighed_50 : decode b_R_weighed 50 = .ok (.getfield 27, 3) := by decide +kernel
theorem d_R_weighed_53 : decode b_R_weighed 53 = .ok (.iload_n 2, 1) := by decide +kernel
theorem d_R_weighed_54 : decode b_R_weighed 54 = .ok (.aaload, 1) := by decide +kernel
theorem d_R_weighed_55 : decode b_R_weighed 55 = .ok (.getfield 73, 3) := by decide +kernel
theorem d_R_weighed_58 : decode b_R_weighed 58 = .ok (.iconst 3, 1) := by decide +kernel
theorem d_R_weighed_59 : decode b_R_weighed 59 = .ok (.if_icmp .eq 13, 3) := by decide +kernel
theorem d_R_weighed_62 : decode b_R_weighed 62 = .ok (.iload_n 1, 1) := by decide +kernel
theorem d_R_weighed_63 : decode b_R_weighed 63 = .ok (.aload_n 0, 1) := by decide +kernel
theorem d_R_weighed_64 : decode b_R_weighed 64 = .ok (.getfield 21, 3) := by decide +kernel
theorem d_R_weighed_67 : decode b_R_weighed 67 = .ok (.bipush 8, 2) := by decide +kernel
theorem d_R_weighed_69 : decode b_R_weighed 69 = .ok (.iaload, 1) := by decide +kernel
theorem d_R_weighed_70 : decode b_R_weighed 70 = .ok (.isub, 1) := by decide +kernel
theorem d_R_weighed_71 : decode b_R_weighed 71 = .ok (.istore_n 1, 1) := by decide +kernel
theorem d_R_weighed_72 : decode b_R_weighed 72 = .ok (.iinc 2 1, 3) := by decide +kernel
theorem d_R_weighed_75 : decode b_R_weighed 75 = .ok (.goto (-57), 3) := by decide +kernel
theorem d_R_weighed_78 : decode b_R_weighed 78 = .ok (.iload_n 1, 1) := by decide +kernel
theorem d_R_weighed_79 : decode b_R_weighed 79 = .ok (.iconst 1, 1) := by decide +kernel
theorem d_R_weighed_80 : decode b_R_weighed 80 = .ok (.if_icmp .ge 7, 3) := by decide +kernel
theorem d_R_weighed_83 : decode b_R_weighed 83 = .ok (.iconst 1, 1) := by decide +kernel
theorem d_R_weighed_84 : decode b_R_weighed 84 = .ok (.goto 4, 3) := by decide +kernel
theorem d_R_weighed_87 : decode b_R_weighed 87 = .ok (.iload_n 1, 1) := by decide +kernel
theorem d_R_weighed_88 : decode b_R_weighed 88 = .ok (.ireturn, 1) := by decide +kernel
theorem d_R_skew_0 : decode b_R_skew 0 = .ok (.sipush 256, 3) := by decide +kernel
theorem d_R_skew_3 : decode b_R_skew 3 = .ok (.aload_n 0, 1) := by decide +kernel
theorem d_R_skew_4 : decode b_R_skew 4 = .ok (.invokevirtual 40, 3) := by decide +kernel
theorem d_R_skew_7 : decode b_R_skew 7 = .ok (.isub, 1) := by decide +kernel
theorem d_R_skew_8 : decode b_R_skew 8 = .ok (.aload_n 0, 1) := by decide +kernel
theorem d_R_skew_9 : decode b_R_skew 9 = .ok (.getfield 44, 3) := by decide +kernel
theorem d_R_skew_12 : decode b_R_skew 12 = .ok (.imul, 1) := by decide +kernel
theorem d_R_skew_13 : decode b_R_skew 13 = .ok (.sipush 256, 3) := by decide +kernel
theorem d_R_skew_16 : decode b_R_skew 16 = .ok (.idiv, 1) := by decide +kernel
theorem d_R_skew_17 : decode b_R_skew 17 = .ok (.ireturn, 1) := by decide +kernel
theorem d_R_becomeActive_0 : decode b_R_becomeActive 0 = .ok (.aload_n 0, 1) := by decide +kernel
theorem d_R_becomeActive_1 : decode b_R_becomeActive 1 = .ok (.aload_n 0, 1) := by decide +kernel
theorem d_R_becomeActive_2 : decode b_R_becomeActive 2 = .ok (.invokevirtual 40, 3) := by decide +kernel
theorem d_R_becomeActive_5 : decode b_R_becomeActive 5 = .ok (.invokevirtual 65, 3) := by decide +kernel
theorem d_R_becomeActive_8 : decode b_R_becomeActive 8 = .ok (.aload_n 0, 1) := by decide +kernel
theorem d_R_becomeActive_9 : decode b_R_becomeActive 9 = .ok (.iconst 3, 1) := by decide +kernel
theorem d_R_becomeActive_10 : decode b_R_becomeActive 10 = .ok (.bipush 9, 2) := by decide +kernel
theorem d_R_becomeActive_12 : decode b_R_becomeActive 12 = .ok (.bipush 15, 2) := by decide +kernel
theorem d_R_becomeActive_14 : decode b_R_becomeActive 14 = .ok (.invokevirtual 74, 3) := by decide +kernel
theorem d_R_becomeActive_17 : decode b_R_becomeActive 17 = .ok (.aload_n 0, 1) := by decide +kernel
theorem d_R_becomeActive_18 : decode b_R_becomeActive 18 = .ok (.aload_n 0, 1) := by decide +kernel
theorem d_R_becomeActive_19 : decode b_R_becomeActive 19 = .ok (.getfield 21, 3) := by decide +kernel
theorem d_R_becomeActive_22 : decode b_R_becomeActive 22 = .ok (.iconst 1, 1) := by decide +kernel
theorem d_R_becomeActive_23 : decode b_R_becomeActive 23 = .ok (.iaload, 1) := by decide +kernel
theorem d_R_becomeActive_24 : decode b_R_becomeActive 24 = .ok (.putfield 37, 3) := by decide +kernel
theorem d_R_becomeActive_27 : decode b_R_becomeActive 27 = .ok (.aload_n 0, 1) := by decide +kernel
theorem d_R_becomeActive_28 : decode b_R_becomeActive 28 = .ok (.iconst 2, 1) := by decide +kernel
theorem d_R_becomeActive_29 : decode b_R_becomeActive 29 = .ok (.putfield 34, 3) := by decide +kernel
theorem d_R_becomeActive_32 : decode b_R_becomeActive 32 = .ok (.aload_n 0, 1) := by decide +kernel
theorem d_R_becomeActive_33 : decode b_R_becomeActive 33 = .ok (.dup, 1) := by decide +kernel
theorem d_R_becomeActive_34 : decode b_R_becomeActive 34 = .ok (.getfield 47, 3) := by decide +kernel
theorem d_R_becomeActive_37 : decode b_R_becomeActive 37 = .ok (.iconst 1, 1) := by decide +kernel
theorem d_R_becomeActive_38 : decode b_R_becomeActive 38 = .ok (.iadd, 1) := by decide +kernel
theorem d_R_becomeActive_39 : decode b_R_becomeActive 39 = .ok (.putfield 47, 3) := by decide +kernel
theorem d_R_becomeActive_42 : decode b_R_becomeActive 42 = .ok (.return_, 1) := by decide +kernel
theorem d_R_becomeBackup_0 : decode b_R_becomeBackup 0 = .ok (.aload_n 0, 1) := by decide +kernel
theorem d_R_becomeBackup_1 : decode b_R_becomeBackup 1 = .ok (.iconst 3, 1) := by decide +kernel
theorem d_R_becomeBackup_2 : decode b_R_becomeBackup 2 = .ok (.aload_n 0, 1) := by decide +kernel
theorem d_R_becomeBackup_3 : decode b_R_becomeBackup 3 = .ok (.getfield 44, 3) := by decide +kernel
theorem d_R_becomeBackup_6 : decode b_R_becomeBackup 6 = .ok (.imul, 1) := by decide +kernel
theorem d_R_becomeBackup_7 : decode b_R_becomeBackup 7 = .ok (.aload_n 0, 1) := by decide +kernel
theorem d_R_becomeBackup_8 : decode b_R_becomeBackup 8 = .ok (.invokevirtual 78, 3) := by decide +kernel
theorem d_R_becomeBackup_11 : decode b_R_becomeBackup 11 = .ok (.iadd, 1) := by decide +kernel
theorem d_R_becomeBackup_12 : decode b_R_becomeBackup 12 = .ok (.putfield 37, 3) := by decide +kernel
theorem d_R_becomeBackup_15 : decode b_R_becomeBackup 15 = .ok (.aload_n 0, 1) := by decide +kernel
theorem d_R_becomeBackup_16 : decode b_R_becomeBackup 16 = .ok (.iconst 1, 1) := by decide +kernel
theorem d_R_becomeBackup_17 : decode b_R_becomeBackup 17 = .ok (.putfield 34, 3) := by decide +kernel
theorem d_R_becomeBackup_20 : decode b_R_becomeBackup 20 = .ok (.return_, 1) := by decide +kernel
theorem d_R_advertise_0 : decode b_R_advertise 0 = .ok (.aload_n 0, 1) := by decide +kernel
theorem d_R_advertise_1 : decode b_R_advertise 1 = .ok (.getfield 15, 3) := by decide +kernel
theorem d_R_advertise_4 : decode b_R_advertise 4 = .ok (.iconst 1, 1) := by decide +kernel
theorem d_R_advertise_5 : decode b_R_advertise 5 = .ok (.bipush 9, 2) := by decide +kernel
theorem d_R_advertise_7 : decode b_R_advertise 7 = .ok (.bipush 15, 2) := by decide +kernel
theorem d_R_advertise_9 : decode b_R_advertise 9 = .ok (.aload_n 0, 1) := by decide +kernel
theorem d_R_advertise_10 : decode b_R_advertise 10 = .ok (.getfield 21, 3) := by decide +kernel
theorem d_R_advertise_13 : decode b_R_advertise 13 = .ok (.iconst 4, 1) := by decide +kernel
theorem d_R_advertise_14 : decode b_R_advertise 14 = .ok (.iaload, 1) := by decide +kernel
theorem d_R_advertise_15 : decode b_R_advertise 15 = .ok (.invokevirtual 81, 3) := by decide +kernel
theorem d_R_advertise_18 : decode b_R_advertise 18 = .ok (.astore_n 2, 1) := by decide +kernel
theorem d_R_advertise_19 : decode b_R_advertise 19 = .ok (.aload_n 2, 1) := by decide +kernel
theorem d_R_advertise_20 : decode b_R_advertise 20 = .ok (.bipush 49, 2) := by decide +kernel
theorem d_R_advertise_22 : decode b_R_advertise 22 = .ok (.invokevirtual 87, 3) := by decide +kernel
theorem d_R_advertise_25 : decode b_R_advertise 25 = .ok (.aload_n 2, 1) := by decide +kernel
theorem d_R_advertise_26 : decode b_R_advertise 26 = .ok (.aload_n 0, 1) := by decide +kernel
theorem d_R_advertise_27 : decode b_R_advertise 27 = .ok (.getfield 21, 3) := by decide +kernel
theorem d_R_advertise_30 : decode b_R_advertise 30 = .ok (.iconst 3, 1) := by decide +kernel
theorem d_R_advertise_31 : decode b_R_advertise 31 = .ok (.iaload, 1) := by decide +kernel
theorem d_R_advertise_32 : decode b_R_advertise 32 = .ok (.invokevirtual 87, 3) := by decide +kernel
theorem d_R_advertise_35 : decode b_R_advertise 35 = .ok (.aload_n 2, 1) := by decide +kernel
theorem d_R_advertise_36 : decode b_R_advertise 36 = .ok (.iload_n 1, 1) := by decide +kernel
theorem d_R_advertise_37 : decode b_R_advertise 37 = .ok (.invokevirtual 87, 3) := by decide +kernel
theorem d_R_advertise_40 : decode b_R_advertise 40 = .ok (.aload_n 2, 1) := by decide +kernel
theorem d_R_advertise_41 : decode b_R_advertise 41 = .ok (.iconst 1, 1) := by decide +kernel
theorem d_R_advertise_42 : decode b_R_advertise 42 = .ok (.invokevirtual 87, 3) := by decide +kernel
theorem d_R_advertise_45 : decode b_R_advertise 45 = .ok (.aload_n 2, 1) := by decide +kernel
theorem d_R_advertise_46 : decode b_R_advertise 46 = .ok (.aload_n 0, 1) := by decide +kernel
theorem d_R_advertise_47 : decode b_R_advertise 47 = .ok (.getfield 21, 3) := by decide +kernel
theorem d_R_advertise_50 : decode b_R_advertise 50 = .ok (.iconst 1, 1) := by decide +kernel
theorem d_R_advertise_51 : decode b_R_advertise 51 = .ok (.iaload, 1) := by decide +kernel
theorem d_R_advertise_52 : decode b_R_advertise 52 = .ok (.invokevirtual 92, 3) := by decide +kernel
theorem d_R_advertise_55 : decode b_R_advertise 55 = .ok (.aload_n 2, 1) := by decide +kernel
theorem d_R_advertise_56 : decode b_R_advertise 56 = .ok (.iconst 0, 1) := by decide +kernel
theorem d_R_advertise_57 : decode b_R_advertise 57 = .ok (.invokevirtual 92, 3) := by decide +kernel
theorem d_R_advertise_60 : decode b_R_advertise 60 = .ok (.aload_n 2, 1) := by decide +kernel
theorem d_R_advertise_61 : decode b_R_advertise 61 = .ok (.aload_n 0, 1) := by decide +kernel
theorem d_R_advertise_62 : decode b_R_advertise 62 = .ok (.getfield 21, 3) := by decide +kernel
theorem d_R_advertise_65 : decode b_R_advertise 65 = .ok (.iconst 5, 1) := by decide +kernel
theorem d_R_advertise_66 : decode b_R_advertise 66 = .ok (.iaload, 1) := by decide +kernel
theorem d_R_advertise_67 : decode b_R_advertise 67 = .ok (.invokevirtual 95, 3) := by decide +kernel
theorem d_R_advertise_70 : decode b_R_advertise 70 = .ok (.aload_n 2, 1) := by decide +kernel
theorem d_R_advertise_71 : decode b_R_advertise 71 = .ok (.bipush 6, 2) := by decide +kernel
theorem d_R_advertise_73 : decode b_R_advertise 73 = .ok (.invokevirtual 98, 3) := by decide +kernel
theorem d_R_advertise_76 : decode b_R_advertise 76 = .ok (.aload_n 0, 1) := by decide +kernel
theorem d_R_advertise_77 : decode b_R_advertise 77 = .ok (.invokevirtual 101, 3) := by decide +kernel
theorem d_R_advertise_80 : decode b_R_advertise 80 = .ok (.return_, 1) := by decide +kernel
theorem d_R_sendEmpty_0 : decode b_R_sendEmpty 0 = .ok (.aload_n 0, 1) := by decide +kernel
theorem d_R_sendEmpty_1 : decode b_R_sendEmpty 1 = .ok (.getfield 15, 3) := by decide +kernel
theorem d_R_sendEmpty_4 : decode b_R_sendEmpty 4 = .ok (.iload_n 1, 1) := by decide +kernel
theorem d_R_sendEmpty_5 : decode b_R_sendEmpty 5 = .ok (.iload_n 2, 1) := by decide +kernel
theorem d_R_sendEmpty_6 : decode b_R_sendEmpty 6 = .ok (.iload_n 3, 1) := by decide +kernel
theorem d_R_sendEmpty_7 : decode b_R_sendEmpty 7 = .ok (.aload_n 0, 1) := by decide +kernel
theorem d_R_sendEmpty_8 : decode b_R_sendEmpty 8 = .ok (.getfield 21, 3) := by decide +kernel
theorem d_R_sendEmpty_11 : decode b_R_sendEmpty 11 = .ok (.iconst 4, 1) := by decide +kernel
theorem d_R_sendEmpty_12 : decode b_R_sendEmpty 12 = .ok (.iaload, 1) := by decide +kernel
theorem d_R_sendEmpty_13 : decode b_R_sendEmpty 13 = .ok (.invokevirtual 81, 3) := by decide +kernel
theorem d_R_sendEmpty_16 : decode b_R_sendEmpty 16 = .ok (.pop, 1) := by decide +kernel
theorem d_R_sendEmpty_17 : decode b_R_sendEmpty 17 = .ok (.aload_n 0, 1) := by decide +kernel
theorem d_R_sendEmpty_18 : decode b_R_sendEmpty 18 = .ok (.invokevirtual 101, 3) := by decide +kernel
theorem d_R_sendEmpty_21 : decode b_R_sendEmpty 21 = .ok (.return_, 1) := by decide +kernel
theorem d_R_sendPacket_0 : decode b_R_sendPacket 0 = .ok (.aload_n 0, 1) := by decide +kernel
theorem d_R_sendPacket_1 : decode b_R_sendPacket 1 = .ok (.getfield 15, 3) := by decide +kernel
theorem d_R_sendPacket_4 : decode b_R_sendPacket 4 = .ok (.iconst 2, 1) := by decide +kernel
theorem d_R_sendPacket_5 : decode b_R_sendPacket 5 = .ok (.aload_n 0, 1) := by decide +kernel
theorem d_R_sendPacket_6 : decode b_R_sendPacket 6 = .ok (.getfield 9, 3) := by decide +kernel
theorem d_R_sendPacket_9 : decode b_R_sendPacket 9 = .ok (.aload_n 1, 1) := by decide +kernel
theorem d_R_sendPacket_10 : decode b_R_sendPacket 10 = .ok (.getfield 104, 3) := by decide +kernel
theorem d_R_sendPacket_13 : decode b_R_sendPacket 13 = .ok (.aload_n 0, 1) := by decide +kernel
theorem d_R_sendPacket_14 : decode b_R_sendPacket 14 = .ok (.getfield 21, 3) := by decide +kernel
theorem d_R_sendPacket_17 : decode b_R_sendPacket 17 = .ok (.iconst 4, 1) := by decide +kernel
theorem d_R_sendPacket_18 : decode b_R_sendPacket 18 = .ok (.iaload, 1) := by decide +kernel
theorem d_R_sendPacket_19 : decode b_R_sendPacket 19 = .ok (.invokevirtual 81, 3) := by decide +kernel
theorem d_R_sendPacket_22 : decode b_R_sendPacket 22 = .ok (.astore_n 3, 1) := by decide +kernel
theorem d_R_sendPacket_23 : decode b_R_sendPacket 23 = .ok (.aload_n 3, 1) := by decide +kernel
theorem d_R_sendPacket_24 : decode b_R_sendPacket 24 = .ok (.bipush 32, 2) := by decide +kernel
theorem d_R_sendPacket_26 : decode b_R_sendPacket 26 = .ok (.aload_n 1, 1) := by decide +kernel
theorem d_R_sendPacket_27 : decode b_R_sendPacket 27 = .ok (.getfield 107, 3) := by decide +kernel
theorem d_R_sendPacket_30 : decode b_R_sendPacket 30 = .ok (.iadd, 1) := by decide +kernel
theorem d_R_sendPacket_31 : decode b_R_sendPacket 31 = .ok (.invokevirtual 87, 3) := by decide +kernel
theorem d_R_sendPacket_34 : decode b_R_sendPacket 34 = .ok (.aload_n 3, 1) := by decide +kernel
theorem d_R_sendPacket_35 : decode b_R_sendPacket 35 = .ok (.bipush 64, 2) := by decide +kernel
theorem d_R_sendPacket_37 : decode b_R_sendPacket 37 = .ok (.aload_n 1, 1) := by decide +kernel
theorem d_R_sendPacket_38 : decode b_R_sendPacket 38 = .ok (.getfield 73, 3) := by decide +kernel
theorem d_R_sendPacket_41 : decode b_R_sendPacket 41 = .ok (.imul, 1) := by decide +kernel
theorem d_R_sendPacket_42 : decode b_R_sendPacket 42 = .ok (.iload_n 2, 1) := by decide +kernel
theorem d_R_sendPacket_43 : decode b_R_sendPacket 43 = .ok (.iadd, 1) := by decide +kernel
theorem d_R_sendPacket_44 : decode b_R_sendPacket 44 = .ok (.invokevirtual 87, 3) := by decide +kernel
theorem d_R_sendPacket_47 : decode b_R_sendPacket 47 = .ok (.aload_n 3, 1) := by decide +kernel
theorem d_R_sendPacket_48 : decode b_R_sendPacket 48 = .ok (.aload_n 1, 1) := by decide +kernel
theorem d_R_sendPacket_49 : decode b_R_sendPacket 49 = .ok (.getfield 110, 3) := by decide +kernel
theorem d_R_sendPacket_52 : decode b_R_sendPacket 52 = .ok (.invokevirtual 87, 3) := by decide +kernel
theorem d_R_sendPacket_55 : decode b_R_sendPacket 55 = .ok (.aload_n 3, 1) := by decide +kernel
theorem d_R_sendPacket_56 : decode b_R_sendPacket 56 = .ok (.bipush 24, 2) := by decide +kernel
theorem d_R_sendPacket_58 : decode b_R_sendPacket 58 = .ok (.invokevirtual 87, 3) := by decide +kernel
theorem d_R_sendPacket_61 : decode b_R_sendPacket 61 = .ok (.aload_n 3, 1) := by decide +kernel
theorem d_R_sendPacket_62 : decode b_R_sendPacket 62 = .ok (.aload_n 1, 1) := by decide +kernel
theorem d_R_sendPacket_63 : decode b_R_sendPacket 63 = .ok (.getfield 113, 3) := by decide +kernel
theorem d_R_sendPacket_66 : decode b_R_sendPacket 66 = .ok (.invokevirtual 95, 3) := by decide +kernel
theorem d_R_sendPacket_69 : decode b_R_sendPacket 69 = .ok (.aload_n 3, 1) := by decide +kernel
theorem d_R_sendPacket_70 : decode b_R_sendPacket 70 = .ok (.aload_n 1, 1) := by decide +kernel
theorem d_R_sendPacket_71 : decode b_R_sendPacket 71 = .ok (.getfield 114, 3) := by decide +kernel
theorem d_R_sendPacket_74 : decode b_R_sendPacket 74 = .ok (.invokevirtual 95, 3) := by decide +kernel
theorem d_R_sendPacket_77 : decode b_R_sendPacket 77 = .ok (.aload_n 3, 1) := by decide +kernel
theorem d_R_sendPacket_78 : decode b_R_sendPacket 78 = .ok (.aload_n 1, 1) := by decide +kernel
theorem d_R_sendPacket_79 : decode b_R_sendPacket 79 = .ok (.aload_n 1, 1) := by decide +kernel
theorem d_R_sendPacket_80 : decode b_R_sendPacket 80 = .ok (.getfield 117, 3) := by decide +kernel
theorem d_R_sendPacket_83 : decode b_R_sendPacket 83 = .ok (.invokevirtual 120, 3) := by decide +kernel
theorem d_R_sendPacket_86 : decode b_R_sendPacket 86 = .ok (.invokevirtual 95, 3) := by decide +kernel
theorem d_R_sendPacket_89 : decode b_R_sendPacket 89 = .ok (.aload_n 3, 1) := by decide +kernel
theorem d_R_sendPacket_90 : decode b_R_sendPacket 90 = .ok (.aload_n 1, 1) := by decide +kernel
theorem d_R_sendPacket_91 : decode b_R_sendPacket 91 = .ok (.getfield 124, 3) := by decide +kernel
theorem d_R_sendPacket_94 : decode b_R_sendPacket 94 = .ok (.invokevirtual 95, 3) := by decide +kernel
theorem d_R_sendPacket_97 : decode b_R_sendPacket 97 = .ok (.aload_n 3, 1) := by decide +kernel
theorem d_R_sendPacket_98 : decode b_R_sendPacket 98 = .ok (.iconst 0, 1) := by decide +kernel
theorem d_R_sendPacket_99 : decode b_R_sendPacket 99 = .ok (.invokevirtual 95, 3) := by decide +kernel
theorem d_R_sendPacket_102 : decode b_R_sendPacket 102 = .ok (.aload_n 0, 1) := by decide +kernel
theorem d_R_sendPacket_103 : decode b_R_sendPacket 103 = .ok (.invokevirtual 101, 3) := by decide +kernel
theorem d_R_sendPacket_106 : decode b_R_sendPacket 106 = .ok (.return_, 1) := by decide +kernel
theorem d_R_sendDraft_0 : decode b_R_sendDraft 0 = .ok (.aload_n 0, 1) := by decide +kernel
theorem d_R_sendDraft_1 : decode b_R_sendDraft 1 = .ok (.dup, 1) := by decide +kernel
theorem d_R_sendDraft_2 : decode b_R_sendDraft 2 = .ok (.getfield 53, 3) := by decide +kernel
theorem d_R_sendDraft_5 : decode b_R_sendDraft 5 = .ok (.iconst 1, 1) := by decide +kernel
theorem d_R_sendDraft_6 : decode b_R_sendDraft 6 = .ok (.iadd, 1) := by decide +kernel
theorem d_R_sendDraft_7 : decode b_R_sendDraft 7 = .ok (.putfield 53, 3) := by decide +kernel
theorem d_R_sendDraft_10 : decode b_R_sendDraft 10 = .ok (.aload_n 0, 1) := by decide +kernel
theorem d_R_sendDraft_11 : decode b_R_sendDraft 11 = .ok (.getfield 21, 3) := by decide +kernel
theorem d_R_sendDraft_14 : decode b_R_sendDraft 14 = .ok (.bipush 7, 2) := by decide +kernel
theorem d_R_sendDraft_16 : decode b_R_sendDraft 16 = .ok (.iaload, 1) := by decide +kernel
theorem d_R_sendDraft_17 : decode b_R_sendDraft 17 = .ok (.iconst 1, 1) := by decide +kernel
theorem d_R_sendDraft_18 : decode b_R_sendDraft 18 = .ok (.iand, 1) := by decide +kernel
theorem d_R_sendDraft_19 : decode b_R_sendDraft 19 = .ok (.ifCond .ne 21, 3) := by decide +kernel
theorem d_R_sendDraft_22 : decode b_R_sendDraft 22 = .ok (.aload_n 0, 1) := by decide +kernel
theorem d_R_sendDraft_23 : decode b_R_sendDraft 23 = .ok (.getfield 15, 3) := by decide +kernel
theorem d_R_sendDraft_26 : decode b_R_sendDraft 26 = .ok (.aload_n 0, 1) := by decide +kernel
theorem d_R_sendDraft_27 : decode b_R_sendDraft 27 = .ok (.getfield 9, 3) := by decide +kernel
theorem d_R_sendDraft_30 : decode b_R_sendDraft 30 = .ok (.aload_n 0, 1) := by decide +kernel
theorem d_R_sendDraft_31 : decode b_R_sendDraft 31 = .ok (.getfield 21, 3) := by decide +kernel
theorem d_R_sendDraft_34 : decode b_R_sendDraft 34 = .ok (.bipush 6, 2) := by decide +kernel
theorem d_R_sendDraft_36 : decode b_R_sendDraft 36 = .ok (.iaload, 1) := by decide +kernel
theorem d_R_sendDraft_37 : decode b_R_sendDraft 37 = .ok (.invokevirtual 127, 3) := by decide +kernel
theorem d_R_sendDraft_40 : decode b_R_sendDraft 40 = .ok (.return_, 1) := by decide +kernel
theorem d_R_minds_0 : decode b_R_minds 0 = .ok (.aload_n 0, 1) := by decide +kernel
theorem d_R_minds_1 : decode b_R_minds 1 = .ok (.getfield 34, 3) := by decide +kernel
theorem d_R_minds_4 : decode b_R_minds 4 = .ok (.ifCond .eq 15, 3) := by decide +kernel
theorem d_R_minds_7 : decode b_R_minds 7 = .ok (.aload_n 0, 1) := by decide +kernel
theorem d_R_minds_8 : decode b_R_minds 8 = .ok (.getfield 21, 3) := by decide +kernel
theorem d_R_minds_11 : decode b_R_minds 11 = .ok (.bipush 7, 2) := by decide +kernel
theorem d_R_minds_13 : decode b_R_minds 13 = .ok (.iaload, 1) := by decide +kernel
theorem d_R_minds_14 : decode b_R_minds 14 = .ok (.iconst 2, 1) := by decide +kernel
theorem d_R_minds_15 : decode b_R_minds 15 = .ok (.iand, 1) := by decide +kernel
theorem d_R_minds_16 : decode b_R_minds 16 = .ok (.ifCond .eq 5, 3) := by decide +kernel
theorem d_R_minds_19 : decode b_R_minds 19 = .ok (.iconst 0, 1) := by decide +kernel
theorem d_R_minds_20 : decode b_R_minds 20 = .ok (.ireturn, 1) := by decide +kernel
theorem d_R_minds_21 : decode b_R_minds 21 = .ok (.aload_n 1, 1) := by decide +kernel
theorem d_R_minds_22 : decode b_R_minds 22 = .ok (.getfield 130, 3) := by decide +kernel
theorem d_R_minds_25 : decode b_R_minds 25 = .ok (.bipush 15, 2) := by decide +kernel
theorem d_R_minds_27 : decode b_R_minds 27 = .ok (.if_icmp .eq 31, 3) := by decide +kernel
theorem d_R_minds_30 : decode b_R_minds 30 = .ok (.aload_n 1, 1) := by decide +kernel
theorem d_R_minds_31 : decode b_R_minds 31 = .ok (.getfield 130, 3) := by decide +kernel
theorem d_R_minds_34 : decode b_R_minds 34 = .ok (.aload_n 0, 1) := by decide +kernel
theorem d_R_minds_35 : decode b_R_minds 35 = .ok (.getfield 9, 3) := by decide +kernel
theorem d_R_minds_38 : decode b_R_minds 38 = .ok (.if_icmp .eq 20, 3) := by decide +kernel
theorem d_R_minds_41 : decode b_R_minds 41 = .ok (.aload_n 1, 1) := by decide +kernel
theorem d_R_minds_42 : decode b_R_minds 42 = .ok (.getfield 130, 3) := by decide +kernel
theorem d_R_minds_45 : decode b_R_minds 45 = .ok (.bipush 9, 2) := by decide +kernel
theorem d_R_minds_47 : decode b_R_minds 47 = .ok (.if_icmp .ne 15, 3) := by decide +kernel
theorem d_R_minds_50 : decode b_R_minds 50 = .ok (.aload_n 0, 1) := by decide +kernel
theorem d_R_minds_51 : decode b_R_minds 51 = .ok (.getfield 34, 3) := by decide +kernel
theorem d_R_minds_54 : decode b_R_minds 54 = .ok (.iconst 2, 1) := by decide +kernel
theorem d_R_minds_55 : decode b_R_minds 55 = .ok (.if_icmp .ne 7, 3) := by decide +kernel
theorem d_R_minds_58 : decode b_R_minds 58 = .ok (.iconst 1, 1) := by decide +kernel
theorem d_R_minds_59 : decode b_R_minds 59 = .ok (.goto 4, 3) := by decide +kernel
theorem d_R_minds_62 : decode b_R_minds 62 = .ok (.iconst 0, 1) := by decide +kernel
theorem d_R_minds_63 : decode b_R_minds 63 = .ok (.ireturn, 1) := by decide +kernel
theorem d_R_hear_0 : decode b_R_hear 0 = .ok (.aload_n 1, 1) := by decide +kernel
theorem d_R_hear_1 : decode b_R_hear 1 = .ok (.getfield 133, 3) := by decide +kernel
theorem d_R_hear_4 : decode b_R_hear 4 = .ok (.tableswitch 121 1 4 #[32, 75, 81, 111], 32) := by decide +kernel
theorem d_R_hear_36 : decode b_R_hear 36 = .ok (.aload_n 0, 1) := by decide +kernel
theorem d_R_hear_37 : decode b_R_hear 37 = .ok (.aload_n 1, 1) := by decide +kernel
theorem d_R_hear_38 : decode b_R_hear 38 = .ok (.invokevirtual 136, 3) := by decide +kernel
theorem d_R_hear_41 : decode b_R_hear 41 = .ok (.ifCond .ne 5, 3) := by decide +kernel
theorem d_R_hear_44 : decode b_R_hear 44 = .ok (.iconst 0, 1) := by decide +kernel
theorem d_R_hear_45 : decode b_R_hear 45 = .ok (.ireturn, 1) := by decide +kernel
theorem d_R_hear_46 : decode b_R_hear 46 = .ok (.aload_n 0, 1) := by decide +kernel
theorem d_R_hear_47 : decode b_R_hear 47 = .ok (.dup, 1) := by decide +kernel
theorem d_R_hear_48 : decode b_R_hear 48 = .ok (.getfield 50, 3) := by decide +kernel
theorem d_R_hear_51 : decode b_R_hear 51 = .ok (.iconst 1, 1) := by decide +kernel
theorem d_R_hear_52 : decode b_R_hear 52 = .ok (.iadd, 1) := by decide +kernel
theorem d_R_hear_53 : decode b_R_hear 53 = .ok (.putfield 50, 3) := by decide +kernel
theorem d_R_hear_56 : decode b_R_hear 56 = .ok (.aload_n 0, 1) := by decide +kernel
theorem d_R_hear_57 : decode b_R_hear 57 = .ok (.getfield 34, 3) := by decide +kernel
theorem d_R_hear_60 : decode b_R_hear 60 = .ok (.iconst 2, 1) := by decide +kernel
theorem d_R_hear_61 : decode b_R_hear 61 = .ok (.if_icmp .ne 11, 3) := by decide +kernel
theorem d_R_hear_64 : decode b_R_hear 64 = .ok (.aload_n 0, 1) := by decide +kernel
theorem d_R_hear_65 : decode b_R_hear 65 = .ok (.aload_n 1, 1) := by decide +kernel
theorem d_R_hear_66 : decode b_R_hear 66 = .ok (.invokevirtual 140, 3) := by decide +kernel
theorem d_R_hear_69 : decode b_R_hear 69 = .ok (.goto 8, 3) := by decide +kernel
theorem d_R_hear_72 : decode b_R_hear 72 = .ok (.aload_n 0, 1) := by decide +kernel
theorem d_R_hear_73 : decode b_R_hear 73 = .ok (.aload_n 1, 1) := by decide +kernel
theorem d_R_hear_74 : decode b_R_hear 74 = .ok (.invokevirtual 144, 3) := by decide +kernel
theorem d_R_hear_77 : decode b_R_hear 77 = .ok (.iconst 1, 1) := by decide +kernel
theorem d_R_hear_78 : decode b_R_hear 78 = .ok (.ireturn, 1) := by decide +kernel
theorem d_R_hear_79 : decode b_R_hear 79 = .ok (.aload_n 0, 1) := by decide +kernel
theorem d_R_hear_80 : decode b_R_hear 80 = .ok (.aload_n 1, 1) := by decide +kernel
theorem d_R_hear_81 : decode b_R_hear 81 = .ok (.invokevirtual 147, 3) := by decide +kernel
theorem d_R_hear_84 : decode b_R_hear 84 = .ok (.ireturn, 1) := by decide +kernel
theorem d_R_hear_85 : decode b_R_hear 85 = .ok (.aload_n 0, 1) := by decide +kernel
theorem d_R_hear_86 : decode b_R_hear 86 = .ok (.getfield 34, 3) := by decide +kernel
theorem d_R_hear_89 : decode b_R_hear 89 = .ok (.iconst 2, 1) := by decide +kernel
theorem d_R_hear_90 : decode b_R_hear 90 = .ok (.if_icmp .ne 23, 3) := by decide +kernel
theorem d_R_hear_93 : decode b_R_hear 93 = .ok (.aload_n 1, 1) := by decide +kernel
theorem d_R_hear_94 : decode b_R_hear 94 = .ok (.getfield 150, 3) := by decide +kernel
theorem d_R_hear_97 : decode b_R_hear 97 = .ok (.bipush 9, 2) := by decide +kernel
theorem d_R_hear_99 : decode b_R_hear 99 = .ok (.if_icmp .eq 14, 3) := by decide +kernel
theorem d_R_hear_102 : decode b_R_hear 102 = .ok (.aload_n 0, 1) := by decide +kernel
theorem d_R_hear_103 : decode b_R_hear 103 = .ok (.iconst 4, 1) := by decide +kernel
theorem d_R_hear_104 : decode b_R_hear 104 = .ok (.bipush 9, 2) := by decide +kernel
theorem d_R_hear_106 : decode b_R_hear 106 = .ok (.aload_n 1, 1) := by decide +kernel
theorem d_R_hear_107 : decode b_R_hear 107 = .ok (.getfield 150, 3) := by decide +kernel
theorem d_R_hear_110 : decode b_R_hear 110 = .ok (.invokevirtual 74, 3) := by decide +kernel
theorem d_R_hear_113 : decode b_R_hear 113 = .ok (.iconst 0, 1) := by decide +kernel
theorem d_R_hear_114 : decode b_R_hear 114 = .ok (.ireturn, 1) := by decide +kernel
theorem d_R_hear_115 : decode b_R_hear 115 = .ok (.aload_n 0, 1) := by decide +kernel
theorem d_R_hear_116 : decode b_R_hear 116 = .ok (.aload_n 1, 1) := by decide +kernel
theorem d_R_hear_117 : decode b_R_hear 117 = .ok (.getfield 153, 3) := by decide +kernel
theorem d_R_hear_120 : decode b_R_hear 120 = .ok (.putfield 56, 3) := by decide +kernel
theorem d_R_hear_123 : decode b_R_hear 123 = .ok (.iconst 0, 1) := by decide +kernel
theorem d_R_hear_124 : decode b_R_hear 124 = .ok (.ireturn, 1) := by decide +kernel
theorem d_R_hear_125 : decode b_R_hear 125 = .ok (.iconst 0, 1) := by decide +kernel
theorem d_R_hear_126 : decode b_R_hear 126 = .ok (.ireturn, 1) := by decide +kernel
theorem d_R_isForUs_0 : decode b_R_isForUs 0 = .ok (.aload_n 1, 1) := by decide +kernel
theorem d_R_isForUs_1 : decode b_R_isForUs 1 = .ok (.getfield 156, 3) := by decide +kernel
theorem d_R_isForUs_4 : decode b_R_isForUs 4 = .ok (.sipush 255, 3) := by decide +kernel
theorem d_R_isForUs_7 : decode b_R_isForUs 7 = .ok (.if_icmp .ne 85, 3) := by decide +kernel
theorem d_R_isForUs_10 : decode b_R_isForUs 10 = .ok (.aload_n 1, 1) := by decide +kernel
theorem d_R_isForUs_11 : decode b_R_isForUs 11 = .ok (.getfield 159, 3) := by decide +kernel
theorem d_R_isForUs_14 : decode b_R_isForUs 14 = .ok (.bipush 12, 2) := by decide +kernel
theorem d_R_isForUs_16 : decode b_R_isForUs 16 = .ok (.if_icmp .ne 76, 3) := by decide +kernel
theorem d_R_isForUs_19 : decode b_R_isForUs 19 = .ok (.aload_n 1, 1) := by decide +kernel
theorem d_R_isForUs_20 : decode b_R_isForUs 20 = .ok (.iconst 0, 1) := by decide +kernel
theorem d_R_isForUs_21 : decode b_R_isForUs 21 = .ok (.invokevirtual 162, 3) := by decide +kernel
theorem d_R_isForUs_24 : decode b_R_isForUs 24 = .ok (.bipush 49, 2) := by decide +kernel
theorem d_R_isForUs_26 : decode b_R_isForUs 26 = .ok (.if_icmp .ne 66, 3) := by decide +kernel
theorem d_R_isForUs_29 : decode b_R_isForUs 29 = .ok (.aload_n 1, 1) := by decide +kernel
theorem d_R_isForUs_30 : decode b_R_isForUs 30 = .ok (.iconst 1, 1) := by decide +kernel
theorem d_R_isForUs_31 : decode b_R_isForUs 31 = .ok (.invokevirtual 162, 3) := by decide +kernel
theorem d_R_isForUs_34 : decode b_R_isForUs 34 = .ok (.aload_n 0, 1) := by decide +kernel
theorem d_R_isForUs_35 : decode b_R_isForUs 35 = .ok (.getfield 21, 3) := by decide +kernel
theorem d_R_isForUs_38 : decode b_R_isForUs 38 = .ok (.iconst 3, 1) := by decide +kernel
theorem d_R_isForUs_39 : decode b_R_isForUs 39 = .ok (.iaload, 1) := by decide +kernel
theorem d_R_isForUs_40 : decode b_R_isForUs 40 = .ok (.if_icmp .ne 52, 3) := by decide +kernel
theorem d_R_isForUs_43 : decode b_R_isForUs 43 = .ok (.aload_n 1, 1) := by decide +kernel
theorem d_R_isForUs_44 : decode b_R_isForUs 44 = .ok (.iconst 3, 1) := by decide +kernel
theorem d_R_isForUs_45 : decode b_R_isForUs 45 = .ok (.invokevirtual 162, 3) := by decide +kernel
theorem d_R_isForUs_48 : decode b_R_isForUs 48 = .ok (.iconst 1, 1) := by decide +kernel
theorem d_R_isForUs_49 : decode b_R_isForUs 49 = .ok (.if_icmp .ne 43, 3) := by decide +kernel
theorem d_R_isForUs_52 : decode b_R_isForUs 52 = .ok (.aload_n 1, 1) := by decide +kernel
theorem d_R_isForUs_53 : decode b_R_isForUs 53 = .ok (.bipush 8, 2) := by decide +kernel
theorem d_R_isForUs_55 : decode b_R_isForUs 55 = .ok (.invokevirtual 165, 3) := by decide +kernel
theorem d_R_isForUs_58 : decode b_R_isForUs 58 = .ok (.aload_n 0, 1) := by decide +kernel
theorem d_R_isForUs_59 : decode b_R_isForUs 59 = .ok (.getfield 21, 3) := by decide +kernel
theorem d_R_isForUs_62 : decode b_R_isForUs 62 = .ok (.iconst 5, 1) := by decide +kernel
theorem d_R_isForUs_63 : decode b_R_isForUs 63 = .ok (.iaload, 1) := by decide +kernel
theorem d_R_isForUs_64 : decode b_R_isForUs 64 = .ok (.if_icmp .ne 28, 3) := by decide +kernel
theorem d_R_isForUs_67 : decode b_R_isForUs 67 = .ok (.aload_n 1, 1) := by decide +kernel
theorem d_R_isForUs_68 : decode b_R_isForUs 68 = .ok (.invokevirtual 168, 3) := by decide +kernel
theorem d_R_isForUs_71 : decode b_R_isForUs 71 = .ok (.ldc 171, 2) := by decide +kernel
theorem d_R_isForUs_73 : decode b_R_isForUs 73 = .ok (.if_icmp .ne 19, 3) := by decide +kernel
theorem d_R_isForUs_76 : decode b_R_isForUs 76 = .ok (.aload_n 0, 1) := by decide +kernel
theorem d_R_isForUs_77 : decode b_R_isForUs 77 = .ok (.getfield 21, 3) := by decide +kernel
theorem d_R_isForUs_80 : decode b_R_isForUs 80 = .ok (.iconst 0, 1) := by decide +kernel
theorem d_R_isForUs_81 : decode b_R_isForUs 81 = .ok (.iaload, 1) := by decide +kernel
theorem d_R_isForUs_82 : decode b_R_isForUs 82 = .ok (.sipush 255, 3) := by decide +kernel
theorem d_R_isForUs_85 : decode b_R_isForUs 85 = .ok (.if_icmp .eq 7, 3) := by decide +kernel
theorem d_R_isForUs_88 : decode b_R_isForUs 88 = .ok (.iconst 1, 1) := by decide +kernel
theorem d_R_isForUs_89 : decode b_R_isForUs 89 = .ok (.goto 4, 3) := by decide +kernel
theorem d_R_isForUs_92 : decode b_R_isForUs 92 = .ok (.iconst 0, 1) := by decide +kernel
theorem d_R_isForUs_93 : decode b_R_isForUs 93 = .ok (.ireturn, 1) := by decide +kernel
theorem d_R_hearAsBackup_0 : decode b_R_hearAsBackup 0 = .ok (.aload_n 1, 1) := by decide +kernel
theorem d_R_hearAsBackup_1 : decode b_R_hearAsBackup 1 = .ok (.iconst 2, 1) := by decide +kernel
theorem d_R_hearAsBackup_2 : decode b_R_hearAsBackup 2 = .ok (.invokevirtual 162, 3) := by decide +kernel
theorem d_R_hearAsBackup_5 : decode b_R_hearAsBackup 5 = .ok (.istore_n 2, 1) := by decide +kernel
theorem d_R_hearAsBackup_6 : decode b_R_hearAsBackup 6 = .ok (.iload_n 2, 1) := by decide +kernel
theorem d_R_hearAsBackup_7 : decode b_R_hearAsBackup 7 = .ok (.ifCond .ne 18, 3) := by decide +kernel
theorem d_R_hearAsBackup_10 : decode b_R_hearAsBackup 10 = .ok (.aload_n 0, 1) := by decide +kernel
theorem d_R_hearAsBackup_11 : decode b_R_hearAsBackup 11 = .ok (.iconst 1, 1) := by decide +kernel
theorem d_R_hearAsBackup_12 : decode b_R_hearAsBackup 12 = .ok (.aload_n 0, 1) := by decide +kernel
theorem d_R_hearAsBackup_13 : decode b_R_hearAsBackup 13 = .ok (.invokevirtual 78, 3) := by decide +kernel
theorem d_R_hearAsBackup_16 : decode b_R_hearAsBackup 16 = .ok (.invokestatic 172, 3) := by decide +kernel
theorem d_R_hearAsBackup_19 : decode b_R_hearAsBackup 19 = .ok (.putfield 37, 3) := by decide +kernel
theorem d_R_hearAsBackup_22 : decode b_R_hearAsBackup 22 = .ok (.goto 32, 3) := by decide +kernel
theorem d_R_hearAsBackup_25 : decode b_R_hearAsBackup 25 = .ok (.aload_n 0, 1) := by decide +kernel
theorem d_R_hearAsBackup_26 : decode b_R_hearAsBackup 26 = .ok (.getfield 21, 3) := by decide +kernel
theorem d_R_hearAsBackup_29 : decode b_R_hearAsBackup 29 = .ok (.iconst 2, 1) := by decide +kernel
theorem d_R_hearAsBackup_30 : decode b_R_hearAsBackup 30 = .ok (.iaload, 1) := by decide +kernel
theorem d_R_hearAsBackup_31 : decode b_R_hearAsBackup 31 = .ok (.ifCond .eq 11, 3) := by decide +kernel
theorem d_R_hearAsBackup_34 : decode b_R_hearAsBackup 34 = .ok (.iload_n 2, 1) := by decide +kernel
theorem d_R_hearAsBackup_35 : decode b_R_hearAsBackup 35 = .ok (.aload_n 0, 1) := by decide +kernel
theorem d_R_hearAsBackup_36 : decode b_R_hearAsBackup 36 = .ok (.invokevirtual 40, 3) := by decide +kernel
theorem d_R_hearAsBackup_39 : decode b_R_hearAsBackup 39 = .ok (.if_icmp .lt 15, 3) := by decide +kernel
theorem d_R_hearAsBackup_42 : decode b_R_hearAsBackup 42 = .ok (.aload_n 0, 1) := by decide +kernel
theorem d_R_hearAsBackup_43 : decode b_R_hearAsBackup 43 = .ok (.aload_n 1, 1) := by decide +kernel
theorem d_R_hearAsBackup_44 : decode b_R_hearAsBackup 44 = .ok (.invokestatic 178, 3) := by decide +kernel
theorem d_R_hearAsBackup_47 : decode b_R_hearAsBackup 47 = .ok (.putfield 44, 3) := by decide +kernel
theorem d_R_hearAsBackup_50 : decode b_R_hearAsBackup 50 = .ok (.aload_n 0, 1) := by decide +kernel
theorem d_R_hearAsBackup_51 : decode b_R_hearAsBackup 51 = .ok (.invokevirtual 62, 3) := by decide +kernel
theorem d_R_hearAsBackup_54 : decode b_R_hearAsBackup 54 = .ok (.return_, 1) := by decide +kernel
theorem d_R_hearAsActive_0 : decode b_R_hearAsActive 0 = .ok (.aload_n 1, 1) := by decide +kernel
theorem d_R_hearAsActive_1 : decode b_R_hearAsActive 1 = .ok (.iconst 2, 1) := by decide +kernel
theorem d_R_hearAsActive_2 : decode b_R_hearAsActive 2 = .ok (.invokevirtual 162, 3) := by decide +kernel
theorem d_R_hearAsActive_5 : decode b_R_hearAsActive 5 = .ok (.istore_n 2, 1) := by decide +kernel
theorem d_R_hearAsActive_6 : decode b_R_hearAsActive 6 = .ok (.aload_n 0, 1) := by decide +kernel
theorem d_R_hearAsActive_7 : decode b_R_hearAsActive 7 = .ok (.invokevirtual 40, 3) := by decide +kernel
theorem d_R_hearAsActive_10 : decode b_R_hearAsActive 10 = .ok (.istore_n 3, 1) := by decide +kernel
theorem d_R_hearAsActive_11 : decode b_R_hearAsActive 11 = .ok (.iload_n 2, 1) := by decide +kernel
theorem d_R_hearAsActive_12 : decode b_R_hearAsActive 12 = .ok (.ifCond .ne 21, 3) := by decide +kernel
theorem d_R_hearAsActive_15 : decode b_R_hearAsActive 15 = .ok (.aload_n 0, 1) := by decide +kernel
theorem d_R_hearAsActive_16 : decode b_R_hearAsActive 16 = .ok (.iload_n 3, 1) := by decide +kernel
theorem d_R_hearAsActive_17 : decode b_R_hearAsActive 17 = .ok (.invokevirtual 65, 3) := by decide +kernel
theorem d_R_hearAsActive_20 : decode b_R_hearAsActive 20 = .ok (.aload_n 0, 1) := by decide +kernel
theorem d_R_hearAsActive_21 : decode b_R_hearAsActive 21 = .ok (.aload_n 0, 1) := by decide +kernel
theorem d_R_hearAsActive_22 : decode b_R_hearAsActive 22 = .ok (.getfield 21, 3) := by decide +kernel
theorem d_R_hearAsActive_25 : decode b_R_hearAsActive 25 = .ok (.iconst 1, 1) := by decide +kernel
theorem d_R_hearAsActive_26 : decode b_R_hearAsActive 26 = .ok (.iaload, 1) := by decide +kernel
theorem d_R_hearAsActive_27 : decode b_R_hearAsActive 27 = .ok (.putfield 37, 3) := by decide +kernel
theorem d_R_hearAsActive_30 : decode b_R_hearAsActive 30 = .ok (.goto 49, 3) := by decide +kernel
theorem d_R_hearAsActive_33 : decode b_R_hearAsActive 33 = .ok (.iload_n 2, 1) := by decide +kernel
theorem d_R_hearAsActive_34 : decode b_R_hearAsActive 34 = .ok (.iload_n 3, 1) := by decide +kernel
theorem d_R_hearAsActive_35 : decode b_R_hearAsActive 35 = .ok (.if_icmp .gt 24, 3) := by decide +kernel
theorem d_R_hearAsActive_38 : decode b_R_hearAsActive 38 = .ok (.iload_n 2, 1) := by decide +kernel
theorem d_R_hearAsActive_39 : decode b_R_hearAsActive 39 = .ok (.iload_n 3, 1) := by decide +kernel
theorem d_R_hearAsActive_40 : decode b_R_hearAsActive 40 = .ok (.if_icmp .ne 34, 3) := by decide +kernel
theorem d_R_hearAsActive_43 : decode b_R_hearAsActive 43 = .ok (.aload_n 1, 1) := by decide +kernel
theorem d_R_hearAsActive_44 : decode b_R_hearAsActive 44 = .ok (.getfield 153, 3) := by decide +kernel
theorem d_R_hearAsActive_47 : decode b_R_hearAsActive 47 = .ok (.aload_n 0, 1) := by decide +kernel
theorem d_R_hearAsActive_48 : decode b_R_hearAsActive 48 = .ok (.getfield 21, 3) := by decide +kernel
theorem d_R_hearAsActive_51 : decode b_R_hearAsActive 51 = .ok (.iconst 4, 1) := by decide +kernel
theorem d_R_hearAsActive_52 : decode b_R_hearAsActive 52 = .ok (.iaload, 1) := by decide +kernel
theorem d_R_hearAsActive_53 : decode b_R_hearAsActive 53 = .ok (.invokestatic 182, 3) := by decide +kernel
theorem d_R_hearAsActive_56 : decode b_R_hearAsActive 56 = .ok (.ifCond .eq 18, 3) := by decide +kernel
theorem d_R_hearAsActive_59 : decode b_R_hearAsActive 59 = .ok (.aload_n 0, 1) := by decide +kernel
theorem d_R_hearAsActive_60 : decode b_R_hearAsActive 60 = .ok (.aload_n 1, 1) := by decide +kernel
theorem d_R_hearAsActive_61 : decode b_R_hearAsActive 61 = .ok (.invokestatic 178, 3) := by decide +kernel
theorem d_R_hearAsActive_64 : decode b_R_hearAsActive 64 = .ok (.putfield 44, 3) := by decide +kernel
theorem d_R_hearAsActive_67 : decode b_R_hearAsActive 67 = .ok (.aload_n 0, 1) := by decide +kernel
theorem d_R_hearAsActive_68 : decode b_R_hearAsActive 68 = .ok (.invokevirtual 62, 3) := by decide +kernel
theorem d_R_hearAsActive_71 : decode b_R_hearAsActive 71 = .ok (.goto 8, 3) := by decide +kernel
theorem d_R_hearAsActive_74 : decode b_R_hearAsActive 74 = .ok (.aload_n 0, 1) := by decide +kernel
theorem d_R_hearAsActive_75 : decode b_R_hearAsActive 75 = .ok (.iload_n 3, 1) := by decide +kernel
theorem d_R_hearAsActive_76 : decode b_R_hearAsActive 76 = .ok (.invokevirtual 65, 3) := by decide +kernel
theorem d_R_hearAsActive_79 : decode b_R_hearAsActive 79 = .ok (.return_, 1) := by decide +kernel
theorem d_R_intervalIn_0 : decode b_R_intervalIn 0 = .ok (.iconst 1, 1) := by decide +kernel
theorem d_R_intervalIn_1 : decode b_R_intervalIn 1 = .ok (.aload_n 0, 1) := by decide +kernel
theorem d_R_intervalIn_2 : decode b_R_intervalIn 2 = .ok (.iconst 4, 1) := by decide +kernel
theorem d_R_intervalIn_3 : decode b_R_intervalIn 3 = .ok (.invokevirtual 186, 3) := by decide +kernel
theorem d_R_intervalIn_6 : decode b_R_intervalIn 6 = .ok (.sipush 4095, 3) := by decide +kernel
theorem d_R_intervalIn_9 : decode b_R_intervalIn 9 = .ok (.iand, 1) := by decide +kernel
theorem d_R_intervalIn_10 : decode b_R_intervalIn 10 = .ok (.invokestatic 172, 3) := by decide +kernel
theorem d_R_intervalIn_13 : decode b_R_intervalIn 13 = .ok (.ireturn, 1) := by decide +kernel
theorem d_R_isAbove_0 : decode b_R_isAbove 0 = .ok (.iload_n 0, 1) := by decide +kernel
theorem d_R_isAbove_1 : decode b_R_isAbove 1 = .ok (.i2l, 1) := by decide +kernel
theorem d_R_isAbove_2 : decode b_R_isAbove 2 = .ok (.ldc2_w 189, 3) := by decide +kernel
theorem d_R_isAbove_5 : decode b_R_isAbove 5 = .ok (.land, 1) := by decide +kernel
theorem d_R_isAbove_6 : decode b_R_isAbove 6 = .ok (.iload_n 1, 1) := by decide +kernel
theorem d_R_isAbove_7 : decode b_R_isAbove 7 = .ok (.i2l, 1) := by decide +kernel
theorem d_R_isAbove_8 : decode b_R_isAbove 8 = .ok (.ldc2_w 189, 3) := by decide +kernel
theorem d_R_isAbove_11 : decode b_R_isAbove 11 = .ok (.land, 1) := by decide +kernel
theorem d_R_isAbove_12 : decode b_R_isAbove 12 = .ok (.lcmp, 1) := by decide +kernel
theorem d_R_isAbove_13 : decode b_R_isAbove 13 = .ok (.ifCond .le 7, 3) := by decide +kernel
theorem d_R_isAbove_16 : decode b_R_isAbove 16 = .ok (.iconst 1, 1) := by decide +kernel
theorem d_R_isAbove_17 : decode b_R_isAbove 17 = .ok (.goto 4, 3) := by decide +kernel
theorem d_R_isAbove_20 : decode b_R_isAbove 20 = .ok (.iconst 0, 1) := by decide +kernel
theorem d_R_isAbove_21 : decode b_R_isAbove 21 = .ok (.ireturn, 1) := by decide +kernel
theorem d_R_hearPacket_0 : decode b_R_hearPacket 0 = .ok (.aload_n 1, 1) := by decide +kernel
theorem d_R_hearPacket_1 : decode b_R_hearPacket 1 = .ok (.invokestatic 191, 3) := by decide +kernel
theorem d_R_hearPacket_4 : decode b_R_hearPacket 4 = .ok (.ifCond .eq 11, 3) := by decide +kernel
theorem d_R_hearPacket_7 : decode b_R_hearPacket 7 = .ok (.aload_n 0, 1) := by decide +kernel
theorem d_R_hearPacket_8 : decode b_R_hearPacket 8 = .ok (.aload_n 1, 1) := by decide +kernel
theorem d_R_hearPacket_9 : decode b_R_hearPacket 9 = .ok (.invokevirtual 194, 3) := by decide +kernel
theorem d_R_hearPacket_12 : decode b_R_hearPacket 12 = .ok (.goto 4, 3) := by decide +kernel
theorem d_R_hearPacket_15 : decode b_R_hearPacket 15 = .ok (.aconst_null, 1) := by decide +kernel
theorem d_R_hearPacket_16 : decode b_R_hearPacket 16 = .ok (.astore_n 2, 1) := by decide +kernel
theorem d_R_hearPacket_17 : decode b_R_hearPacket 17 = .ok (.aload_n 2, 1) := by decide +kernel
theorem d_R_hearPacket_18 : decode b_R_hearPacket 18 = .ok (.ifnonnull 5, 3) := by decide +kernel
theorem d_R_hearPacket_21 : decode b_R_hearPacket 21 = .ok (.iconst 0, 1) := by decide +kernel
theorem d_R_hearPacket_22 : decode b_R_hearPacket 22 = .ok (.ireturn, 1) := by decide +kernel
theorem d_R_hearPacket_23 : decode b_R_hearPacket 23 = .ok (.aload_n 2, 1) := by decide +kernel
theorem d_R_hearPacket_24 : decode b_R_hearPacket 24 = .ok (.aload_n 1, 1) := by decide +kernel
theorem d_R_hearPacket_25 : decode b_R_hearPacket 25 = .ok (.invokevirtual 198, 3) := by decide +kernel
theorem d_R_hearPacket_28 : decode b_R_hearPacket 28 = .ok (.istore_n 3, 1) := by decide +kernel
theorem d_R_hearPacket_29 : decode b_R_hearPacket 29 = .ok (.aload_n 1, 1) := by decide +kernel
theorem d_R_hearPacket_30 : decode b_R_hearPacket 30 = .ok (.iconst 1, 1) := by decide +kernel
theorem d_R_hearPacket_31 : decode b_R_hearPacket 31 = .ok (.invokevirtual 162, 3) := by decide +kernel
theorem d_R_hearPacket_34 : decode b_R_hearPacket 34 = .ok (.bipush 32, 2) := by decide +kernel
theorem d_R_hearPacket_36 : decode b_R_hearPacket 36 = .ok (.iand, 1) := by decide +kernel
theorem d_R_hearPacket_37 : decode b_R_hearPacket 37 = .ok (.ifCond .eq 10, 3) := by decide +kernel
theorem d_R_hearPacket_40 : decode b_R_hearPacket 40 = .ok (.aload_n 0, 1) := by decide +kernel
theorem d_R_hearPacket_41 : decode b_R_hearPacket 41 = .ok (.aload_n 2, 1) := by decide +kernel
theorem d_R_hearPacket_42 : decode b_R_hearPacket 42 = .ok (.bipush 16, 2) := by decide +kernel
theorem d_R_hearPacket_44 : decode b_R_hearPacket 44 = .ok (.invokevirtual 201, 3) := by decide +kernel
theorem d_R_hearPacket_47 : decode b_R_hearPacket 47 = .ok (.iload_n 3, 1) := by decide +kernel
theorem d_R_hearPacket_48 : decode b_R_hearPacket 48 = .ok (.ifCond .eq 7, 3) := by decide +kernel
theorem d_R_hearPacket_51 : decode b_R_hearPacket 51 = .ok (.aload_n 2, 1) := by decide +kernel
theorem d_R_hearPacket_52 : decode b_R_hearPacket 52 = .ok (.invokevirtual 205, 3) := by decide +kernel
theorem d_R_hearPacket_55 : decode b_R_hearPacket 55 = .ok (.iconst 1, 1) := by decide +kernel
theorem d_R_hearPacket_56 : decode b_R_hearPacket 56 = .ok (.ireturn, 1) := by decide +kernel
theorem d_R_isWhole_0 : decode b_R_isWhole 0 = .ok (.aload_n 0, 1) := by decide +kernel
theorem d_R_isWhole_1 : decode b_R_isWhole 1 = .ok (.getfield 156, 3) := by decide +kernel
theorem d_R_isWhole_4 : decode b_R_isWhole 4 = .ok (.sipush 255, 3) := by decide +kernel
theorem d_R_isWhole_7 : decode b_R_isWhole 7 = .ok (.if_icmp .ne 84, 3) := by decide +kernel
theorem d_R_isWhole_10 : decode b_R_isWhole 10 = .ok (.aload_n 0, 1) := by decide +kernel
theorem d_R_isWhole_11 : decode b_R_isWhole 11 = .ok (.getfield 159, 3) := by decide +kernel
theorem d_R_isWhole_14 : decode b_R_isWhole 14 = .ok (.bipush 24, 2) := by decide +kernel
theorem d_R_isWhole_16 : decode b_R_isWhole 16 = .ok (.if_icmp .lt 75, 3) := by decide +kernel
theorem d_R_isWhole_19 : decode b_R_isWhole 19 = .ok (.aload_n 0, 1) := by decide +kernel
theorem d_R_isWhole_20 : decode b_R_isWhole 20 = .ok (.iconst 0, 1) := by decide +kernel
theorem d_R_isWhole_21 : decode b_R_isWhole 21 = .ok (.invokevirtual 162, 3) := by decide +kernel
theorem d_R_isWhole_24 : decode b_R_isWhole 24 = .ok (.bipush 32, 2) := by decide +kernel
theorem d_R_isWhole_26 : decode b_R_isWhole 26 = .ok (.if_icmp .lt 65, 3) := by decide +kernel
theorem d_R_isWhole_29 : decode b_R_isWhole 29 = .ok (.aload_n 0, 1) := by decide +kernel
theorem d_R_isWhole_30 : decode b_R_isWhole 30 = .ok (.iconst 0, 1) := by decide +kernel
theorem d_R_isWhole_31 : decode b_R_isWhole 31 = .ok (.invokevirtual 162, 3) := by decide +kernel
theorem d_R_isWhole_34 : decode b_R_isWhole 34 = .ok (.bipush 63, 2) := by decide +kernel
theorem d_R_isWhole_36 : decode b_R_isWhole 36 = .ok (.if_icmp .gt 55, 3) := by decide +kernel
theorem d_R_isWhole_39 : decode b_R_isWhole 39 = .ok (.aload_n 0, 1) := by decide +kernel
theorem d_R_isWhole_40 : decode b_R_isWhole 40 = .ok (.iconst 3, 1) := by decide +kernel
theorem d_R_isWhole_41 : decode b_R_isWhole 41 = .ok (.invokevirtual 162, 3) := by decide +kernel
theorem d_R_isWhole_44 : decode b_R_isWhole 44 = .ok (.bipush 24, 2) := by decide +kernel
theorem d_R_isWhole_46 : decode b_R_isWhole 46 = .ok (.if_icmp .lt 45, 3) := by decide +kernel
theorem d_R_isWhole_49 : decode b_R_isWhole 49 = .ok (.aload_n 0, 1) := by decide +kernel
theorem d_R_isWhole_50 : decode b_R_isWhole 50 = .ok (.iconst 3, 1) := by decide +kernel
theorem d_R_isWhole_51 : decode b_R_isWhole 51 = .ok (.invokevirtual 162, 3) := by decide +kernel
theorem d_R_isWhole_54 : decode b_R_isWhole 54 = .ok (.aload_n 0, 1) := by decide +kernel
theorem d_R_isWhole_55 : decode b_R_isWhole 55 = .ok (.getfield 159, 3) := by decide +kernel
theorem d_R_isWhole_58 : decode b_R_isWhole 58 = .ok (.if_icmp .gt 33, 3) := by decide +kernel
theorem d_R_isWhole_61 : decode b_R_isWhole 61 = .ok (.aload_n 0, 1) := by decide +kernel
theorem d_R_isWhole_62 : decode b_R_isWhole 62 = .ok (.iconst 2, 1) := by decide +kernel
theorem d_R_isWhole_63 : decode b_R_isWhole 63 = .ok (.invokevirtual 162, 3) := by decide +kernel
theorem d_R_isWhole_66 : decode b_R_isWhole 66 = .ok (.ifCond .eq 25, 3) := by decide +kernel
theorem d_R_isWhole_69 : decode b_R_isWhole 69 = .ok (.aload_n 0, 1) := by decide +kernel
theorem d_R_isWhole_70 : decode b_R_isWhole 70 = .ok (.iconst 1, 1) := by decide +kernel
theorem d_R_isWhole_71 : decode b_R_isWhole 71 = .ok (.invokevirtual 162, 3) := by decide +kernel
theorem d_R_isWhole_74 : decode b_R_isWhole 74 = .ok (.iconst 5, 1) := by decide +kernel
theorem d_R_isWhole_75 : decode b_R_isWhole 75 = .ok (.iand, 1) := by decide +kernel
theorem d_R_isWhole_76 : decode b_R_isWhole 76 = .ok (.ifCond .ne 15, 3) := by decide +kernel
theorem d_R_isWhole_79 : decode b_R_isWhole 79 = .ok (.aload_n 0, 1) := by decide +kernel
theorem d_R_isWhole_80 : decode b_R_isWhole 80 = .ok (.iconst 4, 1) := by decide +kernel
theorem d_R_isWhole_81 : decode b_R_isWhole 81 = .ok (.invokevirtual 165, 3) := by decide +kernel
theorem d_R_isWhole_84 : decode b_R_isWhole 84 = .ok (.ifCond .eq 7, 3) := by decide +kernel
theorem d_R_isWhole_87 : decode b_R_isWhole 87 = .ok (.iconst 1, 1) := by decide +kernel
theorem d_R_isWhole_88 : decode b_R_isWhole 88 = .ok (.goto 4, 3) := by decide +kernel
theorem d_R_isWhole_91 : decode b_R_isWhole 91 = .ok (.iconst 0, 1) := by decide +kernel
theorem d_R_isWhole_92 : decode b_R_isWhole 92 = .ok (.ireturn, 1) := by decide +kernel
theorem d_R_sessionMeant_0 : decode b_R_sessionMeant 0 = .ok (.aload_n 1, 1) := by decide +kernel
theorem d_R_sessionMeant_1 : decode b_R_sessionMeant 1 = .ok (.bipush 8, 2) := by decide +kernel
theorem d_R_sessionMeant_3 : decode b_R_sessionMeant 3 = .ok (.invokevirtual 165, 3) := by decide +kernel
theorem d_R_sessionMeant_6 : decode b_R_sessionMeant 6 = .ok (.istore_n 2, 1) := by decide +kernel
theorem d_R_sessionMeant_7 : decode b_R_sessionMeant 7 = .ok (.iload_n 2, 1) := by decide +kernel
theorem d_R_sessionMeant_8 : decode b_R_sessionMeant 8 = .ok (.ifCond .ne 19, 3) := by decide +kernel
theorem d_R_sessionMeant_11 : decode b_R_sessionMeant 11 = .ok (.aload_n 1, 1) := by decide +kernel
theorem d_R_sessionMeant_12 : decode b_R_sessionMeant 12 = .ok (.iconst 1, 1) := by decide +kernel
theorem d_R_sessionMeant_13 : decode b_R_sessionMeant 13 = .ok (.invokevirtual 162, 3) := by decide +kernel
theorem d_R_sessionMeant_16 : decode b_R_sessionMeant 16 = .ok (.bipush 64, 2) := by decide +kernel
theorem d_R_sessionMeant_18 : decode b_R_sessionMeant 18 = .ok (.idiv, 1) := by decide +kernel
theorem d_R_sessionMeant_19 : decode b_R_sessionMeant 19 = .ok (.iconst 1, 1) := by decide +kernel
theorem d_R_sessionMeant_20 : decode b_R_sessionMeant 20 = .ok (.if_icmp .gt 7, 3) := by decide +kernel
theorem d_R_sessionMeant_23 : decode b_R_sessionMeant 23 = .ok (.iconst 1, 1) := by decide +kernel
theorem d_R_sessionMeant_24 : decode b_R_sessionMeant 24 = .ok (.goto 4, 3) := by decide +kernel
theorem d_R_sessionMeant_27 : decode b_R_sessionMeant 27 = .ok (.iconst 0, 1) := by decide +kernel
theorem d_R_sessionMeant_28 : decode b_R_sessionMeant 28 = .ok (.istore_n 3, 1) := by decide +kernel
theorem d_R_sessionMeant_29 : decode b_R_sessionMeant 29 = .ok (.iconst 0, 1) := by decide +kernel
theorem d_R_sessionMeant_30 : decode b_R_sessionMeant 30 = .ok (.istore 4, 2) := by decide +kernel
theorem d_R_sessionMeant_32 : decode b_R_sessionMeant 32 = .ok (.iload 4, 2) := by decide +kernel
theorem d_R_sessionMeant_34 : decode b_R_sessionMeant 34 = .ok (.iconst 5, 1) := by decide +kernel
theorem d_R_sessionMeant_35 : decode b_R_sessionMeant 35 = .ok (.if_icmp .ge 51, 3) := by decide +kernel
theorem d_R_sessionMeant_38 : decode b_R_sessionMeant 38 = .ok (.aload_n 0, 1) := by decide +kernel
theorem d_R_sessionMeant_39 : decode b_R_sessionMeant 39 = .ok (.getfield 27, 3) := by decide +kernel
theorem d_R_sessionMeant_42 : decode b_R_sessionMeant 42 = .ok (.iload 4, 2) := by decide +kernel
theorem d_R_sessionMeant_44 : decode b_R_sessionMeant 44 = .ok (.aaload, 1) := by decide +kernel
theorem d_R_sessionMeant_45 : decode b_R_sessionMeant 45 = .ok (.astore 5, 2) := by decide +kernel
theorem d_R_sessionMeant_47 : decode b_R_sessionMeant 47 = .ok (.aload 5, 2) := by decide +kernel
theorem d_R_sessionMeant_49 : decode b_R_sessionMeant 49 = .ok (.getfield 69, 3) := by decide +kernel
theorem d_R_sessionMeant_52 : decode b_R_sessionMeant 52 = .ok (.ifCond .eq 28, 3) := by decide +kernel
theorem d_R_sessionMeant_55 : decode b_R_sessionMeant 55 = .ok (.aload 5, 2) := by decide +kernel
theorem d_R_sessionMeant_57 : decode b_R_sessionMeant 57 = .ok (.getfield 113, 3) := by decide +kernel
theorem d_R_sessionMeant_60 : decode b_R_sessionMeant 60 = .ok (.iload_n 2, 1) := by decide +kernel
theorem d_R_sessionMeant_61 : decode b_R_sessionMeant 61 = .ok (.if_icmp .eq 16, 3) := by decide +kernel
theorem d_R_sessionMeant_64 : decode b_R_sessionMeant 64 = .ok (.iload_n 3, 1) := by decide +kernel
theorem d_R_sessionMeant_65 : decode b_R_sessionMeant 65 = .ok (.ifCond .eq 15, 3) := by decide +kernel
theorem d_R_sessionMeant_68 : decode b_R_sessionMeant 68 = .ok (.iload 4, 2) := by decide +kernel
theorem d_R_sessionMeant_70 : decode b_R_sessionMeant 70 = .ok (.aload_n 1, 1) := by decide +kernel
theorem d_R_sessionMeant_71 : decode b_R_sessionMeant 71 = .ok (.getfield 150, 3) := by decide +kernel
theorem d_R_sessionMeant_74 : decode b_R_sessionMeant 74 = .ok (.if_icmp .ne 6, 3) := by decide +kernel
theorem d_R_sessionMeant_77 : decode b_R_sessionMeant 77 = .ok (.aload 5, 2) := by decide +kernel
theorem d_R_sessionMeant_79 : decode b_R_sessionMeant 79 = .ok (.areturn, 1) := by decide +kernel
theorem d_R_sessionMeant_80 : decode b_R_sessionMeant 80 = .ok (.iinc 4 1, 3) := by decide +kernel
theorem d_R_sessionMeant_83 : decode b_R_sessionMeant 83 = .ok (.goto (-51), 3) := by decide +kernel
theorem d_R_sessionMeant_86 : decode b_R_sessionMeant 86 = .ok (.aconst_null, 1) := by decide +kernel
theorem d_R_sessionMeant_87 : decode b_R_sessionMeant 87 = .ok (.areturn, 1) := by decide +kernel
theorem d_R_runTimers_0 : decode b_R_runTimers 0 = .ok (.aload_n 0, 1) := by decide +kernel
theorem d_R_runTimers_1 : decode b_R_runTimers 1 = .ok (.getfield 34, 3) := by decide +kernel
theorem d_R_runTimers_4 : decode b_R_runTimers 4 = .ok (.ifCond .ne 4, 3) := by decide +kernel
theorem d_R_runTimers_7 : decode b_R_runTimers 7 = .ok (.return_, 1) := by decide +kernel
theorem d_R_runTimers_8 : decode b_R_runTimers 8 = .ok (.aload_n 0, 1) := by decide +kernel
theorem d_R_runTimers_9 : decode b_R_runTimers 9 = .ok (.dup, 1) := by decide +kernel
theorem d_R_runTimers_10 : decode b_R_runTimers 10 = .ok (.getfield 37, 3) := by decide +kernel
theorem d_R_runTimers_13 : decode b_R_runTimers 13 = .ok (.iconst 1, 1) := by decide +kernel
theorem d_R_runTimers_14 : decode b_R_runTimers 14 = .ok (.isub, 1) := by decide +kernel
theorem d_R_runTimers_15 : decode b_R_runTimers 15 = .ok (.putfield 37, 3) := by decide +kernel
theorem d_R_runTimers_18 : decode b_R_runTimers 18 = .ok (.aload_n 0, 1) := by decide +kernel
theorem d_R_runTimers_19 : decode b_R_runTimers 19 = .ok (.getfield 37, 3) := by decide +kernel
theorem d_R_runTimers_22 : decode b_R_runTimers 22 = .ok (.ifCond .gt 7, 3) := by decide +kernel
theorem d_R_runTimers_25 : decode b_R_runTimers 25 = .ok (.aload_n 0, 1) := by decide +kernel
theorem d_R_runTimers_26 : decode b_R_runTimers 26 = .ok (.invokevirtual 208, 3) := by decide +kernel
theorem d_R_runTimers_29 : decode b_R_runTimers 29 = .ok (.iconst 0, 1) := by decide +kernel
theorem d_R_runTimers_30 : decode b_R_runTimers 30 = .ok (.istore_n 1, 1) := by decide +kernel
theorem d_R_runTimers_31 : decode b_R_runTimers 31 = .ok (.iload_n 1, 1) := by decide +kernel
theorem d_R_runTimers_32 : decode b_R_runTimers 32 = .ok (.iconst 5, 1) := by decide +kernel
theorem d_R_runTimers_33 : decode b_R_runTimers 33 = .ok (.if_icmp .ge 31, 3) := by decide +kernel
theorem d_R_runTimers_36 : decode b_R_runTimers 36 = .ok (.aload_n 0, 1) := by decide +kernel
theorem d_R_runTimers_37 : decode b_R_runTimers 37 = .ok (.getfield 27, 3) := by decide +kernel
theorem d_R_runTimers_40 : decode b_R_runTimers 40 = .ok (.iload_n 1, 1) := by decide +kernel
theorem d_R_runTimers_41 : decode b_R_runTimers 41 = .ok (.aaload, 1) := by decide +kernel
theorem d_R_runTimers_42 : decode b_R_runTimers 42 = .ok (.getfield 69, 3) := by decide +kernel
theorem d_R_runTimers_45 : decode b_R_runTimers 45 = .ok (.ifCond .eq 13, 3) := by decide +kernel
theorem d_R_runTimers_48 : decode b_R_runTimers 48 = .ok (.aload_n 0, 1) := by decide +kernel
theorem d_R_runTimers_49 : decode b_R_runTimers 49 = .ok (.aload_n 0, 1) := by decide +kernel
theorem d_R_runTimers_50 : decode b_R_runTimers 50 = .ok (.getfield 27, 3) := by decide +kernel
theorem d_R_runTimers_53 : decode b_R_runTimers 53 = .ok (.iload_n 1, 1) := by decide +kernel
theorem d_R_runTimers_54 : decode b_R_runTimers 54 = .ok (.aaload, 1) := by decide +kernel
theorem d_R_runTimers_55 : decode b_R_runTimers 55 = .ok (.invokevirtual 211, 3) := by decide +kernel
theorem d_R_runTimers_58 : decode b_R_runTimers 58 = .ok (.iinc 1 1, 3) := by decide +kernel
theorem d_R_runTimers_61 : decode b_R_runTimers 61 = .ok (.goto (-30), 3) := by decide +kernel
theorem d_R_runTimers_64 : decode b_R_runTimers 64 = .ok (.return_, 1) := by decide +kernel
theorem d_R_timerFires_0 : decode b_R_timerFires 0 = .ok (.aload_n 0, 1) := by decide +kernel
theorem d_R_timerFires_1 : decode b_R_timerFires 1 = .ok (.getfield 34, 3) := by decide +kernel
theorem d_R_timerFires_4 : decode b_R_timerFires 4 = .ok (.iconst 1, 1) := by decide +kernel
theorem d_R_timerFires_5 : decode b_R_timerFires 5 = .ok (.if_icmp .ne 10, 3) := by decide +kernel
theorem d_R_timerFires_8 : decode b_R_timerFires 8 = .ok (.aload_n 0, 1) := by decide +kernel
theorem d_R_timerFires_9 : decode b_R_timerFires 9 = .ok (.invokevirtual 59, 3) := by decide +kernel
theorem d_R_timerFires_12 : decode b_R_timerFires 12 = .ok (.goto 21, 3) := by decide +kernel
theorem d_R_timerFires_15 : decode b_R_timerFires 15 = .ok (.aload_n 0, 1) := by decide +kernel
theorem d_R_timerFires_16 : decode b_R_timerFires 16 = .ok (.aload_n 0, 1) := by decide +kernel
theorem d_R_timerFires_17 : decode b_R_timerFires 17 = .ok (.invokevirtual 40, 3) := by decide +kernel
theorem d_R_timerFires_20 : decode b_R_timerFires 20 = .ok (.invokevirtual 65, 3) := by decide +kernel
theorem d_R_timerFires_23 : decode b_R_timerFires 23 = .ok (.aload_n 0, 1) := by decide +kernel
theorem d_R_timerFires_24 : decode b_R_timerFires 24 = .ok (.aload_n 0, 1) := by decide +kernel
theorem d_R_timerFires_25 : decode b_R_timerFires 25 = .ok (.getfield 21, 3) := by decide +kernel
theorem d_R_timerFires_28 : decode b_R_timerFires 28 = .ok (.iconst 1, 1) := by decide +kernel
theorem d_R_timerFires_29 : decode b_R_timerFires 29 = .ok (.iaload, 1) := by decide +kernel
theorem d_R_timerFires_30 : decode b_R_timerFires 30 = .ok (.putfield 37, 3) := by decide +kernel
theorem d_R_timerFires_33 : decode b_R_timerFires 33 = .ok (.return_, 1) := by decide +kernel
theorem d_R_runSession_0 : decode b_R_runSession 0 = .ok (.aload_n 1, 1) := by decide +kernel
theorem d_R_runSession_1 : decode b_R_runSession 1 = .ok (.invokevirtual 215, 3) := by decide +kernel
theorem d_R_runSession_4 : decode b_R_runSession 4 = .ok (.aload_n 1, 1) := by decide +kernel
theorem d_R_runSession_5 : decode b_R_runSession 5 = .ok (.invokevirtual 218, 3) := by decide +kernel
theorem d_R_runSession_8 : decode b_R_runSession 8 = .ok (.ifCond .eq 29, 3) := by decide +kernel
theorem d_R_runSession_11 : decode b_R_runSession 11 = .ok (.aload_n 0, 1) := by decide +kernel
theorem d_R_runSession_12 : decode b_R_runSession 12 = .ok (.aload_n 1, 1) := by decide +kernel
theorem d_R_runSession_13 : decode b_R_runSession 13 = .ok (.aload_n 1, 1) := by decide +kernel
theorem d_R_runSession_14 : decode b_R_runSession 14 = .ok (.getfield 222, 3) := by decide +kernel
theorem d_R_runSession_17 : decode b_R_runSession 17 = .ok (.ifCond .eq 8, 3) := by decide +kernel
theorem d_R_runSession_20 : decode b_R_runSession 20 = .ok (.bipush 32, 2) := by decide +kernel
theorem d_R_runSession_22 : decode b_R_runSession 22 = .ok (.goto 4, 3) := by decide +kernel
theorem d_R_runSession_25 : decode b_R_runSession 25 = .ok (.iconst 0, 1) := by decide +kernel
theorem d_R_runSession_26 : decode b_R_runSession 26 = .ok (.invokevirtual 201, 3) := by decide +kernel
theorem d_R_runSession_29 : decode b_R_runSession 29 = .ok (.aload_n 1, 1) := by decide +kernel
theorem d_R_runSession_30 : decode b_R_runSession 30 = .ok (.aload_n 1, 1) := by decide +kernel
theorem d_R_runSession_31 : decode b_R_runSession 31 = .ok (.invokevirtual 225, 3) := by decide +kernel
theorem d_R_runSession_34 : decode b_R_runSession 34 = .ok (.putfield 228, 3) := by decide +kernel
theorem d_R_runSession_37 : decode b_R_runSession 37 = .ok (.return_, 1) := by decide +kernel
end
section
theorem d_S_init_0 : decode b_S_init 0 = .ok (.aload_n 0, 1) := by decide +kernel
theorem d_S_init_1 : decode b_S_init 1 = .ok (.invokespecial 3, 3) := by decide +kernel
theorem d_S_init_4 : decode b_S_init 4 = .ok (.aload_n 0, 1) := by decide +kernel
theorem d_S_init_5 : decode b_S_init 5 = .ok (.iload_n 1, 1) := by decide +kernel
theorem d_S_init_6 : decode b_S_init 6 = .ok (.putfield 9, 3) := by decide +kernel
theorem d_S_init_9 : decode b_S_init 9 = .ok (.aload_n 0, 1) := by decide +kernel
theorem d_S_init_10 : decode b_S_init 10 = .ok (.iload_n 2, 1) := by decide +kernel
theorem d_S_init_11 : decode b_S_init 11 = .ok (.putfield 15, 3) := by decide +kernel
theorem d_S_init_14 : decode b_S_init 14 = .ok (.return_, 1) := by decide +kernel
theorem d_S_begin_0 : decode b_S_begin 0 = .ok (.aload_n 0, 1) := by decide +kernel
theorem d_S_begin_1 : decode b_S_begin 1 = .ok (.iconst 1, 1) := by decide +kernel
theorem d_S_begin_2 : decode b_S_begin 2 = .ok (.putfield 18, 3) := by decide +kernel
theorem d_S_begin_5 : decode b_S_begin 5 = .ok (.aload_n 0, 1) := by decide +kernel
theorem d_S_begin_6 : decode b_S_begin 6 = .ok (.iconst 1, 1) := by decide +kernel
theorem d_S_begin_7 : decode b_S_begin 7 = .ok (.putfield 22, 3) := by decide +kernel
theorem d_S_begin_10 : decode b_S_begin 10 = .ok (.aload_n 0, 1) := by decide +kernel
theorem d_S_begin_11 : decode b_S_begin 11 = .ok (.iconst 1, 1) := by decide +kernel
theorem d_S_begin_12 : decode b_S_begin 12 = .ok (.putfield 25, 3) := by decide +kernel
theorem d_S_begin_15 : decode b_S_begin 15 = .ok (.aload_n 0, 1) := by decide +kernel
theorem d_S_begin_16 : decode b_S_begin 16 = .ok (.iconst 0, 1) := by decide +kernel
theorem d_S_begin_17 : decode b_S_begin 17 = .ok (.putfield 28, 3) := by decide +kernel
theorem d_S_begin_20 : decode b_S_begin 20 = .ok (.aload_n 0, 1) := by decide +kernel
theorem d_S_begin_21 : decode b_S_begin 21 = .ok (.iconst 0, 1) := by decide +kernel
theorem d_S_begin_22 : decode b_S_begin 22 = .ok (.putfield 31, 3) := by decide +kernel
theorem d_S_begin_25 : decode b_S_begin 25 = .ok (.aload_n 0, 1) := by decide +kernel
theorem d_S_begin_26 : decode b_S_begin 26 = .ok (.iload_n 1, 1) := by decide +kernel
theorem d_S_begin_27 : decode b_S_begin 27 = .ok (.putfield 34, 3) := by decide +kernel
theorem d_S_begin_30 : decode b_S_begin 30 = .ok (.aload_n 0, 1) := by decide +kernel
theorem d_S_begin_31 : decode b_S_begin 31 = .ok (.iload_n 2, 1) := by decide +kernel
theorem d_S_begin_32 : decode b_S_begin 32 = .ok (.putfield 37, 3) := by decide +kernel
theorem d_S_begin_35 : decode b_S_begin 35 = .ok (.aload_n 0, 1) := by decide +kernel
theorem d_S_begin_36 : decode b_S_begin 36 = .ok (.iload_n 3, 1) := by decide +kernel
theorem d_S_begin_37 : decode b_S_begin 37 = .ok (.putfield 40, 3) := by decide +kernel
theorem d_S_begin_40 : decode b_S_begin 40 = .ok (.aload_n 0, 1) := by decide +kernel
theorem d_S_begin_41 : decode b_S_begin 41 = .ok (.iconst 1, 1) := by decide +kernel
theorem d_S_begin_42 : decode b_S_begin 42 = .ok (.putfield 43, 3) := by decide +kernel
theorem d_S_begin_45 : decode b_S_begin 45 = .ok (.aload_n 0, 1) := by decide +kernel
theorem d_S_begin_46 : decode b_S_begin 46 = .ok (.iconst 0, 1) := by decide +kernel
theorem d_S_begin_47 : decode b_S_begin 47 = .ok (.putfield 46, 3) := by decide +kernel
theorem d_S_begin_50 : decode b_S_begin 50 = .ok (.aload_n 0, 1) := by decide +kernel
theorem d_S_begin_51 : decode b_S_begin 51 = .ok (.iconst 0, 1) := by decide +kernel
theorem d_S_begin_52 : decode b_S_begin 52 = .ok (.putfield 49, 3) := by decide +kernel
theorem d_S_begin_55 : decode b_S_begin 55 = .ok (.aload_n 0, 1) := by decide +kernel
theorem d_S_begin_56 : decode b_S_begin 56 = .ok (.iconst 0, 1) := by decide +kernel
theorem d_S_begin_57 : decode b_S_begin 57 = .ok (.putfield 52, 3) := by decide +kernel
theorem d_S_begin_60 : decode b_S_begin 60 = .ok (.aload_n 0, 1) := by decide +kernel
theorem d_S_begin_61 : decode b_S_begin 61 = .ok (.invokevirtual 55, 3) := by decide +kernel
theorem d_S_begin_64 : decode b_S_begin 64 = .ok (.aload_n 0, 1) := by decide +kernel
theorem d_S_begin_65 : decode b_S_begin 65 = .ok (.iconst 0, 1) := by decide +kernel
theorem d_S_begin_66 : decode b_S_begin 66 = .ok (.putfield 58, 3) := by decide +kernel
theorem d_S_begin_69 : decode b_S_begin 69 = .ok (.aload_n 0, 1) := by decide +kernel
theorem d_S_begin_70 : decode b_S_begin 70 = .ok (.iconst 0, 1) := by decide +kernel
theorem d_S_begin_71 : decode b_S_begin 71 = .ok (.putfield 61, 3) := by decide +kernel
theorem d_S_begin_74 : decode b_S_begin 74 = .ok (.aload_n 0, 1) := by decide +kernel
theorem d_S_begin_75 : decode b_S_begin 75 = .ok (.aload_n 0, 1) := by decide +kernel
theorem d_S_begin_76 : decode b_S_begin 76 = .ok (.invokevirtual 64, 3) := by decide +kernel
theorem d_S_begin_79 : decode b_S_begin 79 = .ok (.putfield 68, 3) := by decide +kernel
theorem d_S_begin_82 : decode b_S_begin 82 = .ok (.return_, 1) := by decide +kernel
theorem d_S_wantRates_0 : decode b_S_wantRates 0 = .ok (.aload_n 0, 1) := by decide +kernel
theorem d_S_wantRates_1 : decode b_S_wantRates 1 = .ok (.iload_n 1, 1) := by decide +kernel
theorem d_S_wantRates_2 : decode b_S_wantRates 2 = .ok (.putfield 34, 3) := by decide +kernel
theorem d_S_wantRates_5 : decode b_S_wantRates 5 = .ok (.aload_n 0, 1) := by decide +kernel
theorem d_S_wantRates_6 : decode b_S_wantRates 6 = .ok (.iload_n 2, 1) := by decide +kernel
theorem d_S_wantRates_7 : decode b_S_wantRates 7 = .ok (.putfield 37, 3) := by decide +kernel
theorem d_S_wantRates_10 : decode b_S_wantRates 10 = .ok (.aload_n 0, 1) := by decide +kernel
theorem d_S_wantRates_11 : decode b_S_wantRates 11 = .ok (.getfield 22, 3) := by decide +kernel
theorem d_S_wantRates_14 : decode b_S_wantRates 14 = .ok (.iconst 3, 1) := by decide +kernel
theorem d_S_wantRates_15 : decode b_S_wantRates 15 = .ok (.if_icmp .eq 10, 3) := by decide +kernel
theorem d_S_wantRates_18 : decode b_S_wantRates 18 = .ok (.aload_n 0, 1) := by decide +kernel
theorem d_S_wantRates_19 : decode b_S_wantRates 19 = .ok (.invokevirtual 55, 3) := by decide +kernel
theorem d_S_wantRates_22 : decode b_S_wantRates 22 = .ok (.goto 38, 3) := by decide +kernel
theorem d_S_wantRates_25 : decode b_S_wantRates 25 = .ok (.aload_n 0, 1) := by decide +kernel
theorem d_S_wantRates_26 : decode b_S_wantRates 26 = .ok (.iconst 1, 1) := by decide +kernel
theorem d_S_wantRates_27 : decode b_S_wantRates 27 = .ok (.putfield 52, 3) := by decide +kernel
theorem d_S_wantRates_30 : decode b_S_wantRates 30 = .ok (.aload_n 0, 1) := by decide +kernel
theorem d_S_wantRates_31 : decode b_S_wantRates 31 = .ok (.aload_n 0, 1) := by decide +kernel
theorem d_S_wantRates_32 : decode b_S_wantRates 32 = .ok (.getfield 71, 3) := by decide +kernel
theorem d_S_wantRates_35 : decode b_S_wantRates 35 = .ok (.aload_n 0, 1) := by decide +kernel
theorem d_S_wantRates_36 : decode b_S_wantRates 36 = .ok (.getfield 34, 3) := by decide +kernel
theorem d_S_wantRates_39 : decode b_S_wantRates 39 = .ok (.invokestatic 74, 3) := by decide +kernel
theorem d_S_wantRates_42 : decode b_S_wantRates 42 = .ok (.putfield 71, 3) := by decide +kernel
theorem d_S_wantRates_45 : decode b_S_wantRates 45 = .ok (.aload_n 0, 1) := by decide +kernel
theorem d_S_wantRates_46 : decode b_S_wantRates 46 = .ok (.aload_n 0, 1) := by decide +kernel
theorem d_S_wantRates_47 : decode b_S_wantRates 47 = .ok (.getfield 80, 3) := by decide +kernel
theorem d_S_wantRates_50 : decode b_S_wantRates 50 = .ok (.aload_n 0, 1) := by decide +kernel
theorem d_S_wantRates_51 : decode b_S_wantRates 51 = .ok (.getfield 37, 3) := by decide +kernel
theorem d_S_wantRates_54 : decode b_S_wantRates 54 = .ok (.invokestatic 83, 3) := by decide +kernel
theorem d_S_wantRates_57 : decode b_S_wantRates 57 = .ok (.putfield 80, 3) := by decide +kernel
theorem d_S_wantRates_60 : decode b_S_wantRates 60 = .ok (.aload_n 0, 1) := by decide +kernel
theorem d_S_wantRates_61 : decode b_S_wantRates 61 = .ok (.invokevirtual 86, 3) := by decide +kernel
theorem d_S_wantRates_64 : decode b_S_wantRates 64 = .ok (.return_, 1) := by decide +kernel
theorem d_S_shut_0 : decode b_S_shut 0 = .ok (.aload_n 0, 1) := by decide +kernel
theorem d_S_shut_1 : decode b_S_shut 1 = .ok (.iconst 0, 1) := by decide +kernel
theorem d_S_shut_2 : decode b_S_shut 2 = .ok (.putfield 22, 3) := by decide +kernel
theorem d_S_shut_5 : decode b_S_shut 5 = .ok (.aload_n 0, 1) := by decide +kernel
theorem d_S_shut_6 : decode b_S_shut 6 = .ok (.bipush 7, 2) := by decide +kernel
theorem d_S_shut_8 : decode b_S_shut 8 = .ok (.putfield 31, 3) := by decide +kernel
theorem d_S_shut_11 : decode b_S_shut 11 = .ok (.aload_n 0, 1) := by decide +kernel
theorem d_S_shut_12 : decode b_S_shut 12 = .ok (.iconst 0, 1) := by decide +kernel
theorem d_S_shut_13 : decode b_S_shut 13 = .ok (.putfield 52, 3) := by decide +kernel
theorem d_S_shut_16 : decode b_S_shut 16 = .ok (.return_, 1) := by decide +kernel
theorem d_S_useRates_0 : decode b_S_useRates 0 = .ok (.aload_n 0, 1) := by decide +kernel
theorem d_S_useRates_1 : decode b_S_useRates 1 = .ok (.aload_n 0, 1) := by decide +kernel
theorem d_S_useRates_2 : decode b_S_useRates 2 = .ok (.getfield 34, 3) := by decide +kernel
theorem d_S_useRates_5 : decode b_S_useRates 5 = .ok (.putfield 71, 3) := by decide +kernel
theorem d_S_useRates_8 : decode b_S_useRates 8 = .ok (.aload_n 0, 1) := by decide +kernel
theorem d_S_useRates_9 : decode b_S_useRates 9 = .ok (.aload_n 0, 1) := by decide +kernel
theorem d_S_useRates_10 : decode b_S_useRates 10 = .ok (.getfield 37, 3) := by decide +kernel
theorem d_S_useRates_13 : decode b_S_useRates 13 = .ok (.putfield 80, 3) := by decide +kernel
theorem d_S_useRates_16 : decode b_S_useRates 16 = .ok (.return_, 1) := by decide +kernel
theorem d_S_slowed_0 : decode b_S_slowed 0 = .ok (.aload_n 0, 1) := by decide +kernel
theorem d_S_slowed_1 : decode b_S_slowed 1 = .ok (.getfield 22, 3) := by decide +kernel
theorem d_S_slowed_4 : decode b_S_slowed 4 = .ok (.iconst 3, 1) := by decide +kernel
theorem d_S_slowed_5 : decode b_S_slowed 5 = .ok (.if_icmp .ne 7, 3) := by decide +kernel
theorem d_S_slowed_8 : decode b_S_slowed 8 = .ok (.iload_n 1, 1) := by decide +kernel
theorem d_S_slowed_9 : decode b_S_slowed 9 = .ok (.goto 9, 3) := by decide +kernel
theorem d_S_slowed_12 : decode b_S_slowed 12 = .ok (.iload_n 1, 1) := by decide +kernel
theorem d_S_slowed_13 : decode b_S_slowed 13 = .ok (.bipush 100, 2) := by decide +kernel
theorem d_S_slowed_15 : decode b_S_slowed 15 = .ok (.invokestatic 83, 3) := by decide +kernel
theorem d_S_slowed_18 : decode b_S_slowed 18 = .ok (.ireturn, 1) := by decide +kernel
theorem d_S_sendPause_0 : decode b_S_sendPause 0 = .ok (.aload_n 0, 1) := by decide +kernel
theorem d_S_sendPause_1 : decode b_S_sendPause 1 = .ok (.getfield 43, 3) := by decide +kernel
theorem d_S_sendPause_4 : decode b_S_sendPause 4 = .ok (.ifCond .ne 7, 3) := by decide +kernel
theorem d_S_sendPause_7 : decode b_S_sendPause 7 = .ok (.iconst 0, 1) := by decide +kernel
theorem d_S_sendPause_8 : decode b_S_sendPause 8 = .ok (.goto 18, 3) := by decide +kernel
theorem d_S_sendPause_11 : decode b_S_sendPause 11 = .ok (.aload_n 0, 1) := by decide +kernel
theorem d_S_sendPause_12 : decode b_S_sendPause 12 = .ok (.aload_n 0, 1) := by decide +kernel
theorem d_S_sendPause_13 : decode b_S_sendPause 13 = .ok (.getfield 71, 3) := by decide +kernel
theorem d_S_sendPause_16 : decode b_S_sendPause 16 = .ok (.invokevirtual 89, 3) := by decide +kernel
theorem d_S_sendPause_19 : decode b_S_sendPause 19 = .ok (.aload_n 0, 1) := by decide +kernel
theorem d_S_sendPause_20 : decode b_S_sendPause 20 = .ok (.getfield 43, 3) := by decide +kernel
theorem d_S_sendPause_23 : decode b_S_sendPause 23 = .ok (.invokestatic 83, 3) := by decide +kernel
theorem d_S_sendPause_26 : decode b_S_sendPause 26 = .ok (.ireturn, 1) := by decide +kernel
theorem d_S_hurrySend_0 : decode b_S_hurrySend 0 = .ok (.aload_n 0, 1) := by decide +kernel
theorem d_S_hurrySend_1 : decode b_S_hurrySend 1 = .ok (.invokevirtual 64, 3) := by decide +kernel
theorem d_S_hurrySend_4 : decode b_S_hurrySend 4 = .ok (.istore_n 1, 1) := by decide +kernel
theorem d_S_hurrySend_5 : decode b_S_hurrySend 5 = .ok (.iload_n 1, 1) := by decide +kernel
theorem d_S_hurrySend_6 : decode b_S_hurrySend 6 = .ok (.ifCond .eq 18, 3) := by decide +kernel
theorem d_S_hurrySend_9 : decode b_S_hurrySend 9 = .ok (.aload_n 0, 1) := by decide +kernel
theorem d_S_hurrySend_10 : decode b_S_hurrySend 10 = .ok (.getfield 68, 3) := by decide +kernel
theorem d_S_hurrySend_13 : decode b_S_hurrySend 13 = .ok (.ifCond .eq 11, 3) := by decide +kernel
theorem d_S_hurrySend_16 : decode b_S_hurrySend 16 = .ok (.aload_n 0, 1) := by decide +kernel
theorem d_S_hurrySend_17 : decode b_S_hurrySend 17 = .ok (.getfield 68, 3) := by decide +kernel
theorem d_S_hurrySend_20 : decode b_S_hurrySend 20 = .ok (.iload_n 1, 1) := by decide +kernel
theorem d_S_hurrySend_21 : decode b_S_hurrySend 21 = .ok (.if_icmp .le 8, 3) := by decide +kernel
theorem d_S_hurrySend_24 : decode b_S_hurrySend 24 = .ok (.aload_n 0, 1) := by decide +kernel
theorem d_S_hurrySend_25 : decode b_S_hurrySend 25 = .ok (.iload_n 1, 1) := by decide +kernel
theorem d_S_hurrySend_26 : decode b_S_hurrySend 26 = .ok (.putfield 68, 3) := by decide +kernel
theorem d_S_hurrySend_29 : decode b_S_hurrySend 29 = .ok (.return_, 1) := by decide +kernel
theorem d_S_learn_0 : decode b_S_learn 0 = .ok (.aload_n 0, 1) := by decide +kernel
theorem d_S_learn_1 : decode b_S_learn 1 = .ok (.getfield 43, 3) := by decide +kernel
theorem d_S_learn_4 : decode b_S_learn 4 = .ok (.istore_n 2, 1) := by decide +kernel
theorem d_S_learn_5 : decode b_S_learn 5 = .ok (.aload_n 0, 1) := by decide +kernel
theorem d_S_learn_6 : decode b_S_learn 6 = .ok (.getfield 22, 3) := by decide +kernel
theorem d_S_learn_9 : decode b_S_learn 9 = .ok (.istore_n 3, 1) := by decide +kernel
theorem d_S_learn_10 : decode b_S_learn 10 = .ok (.aload_n 1, 1) := by decide +kernel
theorem d_S_learn_11 : decode b_S_learn 11 = .ok (.iconst 1, 1) := by decide +kernel
theorem d_S_learn_12 : decode b_S_learn 12 = .ok (.invokevirtual 93, 3) := by decide +kernel
theorem d_S_learn_15 : decode b_S_learn 15 = .ok (.istore 4, 2) := by decide +kernel
theorem d_S_learn_17 : decode b_S_learn 17 = .ok (.aload_n 0, 1) := by decide +kernel
theorem d_S_learn_18 : decode b_S_learn 18 = .ok (.aload_n 1, 1) := by decide +kernel
theorem d_S_learn_19 : decode b_S_learn 19 = .ok (.iconst 4, 1) := by decide +kernel
theorem d_S_learn_20 : decode b_S_learn 20 = .ok (.invokevirtual 98, 3) := by decide +kernel
theorem d_S_learn_23 : decode b_S_learn 23 = .ok (.invokestatic 101, 3) := by decide +kernel
theorem d_S_learn_26 : decode b_S_learn 26 = .ok (.putfield 28, 3) := by decide +kernel
theorem d_S_learn_29 : decode b_S_learn 29 = .ok (.aload_n 0, 1) := by decide +kernel
theorem d_S_learn_30 : decode b_S_learn 30 = .ok (.iload 4, 2) := by decide +kernel
theorem d_S_learn_32 : decode b_S_learn 32 = .ok (.bipush 64, 2) := by decide +kernel
theorem d_S_learn_34 : decode b_S_learn 34 = .ok (.idiv, 1) := by decide +kernel
theorem d_S_learn_35 : decode b_S_learn 35 = .ok (.putfield 25, 3) := by decide +kernel
theorem d_S_learn_38 : decode b_S_learn 38 = .ok (.aload_n 0, 1) := by decide +kernel
theorem d_S_learn_39 : decode b_S_learn 39 = .ok (.aload_n 1, 1) := by decide +kernel
theorem d_S_learn_40 : decode b_S_learn 40 = .ok (.iconst 2, 1) := by decide +kernel
theorem d_S_learn_41 : decode b_S_learn 41 = .ok (.invokevirtual 93, 3) := by decide +kernel
theorem d_S_learn_44 : decode b_S_learn 44 = .ok (.putfield 49, 3) := by decide +kernel
theorem d_S_learn_47 : decode b_S_learn 47 = .ok (.aload_n 0, 1) := by decide +kernel
theorem d_S_learn_48 : decode b_S_learn 48 = .ok (.aload_n 1, 1) := by decide +kernel
theorem d_S_learn_49 : decode b_S_learn 49 = .ok (.bipush 12, 2) := by decide +kernel
theorem d_S_learn_51 : decode b_S_learn 51 = .ok (.invokevirtual 98, 3) := by decide +kernel
theorem d_S_learn_54 : decode b_S_learn 54 = .ok (.invokestatic 101, 3) := by decide +kernel
theorem d_S_learn_57 : decode b_S_learn 57 = .ok (.putfield 46, 3) := by decide +kernel
theorem d_S_learn_60 : decode b_S_learn 60 = .ok (.aload_n 0, 1) := by decide +kernel
theorem d_S_learn_61 : decode b_S_learn 61 = .ok (.aload_n 1, 1) := by decide +kernel
theorem d_S_learn_62 : decode b_S_learn 62 = .ok (.bipush 16, 2) := by decide +kernel
theorem d_S_learn_64 : decode b_S_learn 64 = .ok (.invokevirtual 98, 3) := by decide +kernel
theorem d_S_learn_67 : decode b_S_learn 67 = .ok (.invokestatic 101, 3) := by decide +kernel
theorem d_S_learn_70 : decode b_S_learn 70 = .ok (.putfield 43, 3) := by decide +kernel
theorem d_S_learn_73 : decode b_S_learn 73 = .ok (.aload_n 0, 1) := by decide +kernel
theorem d_S_learn_74 : decode b_S_learn 74 = .ok (.getfield 52, 3) := by decide +kernel
theorem d_S_learn_77 : decode b_S_learn 77 = .ok (.ifCond .eq 20, 3) := by decide +kernel
theorem d_S_learn_80 : decode b_S_learn 80 = .ok (.iload 4, 2) := by decide +kernel
theorem d_S_learn_82 : decode b_S_learn 82 = .ok (.bipush 16, 2) := by decide +kernel
theorem d_S_learn_84 : decode b_S_learn 84 = .ok (.iand, 1) := by decide +kernel
theorem d_S_learn_85 : decode b_S_learn 85 = .ok (.ifCond .eq 12, 3) := by decide +kernel
theorem d_S_learn_88 : decode b_S_learn 88 = .ok (.aload_n 0, 1) := by decide +kernel
theorem d_S_learn_89 : decode b_S_learn 89 = .ok (.iconst 0, 1) := by decide +kernel
theorem d_S_learn_90 : decode b_S_learn 90 = .ok (.putfield 52, 3) := by decide +kernel
theorem d_S_learn_93 : decode b_S_learn 93 = .ok (.aload_n 0, 1) := by decide +kernel
theorem d_S_learn_94 : decode b_S_learn 94 = .ok (.invokevirtual 55, 3) := by decide +kernel
theorem d_S_learn_97 : decode b_S_learn 97 = .ok (.aload_n 0, 1) := by decide +kernel
theorem d_S_learn_98 : decode b_S_learn 98 = .ok (.ldc 104, 2) := by decide +kernel
theorem d_S_learn_100 : decode b_S_learn 100 = .ok (.aload_n 0, 1) := by decide +kernel
theorem d_S_learn_101 : decode b_S_learn 101 = .ok (.getfield 49, 3) := by decide +kernel
theorem d_S_learn_104 : decode b_S_learn 104 = .ok (.aload_n 0, 1) := by decide +kernel
theorem d_S_learn_105 : decode b_S_learn 105 = .ok (.getfield 80, 3) := by decide +kernel
theorem d_S_learn_108 : decode b_S_learn 108 = .ok (.aload_n 0, 1) := by decide +kernel
theorem d_S_learn_109 : decode b_S_learn 109 = .ok (.getfield 46, 3) := by decide +kernel
theorem d_S_learn_112 : decode b_S_learn 112 = .ok (.invokestatic 83, 3) := by decide +kernel
theorem d_S_learn_115 : decode b_S_learn 115 = .ok (.imul, 1) := by decide +kernel
theorem d_S_learn_116 : decode b_S_learn 116 = .ok (.invokestatic 74, 3) := by decide +kernel
theorem d_S_learn_119 : decode b_S_learn 119 = .ok (.putfield 58, 3) := by decide +kernel
theorem d_S_learn_122 : decode b_S_learn 122 = .ok (.aload_n 0, 1) := by decide +kernel
theorem d_S_learn_123 : decode b_S_learn 123 = .ok (.invokevirtual 105, 3) := by decide +kernel
theorem d_S_learn_126 : decode b_S_learn 126 = .ok (.aload_n 0, 1) := by decide +kernel
theorem d_S_learn_127 : decode b_S_learn 127 = .ok (.getfield 43, 3) := by decide +kernel
theorem d_S_learn_130 : decode b_S_learn 130 = .ok (.iload_n 2, 1) := by decide +kernel
theorem d_S_learn_131 : decode b_S_learn 131 = .ok (.if_icmp .ne 11, 3) := by decide +kernel
theorem d_S_learn_134 : decode b_S_learn 134 = .ok (.aload_n 0, 1) := by decide +kernel
theorem d_S_learn_135 : decode b_S_learn 135 = .ok (.getfield 22, 3) := by decide +kernel
theorem d_S_learn_138 : decode b_S_learn 138 = .ok (.iload_n 3, 1) := by decide +kernel
theorem d_S_learn_139 : decode b_S_learn 139 = .ok (.if_icmp .eq 7, 3) := by decide +kernel
theorem d_S_learn_142 : decode b_S_learn 142 = .ok (.iconst 1, 1) := by decide +kernel
theorem d_S_learn_143 : decode b_S_learn 143 = .ok (.goto 4, 3) := by decide +kernel
theorem d_S_learn_146 : decode b_S_learn 146 = .ok (.iconst 0, 1) := by decide +kernel
theorem d_S_learn_147 : decode b_S_learn 147 = .ok (.ireturn, 1) := by decide +kernel
theorem d_S_told_0 : decode b_S_told 0 = .ok (.iload_n 0, 1) := by decide +kernel
theorem d_S_told_1 : decode b_S_told 1 = .ok (.ifCond .lt 9, 3) := by decide +kernel
theorem d_S_told_4 : decode b_S_told 4 = .ok (.iload_n 0, 1) := by decide +kernel
theorem d_S_told_5 : decode b_S_told 5 = .ok (.ldc 108, 2) := by decide +kernel
theorem d_S_told_7 : decode b_S_told 7 = .ok (.if_icmp .le 8, 3) := by decide +kernel
theorem d_S_told_10 : decode b_S_told 10 = .ok (.ldc 108, 2) := by decide +kernel
theorem d_S_told_12 : decode b_S_told 12 = .ok (.goto 4, 3) := by decide +kernel
theorem d_S_told_15 : decode b_S_told 15 = .ok (.iload_n 0, 1) := by decide +kernel
theorem d_S_told_16 : decode b_S_told 16 = .ok (.ireturn, 1) := by decide +kernel
theorem d_S_follow_0 : decode b_S_follow 0 = .ok (.aload_n 0, 1) := by decide +kernel
theorem d_S_follow_1 : decode b_S_follow 1 = .ok (.getfield 22, 3) := by decide +kernel
theorem d_S_follow_4 : decode b_S_follow 4 = .ok (.ifCond .ne 4, 3) := by decide +kernel
theorem d_S_follow_7 : decode b_S_follow 7 = .ok (.return_, 1) := by decide +kernel
theorem d_S_follow_8 : decode b_S_follow 8 = .ok (.aload_n 0, 1) := by decide +kernel
theorem d_S_follow_9 : decode b_S_follow 9 = .ok (.getfield 25, 3) := by decide +kernel
theorem d_S_follow_12 : decode b_S_follow 12 = .ok (.ifCond .ne 11, 3) := by decide +kernel
theorem d_S_follow_15 : decode b_S_follow 15 = .ok (.aload_n 0, 1) := by decide +kernel
theorem d_S_follow_16 : decode b_S_follow 16 = .ok (.iconst 3, 1) := by decide +kernel
theorem d_S_follow_17 : decode b_S_follow 17 = .ok (.invokevirtual 109, 3) := by decide +kernel
theorem d_S_follow_20 : decode b_S_follow 20 = .ok (.goto 78, 3) := by decide +kernel
theorem d_S_follow_23 : decode b_S_follow 23 = .ok (.aload_n 0, 1) := by decide +kernel
theorem d_S_follow_24 : decode b_S_follow 24 = .ok (.getfield 22, 3) := by decide +kernel
theorem d_S_follow_27 : decode b_S_follow 27 = .ok (.iconst 1, 1) := by decide +kernel
theorem d_S_follow_28 : decode b_S_follow 28 = .ok (.if_icmp .ne 34, 3) := by decide +kernel
theorem d_S_follow_31 : decode b_S_follow 31 = .ok (.aload_n 0, 1) := by decide +kernel
theorem d_S_follow_32 : decode b_S_follow 32 = .ok (.getfield 25, 3) := by decide +kernel
theorem d_S_follow_35 : decode b_S_follow 35 = .ok (.iconst 1, 1) := by decide +kernel
theorem d_S_follow_36 : decode b_S_follow 36 = .ok (.if_icmp .ne 11, 3) := by decide +kernel
theorem d_S_follow_39 : decode b_S_follow 39 = .ok (.aload_n 0, 1) := by decide +kernel
theorem d_S_follow_40 : decode b_S_follow 40 = .ok (.iconst 2, 1) := by decide +kernel
theorem d_S_follow_41 : decode b_S_follow 41 = .ok (.putfield 22, 3) := by decide +kernel
theorem d_S_follow_44 : decode b_S_follow 44 = .ok (.goto 54, 3) := by decide +kernel
theorem d_S_follow_47 : decode b_S_follow 47 = .ok (.aload_n 0, 1) := by decide +kernel
theorem d_S_follow_48 : decode b_S_follow 48 = .ok (.getfield 25, 3) := by decide +kernel
theorem d_S_follow_51 : decode b_S_follow 51 = .ok (.iconst 2, 1) := by decide +kernel
theorem d_S_follow_52 : decode b_S_follow 52 = .ok (.if_icmp .ne 46, 3) := by decide +kernel
theorem d_S_follow_55 : decode b_S_follow 55 = .ok (.aload_n 0, 1) := by decide +kernel
theorem d_S_follow_56 : decode b_S_follow 56 = .ok (.invokevirtual 113, 3) := by decide +kernel
theorem d_S_follow_59 : decode b_S_follow 59 = .ok (.goto 39, 3) := by decide +kernel
theorem d_S_follow_62 : decode b_S_follow 62 = .ok (.aload_n 0, 1) := by decide +kernel
theorem d_S_follow_63 : decode b_S_follow 63 = .ok (.getfield 22, 3) := by decide +kernel
theorem d_S_follow_66 : decode b_S_follow 66 = .ok (.iconst 2, 1) := by decide +kernel
theorem d_S_follow_67 : decode b_S_follow 67 = .ok (.if_icmp .ne 18, 3) := by decide +kernel
theorem d_S_follow_70 : decode b_S_follow 70 = .ok (.aload_n 0, 1) := by decide +kernel
theorem d_S_follow_71 : decode b_S_follow 71 = .ok (.getfield 25, 3) := by decide +kernel
theorem d_S_follow_74 : decode b_S_follow 74 = .ok (.iconst 1, 1) := by decide +kernel
theorem d_S_follow_75 : decode b_S_follow 75 = .ok (.if_icmp .eq 23, 3) := by decide +kernel
theorem d_S_follow_78 : decode b_S_follow 78 = .ok (.aload_n 0, 1) := by decide +kernel
theorem d_S_follow_79 : decode b_S_follow 79 = .ok (.invokevirtual 113, 3) := by decide +kernel
theorem d_S_follow_82 : decode b_S_follow 82 = .ok (.goto 16, 3) := by decide +kernel
theorem d_S_follow_85 : decode b_S_follow 85 = .ok (.aload_n 0, 1) := by decide +kernel
theorem d_S_follow_86 : decode b_S_follow 86 = .ok (.getfield 25, 3) := by decide +kernel
theorem d_S_follow_89 : decode b_S_follow 89 = .ok (.iconst 1, 1) := by decide +kernel
theorem d_S_follow_90 : decode b_S_follow 90 = .ok (.if_icmp .ne 8, 3) := by decide +kernel
theorem d_S_follow_93 : decode b_S_follow 93 = .ok (.aload_n 0, 1) := by decide +kernel
theorem d_S_follow_94 : decode b_S_follow 94 = .ok (.iconst 3, 1) := by decide +kernel
theorem d_S_follow_95 : decode b_S_follow 95 = .ok (.invokevirtual 109, 3) := by decide +kernel
theorem d_S_follow_98 : decode b_S_follow 98 = .ok (.return_, 1) := by decide +kernel
theorem d_S_comeUp_0 : decode b_S_comeUp 0 = .ok (.aload_n 0, 1) := by decide +kernel
theorem d_S_comeUp_1 : decode b_S_comeUp 1 = .ok (.iconst 3, 1) := by decide +kernel
theorem d_S_comeUp_2 : decode b_S_comeUp 2 = .ok (.putfield 22, 3) := by decide +kernel
theorem d_S_comeUp_5 : decode b_S_comeUp 5 = .ok (.aload_n 0, 1) := by decide +kernel
theorem d_S_comeUp_6 : decode b_S_comeUp 6 = .ok (.dup, 1) := by decide +kernel
theorem d_S_comeUp_7 : decode b_S_comeUp 7 = .ok (.getfield 61, 3) := by decide +kernel
theorem d_S_comeUp_10 : decode b_S_comeUp 10 = .ok (.iconst 1, 1) := by decide +kernel
theorem d_S_comeUp_11 : decode b_S_comeUp 11 = .ok (.iadd, 1) := by decide +kernel
theorem d_S_comeUp_12 : decode b_S_comeUp 12 = .ok (.putfield 61, 3) := by decide +kernel
theorem d_S_comeUp_15 : decode b_S_comeUp 15 = .ok (.return_, 1) := by decide +kernel
theorem d_S_fall_0 : decode b_S_fall 0 = .ok (.aload_n 0, 1) := by decide +kernel
theorem d_S_fall_1 : decode b_S_fall 1 = .ok (.getfield 22, 3) := by decide +kernel
theorem d_S_fall_4 : decode b_S_fall 4 = .ok (.iconst 2, 1) := by decide +kernel
theorem d_S_fall_5 : decode b_S_fall 5 = .ok (.if_icmp .eq 11, 3) := by decide +kernel
theorem d_S_fall_8 : decode b_S_fall 8 = .ok (.aload_n 0, 1) := by decide +kernel
theorem d_S_fall_9 : decode b_S_fall 9 = .ok (.getfield 22, 3) := by decide +kernel
theorem d_S_fall_12 : decode b_S_fall 12 = .ok (.iconst 3, 1) := by decide +kernel
theorem d_S_fall_13 : decode b_S_fall 13 = .ok (.if_icmp .ne 13, 3) := by decide +kernel
theorem d_S_fall_16 : decode b_S_fall 16 = .ok (.aload_n 0, 1) := by decide +kernel
theorem d_S_fall_17 : decode b_S_fall 17 = .ok (.iload_n 1, 1) := by decide +kernel
theorem d_S_fall_18 : decode b_S_fall 18 = .ok (.putfield 31, 3) := by decide +kernel
theorem d_S_fall_21 : decode b_S_fall 21 = .ok (.aload_n 0, 1) := by decide +kernel
theorem d_S_fall_22 : decode b_S_fall 22 = .ok (.iconst 1, 1) := by decide +kernel
theorem d_S_fall_23 : decode b_S_fall 23 = .ok (.putfield 22, 3) := by decide +kernel
theorem d_S_fall_26 : decode b_S_fall 26 = .ok (.return_, 1) := by decide +kernel
theorem d_S_runDetect_0 : decode b_S_runDetect 0 = .ok (.aload_n 0, 1) := by decide +kernel
theorem d_S_runDetect_1 : decode b_S_runDetect 1 = .ok (.getfield 58, 3) := by decide +kernel
theorem d_S_runDetect_4 : decode b_S_runDetect 4 = .ok (.ifCond .le 30, 3) := by decide +kernel
theorem d_S_runDetect_7 : decode b_S_runDetect 7 = .ok (.aload_n 0, 1) := by decide +kernel
theorem d_S_runDetect_8 : decode b_S_runDetect 8 = .ok (.dup, 1) := by decide +kernel
theorem d_S_runDetect_9 : decode b_S_runDetect 9 = .ok (.getfield 58, 3) := by decide +kernel
theorem d_S_runDetect_12 : decode b_S_runDetect 12 = .ok (.iconst 1, 1) := by decide +kernel
theorem d_S_runDetect_13 : decode b_S_runDetect 13 = .ok (.isub, 1) := by decide +kernel
theorem d_S_runDetect_14 : decode b_S_runDetect 14 = .ok (.putfield 58, 3) := by decide +kernel
theorem d_S_runDetect_17 : decode b_S_runDetect 17 = .ok (.aload_n 0, 1) := by decide +kernel
theorem d_S_runDetect_18 : decode b_S_runDetect 18 = .ok (.getfield 58, 3) := by decide +kernel
theorem d_S_runDetect_21 : decode b_S_runDetect 21 = .ok (.ifCond .ne 13, 3) := by decide +kernel
theorem d_S_runDetect_24 : decode b_S_runDetect 24 = .ok (.aload_n 0, 1) := by decide +kernel
theorem d_S_runDetect_25 : decode b_S_runDetect 25 = .ok (.iconst 0, 1) := by decide +kernel
theorem d_S_runDetect_26 : decode b_S_runDetect 26 = .ok (.putfield 28, 3) := by decide +kernel
theorem d_S_runDetect_29 : decode b_S_runDetect 29 = .ok (.aload_n 0, 1) := by decide +kernel
theorem d_S_runDetect_30 : decode b_S_runDetect 30 = .ok (.iconst 1, 1) := by decide +kernel
theorem d_S_runDetect_31 : decode b_S_runDetect 31 = .ok (.invokevirtual 109, 3) := by decide +kernel
theorem d_S_runDetect_34 : decode b_S_runDetect 34 = .ok (.return_, 1) := by decide +kernel
theorem d_S_sendFires_0 : decode b_S_sendFires 0 = .ok (.aload_n 0, 1) := by decide +kernel
theorem d_S_sendFires_1 : decode b_S_sendFires 1 = .ok (.getfield 68, 3) := by decide +kernel
theorem d_S_sendFires_4 : decode b_S_sendFires 4 = .ok (.ifCond .le 26, 3) := by decide +kernel
theorem d_S_sendFires_7 : decode b_S_sendFires 7 = .ok (.aload_n 0, 1) := by decide +kernel
theorem d_S_sendFires_8 : decode b_S_sendFires 8 = .ok (.dup, 1) := by decide +kernel
theorem d_S_sendFires_9 : decode b_S_sendFires 9 = .ok (.getfield 68, 3) := by decide +kernel
theorem d_S_sendFires_12 : decode b_S_sendFires 12 = .ok (.iconst 1, 1) := by decide +kernel
theorem d_S_sendFires_13 : decode b_S_sendFires 13 = .ok (.isub, 1) := by decide +kernel
theorem d_S_sendFires_14 : decode b_S_sendFires 14 = .ok (.putfield 68, 3) := by decide +kernel
theorem d_S_sendFires_17 : decode b_S_sendFires 17 = .ok (.aload_n 0, 1) := by decide +kernel
theorem d_S_sendFires_18 : decode b_S_sendFires 18 = .ok (.getfield 68, 3) := by decide +kernel
theorem d_S_sendFires_21 : decode b_S_sendFires 21 = .ok (.ifCond .ne 7, 3) := by decide +kernel
theorem d_S_sendFires_24 : decode b_S_sendFires 24 = .ok (.iconst 1, 1) := by decide +kernel
theorem d_S_sendFires_25 : decode b_S_sendFires 25 = .ok (.goto 4, 3) := by decide +kernel
theorem d_S_sendFires_28 : decode b_S_sendFires 28 = .ok (.iconst 0, 1) := by decide +kernel
theorem d_S_sendFires_29 : decode b_S_sendFires 29 = .ok (.ireturn, 1) := by decide +kernel
theorem d_S_sendFires_30 : decode b_S_sendFires 30 = .ok (.iconst 0, 1) := by decide +kernel
theorem d_S_sendFires_31 : decode b_S_sendFires 31 = .ok (.ireturn, 1) := by decide +kernel
theorem d_S_tell_0 : decode b_S_tell 0 = .ok (.iload_n 1, 1) := by decide +kernel
theorem d_S_tell_1 : decode b_S_tell 1 = .ok (.tableswitch 131 0 11 #[63, 68, 73, 78, 83, 88, 93, 98, 103, 116, 121, 126], 63) := by decide +kernel
theorem d_S_tell_64 : decode b_S_tell 64 = .ok (.aload_n 0, 1) := by decide +kernel
theorem d_S_tell_65 : decode b_S_tell 65 = .ok (.getfield 22, 3) := by decide +kernel
theorem d_S_tell_68 : decode b_S_tell 68 = .ok (.ireturn, 1) := by decide +kernel
theorem d_S_tell_69 : decode b_S_tell 69 = .ok (.aload_n 0, 1) := by decide +kernel
theorem d_S_tell_70 : decode b_S_tell 70 = .ok (.getfield 25, 3) := by decide +kernel
theorem d_S_tell_73 : decode b_S_tell 73 = .ok (.ireturn, 1) := by decide +kernel
theorem d_S_tell_74 : decode b_S_tell 74 = .ok (.aload_n 0, 1) := by decide +kernel
theorem d_S_tell_75 : decode b_S_tell 75 = .ok (.getfield 28, 3) := by decide +kernel
theorem d_S_tell_78 : decode b_S_tell 78 = .ok (.ireturn, 1) := by decide +kernel
theorem d_S_tell_79 : decode b_S_tell 79 = .ok (.aload_n 0, 1) := by decide +kernel
theorem d_S_tell_80 : decode b_S_tell 80 = .ok (.getfield 31, 3) := by decide +kernel
theorem d_S_tell_83 : decode b_S_tell 83 = .ok (.ireturn, 1) := by decide +kernel
theorem d_S_tell_84 : decode b_S_tell 84 = .ok (.aload_n 0, 1) := by decide +kernel
theorem d_S_tell_85 : decode b_S_tell 85 = .ok (.getfield 68, 3) := by decide +kernel
theorem d_S_tell_88 : decode b_S_tell 88 = .ok (.ireturn, 1) := by decide +kernel
theorem d_S_tell_89 : decode b_S_tell 89 = .ok (.aload_n 0, 1) := by decide +kernel
theorem d_S_tell_90 : decode b_S_tell 90 = .ok (.getfield 58, 3) := by decide +kernel
theorem d_S_tell_93 : decode b_S_tell 93 = .ok (.ireturn, 1) := by decide +kernel
theorem d_S_tell_94 : decode b_S_tell 94 = .ok (.aload_n 0, 1) := by decide +kernel
theorem d_S_tell_95 : decode b_S_tell 95 = .ok (.getfield 71, 3) := by decide +kernel
theorem d_S_tell_98 : decode b_S_tell 98 = .ok (.ireturn, 1) := by decide +kernel
theorem d_S_tell_99 : decode b_S_tell 99 = .ok (.aload_n 0, 1) := by decide +kernel
theorem d_S_tell_100 : decode b_S_tell 100 = .ok (.getfield 80, 3) := by decide +kernel
theorem d_S_tell_103 : decode b_S_tell 103 = .ok (.ireturn, 1) := by decide +kernel
theorem d_S_tell_104 : decode b_S_tell 104 = .ok (.aload_n 0, 1) := by decide +kernel
theorem d_S_tell_105 : decode b_S_tell 105 = .ok (.getfield 52, 3) := by decide +kernel
theorem d_S_tell_108 : decode b_S_tell 108 = .ok (.ifCond .eq 7, 3) := by decide +kernel
theorem d_S_tell_111 : decode b_S_tell 111 = .ok (.iconst 1, 1) := by decide +kernel
theorem d_S_tell_112 : decode b_S_tell 112 = .ok (.goto 4, 3) := by decide +kernel
theorem d_S_tell_115 : decode b_S_tell 115 = .ok (.iconst 0, 1) := by decide +kernel
theorem d_S_tell_116 : decode b_S_tell 116 = .ok (.ireturn, 1) := by decide +kernel
theorem d_S_tell_117 : decode b_S_tell 117 = .ok (.aload_n 0, 1) := by decide +kernel
theorem d_S_tell_118 : decode b_S_tell 118 = .ok (.getfield 43, 3) := by decide +kernel
theorem d_S_tell_121 : decode b_S_tell 121 = .ok (.ireturn, 1) := by decide +kernel
theorem d_S_tell_122 : decode b_S_tell 122 = .ok (.aload_n 0, 1) := by decide +kernel
theorem d_S_tell_123 : decode b_S_tell 123 = .ok (.getfield 46, 3) := by decide +kernel
theorem d_S_tell_126 : decode b_S_tell 126 = .ok (.ireturn, 1) := by decide +kernel
theorem d_S_tell_127 : decode b_S_tell 127 = .ok (.aload_n 0, 1) := by decide +kernel
theorem d_S_tell_128 : decode b_S_tell 128 = .ok (.getfield 61, 3) := by decide +kernel
theorem d_S_tell_131 : decode b_S_tell 131 = .ok (.ireturn, 1) := by decide +kernel
theorem d_S_tell_132 : decode b_S_tell 132 = .ok (.iconst (-1), 1) := by decide +kernel
theorem d_S_tell_133 : decode b_S_tell 133 = .ok (.ireturn, 1) := by decide +kernel
end
section
theorem d_W_init_0 : decode b_W_init 0 = .ok (.aload_n 0, 1) := by decide +kernel
theorem d_W_init_1 : decode b_W_init 1 = .ok (.invokespecial 3, 3) := by decide +kernel
theorem d_W_init_4 : decode b_W_init 4 = .ok (.aload_n 0, 1) := by decide +kernel
theorem d_W_init_5 : decode b_W_init 5 = .ok (.bipush 16, 2) := by decide +kernel
theorem d_W_init_7 : decode b_W_init 7 = .ok (.newarray .int, 2) := by decide +kernel
theorem d_W_init_9 : decode b_W_init 9 = .ok (.putfield 9, 3) := by decide +kernel
theorem d_W_init_12 : decode b_W_init 12 = .ok (.iconst 0, 1) := by decide +kernel
theorem d_W_init_13 : decode b_W_init 13 = .ok (.istore_n 1, 1) := by decide +kernel
theorem d_W_init_14 : decode b_W_init 14 = .ok (.iload_n 1, 1) := by decide +kernel
theorem d_W_init_15 : decode b_W_init 15 = .ok (.bipush 16, 2) := by decide +kernel
theorem d_W_init_17 : decode b_W_init 17 = .ok (.if_icmp .ge 16, 3) := by decide +kernel
theorem d_W_init_20 : decode b_W_init 20 = .ok (.aload_n 0, 1) := by decide +kernel
theorem d_W_init_21 : decode b_W_init 21 = .ok (.getfield 9, 3) := by decide +kernel
theorem d_W_init_24 : decode b_W_init 24 = .ok (.iload_n 1, 1) := by decide +kernel
theorem d_W_init_25 : decode b_W_init 25 = .ok (.iconst (-1), 1) := by decide +kernel
theorem d_W_init_26 : decode b_W_init 26 = .ok (.iastore, 1) := by decide +kernel
theorem d_W_init_27 : decode b_W_init 27 = .ok (.iinc 1 1, 3) := by decide +kernel
theorem d_W_init_30 : decode b_W_init 30 = .ok (.goto (-16), 3) := by decide +kernel
theorem d_W_init_33 : decode b_W_init 33 = .ok (.aload_n 0, 1) := by decide +kernel
theorem d_W_init_34 : decode b_W_init 34 = .ok (.bipush 60, 2) := by decide +kernel
theorem d_W_init_36 : decode b_W_init 36 = .ok (.anewarray 15, 3) := by decide +kernel
theorem d_W_init_39 : decode b_W_init 39 = .ok (.putfield 17, 3) := by decide +kernel
theorem d_W_init_42 : decode b_W_init 42 = .ok (.iconst 0, 1) := by decide +kernel
theorem d_W_init_43 : decode b_W_init 43 = .ok (.istore_n 1, 1) := by decide +kernel
theorem d_W_init_44 : decode b_W_init 44 = .ok (.iload_n 1, 1) := by decide +kernel
theorem d_W_init_45 : decode b_W_init 45 = .ok (.bipush 60, 2) := by decide +kernel
theorem d_W_init_47 : decode b_W_init 47 = .ok (.if_icmp .ge 22, 3) := by decide +kernel
theorem d_W_init_50 : decode b_W_init 50 = .ok (.aload_n 0, 1) := by decide +kernel
theorem d_W_init_51 : decode b_W_init 51 = .ok (.getfield 17, 3) := by decide +kernel
theorem d_W_init_54 : decode b_W_init 54 = .ok (.iload_n 1, 1) := by decide +kernel
theorem d_W_init_55 : decode b_W_init 55 = .ok (.new 15, 3) := by decide +kernel
theorem d_W_init_58 : decode b_W_init 58 = .ok (.dup, 1) := by decide +kernel
theorem d_W_init_59 : decode b_W_init 59 = .ok (.invokespecial 21, 3) := by decide +kernel
theorem d_W_init_62 : decode b_W_init 62 = .ok (.aastore, 1) := by decide +kernel
theorem d_W_init_63 : decode b_W_init 63 = .ok (.iinc 1 1, 3) := by decide +kernel
theorem d_W_init_66 : decode b_W_init 66 = .ok (.goto (-22), 3) := by decide +kernel
theorem d_W_init_69 : decode b_W_init 69 = .ok (.aload_n 0, 1) := by decide +kernel
theorem d_W_init_70 : decode b_W_init 70 = .ok (.new 15, 3) := by decide +kernel
theorem d_W_init_73 : decode b_W_init 73 = .ok (.dup, 1) := by decide +kernel
theorem d_W_init_74 : decode b_W_init 74 = .ok (.invokespecial 21, 3) := by decide +kernel
theorem d_W_init_77 : decode b_W_init 77 = .ok (.putfield 22, 3) := by decide +kernel
theorem d_W_init_80 : decode b_W_init 80 = .ok (.aload_n 0, 1) := by decide +kernel
theorem d_W_init_81 : decode b_W_init 81 = .ok (.new 15, 3) := by decide +kernel
theorem d_W_init_84 : decode b_W_init 84 = .ok (.dup, 1) := by decide +kernel
theorem d_W_init_85 : decode b_W_init 85 = .ok (.invokespecial 21, 3) := by decide +kernel
theorem d_W_init_88 : decode b_W_init 88 = .ok (.putfield 26, 3) := by decide +kernel
theorem d_W_init_91 : decode b_W_init 91 = .ok (.return_, 1) := by decide +kernel
theorem d_W_placeOf_0 : decode b_W_placeOf 0 = .ok (.iload_n 1, 1) := by decide +kernel
theorem d_W_placeOf_1 : decode b_W_placeOf 1 = .ok (.ifCond .lt 21, 3) := by decide +kernel
theorem d_W_placeOf_4 : decode b_W_placeOf 4 = .ok (.iload_n 1, 1) := by decide +kernel
theorem d_W_placeOf_5 : decode b_W_placeOf 5 = .ok (.aload_n 0, 1) := by decide +kernel
theorem d_W_placeOf_6 : decode b_W_placeOf 6 = .ok (.getfield 9, 3) := by decide +kernel
theorem d_W_placeOf_9 : decode b_W_placeOf 9 = .ok (.arraylength, 1) := by decide +kernel
theorem d_W_placeOf_10 : decode b_W_placeOf 10 = .ok (.if_icmp .ge 12, 3) := by decide +kernel
theorem d_W_placeOf_13 : decode b_W_placeOf 13 = .ok (.aload_n 0, 1) := by decide +kernel
theorem d_W_placeOf_14 : decode b_W_placeOf 14 = .ok (.getfield 9, 3) := by decide +kernel
theorem d_W_placeOf_17 : decode b_W_placeOf 17 = .ok (.iload_n 1, 1) := by decide +kernel
theorem d_W_placeOf_18 : decode b_W_placeOf 18 = .ok (.iaload, 1) := by decide +kernel
theorem d_W_placeOf_19 : decode b_W_placeOf 19 = .ok (.goto 4, 3) := by decide +kernel
theorem d_W_placeOf_22 : decode b_W_placeOf 22 = .ok (.iconst (-1), 1) := by decide +kernel
theorem d_W_placeOf_23 : decode b_W_placeOf 23 = .ok (.ireturn, 1) := by decide +kernel
theorem d_W_countDue_0 : decode b_W_countDue 0 = .ok (.iconst 0, 1) := by decide +kernel
theorem d_W_countDue_1 : decode b_W_countDue 1 = .ok (.istore_n 1, 1) := by decide +kernel
theorem d_W_countDue_2 : decode b_W_countDue 2 = .ok (.iconst 0, 1) := by decide +kernel
theorem d_W_countDue_3 : decode b_W_countDue 3 = .ok (.istore_n 2, 1) := by decide +kernel
theorem d_W_countDue_4 : decode b_W_countDue 4 = .ok (.iload_n 2, 1) := by decide +kernel
theorem d_W_countDue_5 : decode b_W_countDue 5 = .ok (.aload_n 0, 1) := by decide +kernel
theorem d_W_countDue_6 : decode b_W_countDue 6 = .ok (.getfield 29, 3) := by decide +kernel
theorem d_W_countDue_9 : decode b_W_countDue 9 = .ok (.if_icmp .ge 37, 3) := by decide +kernel
theorem d_W_countDue_12 : decode b_W_countDue 12 = .ok (.iload_n 2, 1) := by decide +kernel
theorem d_W_countDue_13 : decode b_W_countDue 13 = .ok (.aload_n 0, 1) := by decide +kernel
theorem d_W_countDue_14 : decode b_W_countDue 14 = .ok (.getfield 17, 3) := by decide +kernel
theorem d_W_countDue_17 : decode b_W_countDue 17 = .ok (.arraylength, 1) := by decide +kernel
theorem d_W_countDue_18 : decode b_W_countDue 18 = .ok (.if_icmp .ge 28, 3) := by decide +kernel
theorem d_W_countDue_21 : decode b_W_countDue 21 = .ok (.aload_n 0, 1) := by decide +kernel
theorem d_W_countDue_22 : decode b_W_countDue 22 = .ok (.getfield 17, 3) := by decide +kernel
theorem d_W_countDue_25 : decode b_W_countDue 25 = .ok (.iload_n 2, 1) := by decide +kernel
theorem d_W_countDue_26 : decode b_W_countDue 26 = .ok (.aaload, 1) := by decide +kernel
theorem d_W_countDue_27 : decode b_W_countDue 27 = .ok (.getfield 33, 3) := by decide +kernel
theorem d_W_countDue_30 : decode b_W_countDue 30 = .ok (.aload_n 0, 1) := by decide +kernel
theorem d_W_countDue_31 : decode b_W_countDue 31 = .ok (.getfield 36, 3) := by decide +kernel
theorem d_W_countDue_34 : decode b_W_countDue 34 = .ok (.if_icmp .gt 6, 3) := by decide +kernel
theorem d_W_countDue_37 : decode b_W_countDue 37 = .ok (.iinc 1 1, 3) := by decide +kernel
theorem d_W_countDue_40 : decode b_W_countDue 40 = .ok (.iinc 2 1, 3) := by decide +kernel
theorem d_W_countDue_43 : decode b_W_countDue 43 = .ok (.goto (-39), 3) := by decide +kernel
theorem d_W_countDue_46 : decode b_W_countDue 46 = .ok (.iload_n 1, 1) := by decide +kernel
theorem d_W_countDue_47 : decode b_W_countDue 47 = .ok (.ireturn, 1) := by decide +kernel
theorem d_W_takeDue_0 : decode b_W_takeDue 0 = .ok (.iconst 0, 1) := by decide +kernel
theorem d_W_takeDue_1 : decode b_W_takeDue 1 = .ok (.istore_n 1, 1) := by decide +kernel
theorem d_W_takeDue_2 : decode b_W_takeDue 2 = .ok (.iload_n 1, 1) := by decide +kernel
theorem d_W_takeDue_3 : decode b_W_takeDue 3 = .ok (.aload_n 0, 1) := by decide +kernel
theorem d_W_takeDue_4 : decode b_W_takeDue 4 = .ok (.getfield 29, 3) := by decide +kernel
theorem d_W_takeDue_7 : decode b_W_takeDue 7 = .ok (.if_icmp .ge 34, 3) := by decide +kernel
theorem d_W_takeDue_10 : decode b_W_takeDue 10 = .ok (.iload_n 1, 1) := by decide +kernel
theorem d_W_takeDue_11 : decode b_W_takeDue 11 = .ok (.aload_n 0, 1) := by decide +kernel
theorem d_W_takeDue_12 : decode b_W_takeDue 12 = .ok (.getfield 17, 3) := by decide +kernel
theorem d_W_takeDue_15 : decode b_W_takeDue 15 = .ok (.arraylength, 1) := by decide +kernel
theorem d_W_takeDue_16 : decode b_W_takeDue 16 = .ok (.if_icmp .ge 25, 3) := by decide +kernel
theorem d_W_takeDue_19 : decode b_W_takeDue 19 = .ok (.aload_n 0, 1) := by decide +kernel
theorem d_W_takeDue_20 : decode b_W_takeDue 20 = .ok (.getfield 17, 3) := by decide +kernel
theorem d_W_takeDue_23 : decode b_W_takeDue 23 = .ok (.iload_n 1, 1) := by decide +kernel
theorem d_W_takeDue_24 : decode b_W_takeDue 24 = .ok (.aaload, 1) := by decide +kernel
theorem d_W_takeDue_25 : decode b_W_takeDue 25 = .ok (.getfield 33, 3) := by decide +kernel
theorem d_W_takeDue_28 : decode b_W_takeDue 28 = .ok (.aload_n 0, 1) := by decide +kernel
theorem d_W_takeDue_29 : decode b_W_takeDue 29 = .ok (.getfield 36, 3) := by decide +kernel
theorem d_W_takeDue_32 : decode b_W_takeDue 32 = .ok (.if_icmp .le 9, 3) := by decide +kernel
theorem d_W_takeDue_35 : decode b_W_takeDue 35 = .ok (.iinc 1 1, 3) := by decide +kernel
theorem d_W_takeDue_38 : decode b_W_takeDue 38 = .ok (.goto (-36), 3) := by decide +kernel
theorem d_W_takeDue_41 : decode b_W_takeDue 41 = .ok (.iload_n 1, 1) := by decide +kernel
theorem d_W_takeDue_42 : decode b_W_takeDue 42 = .ok (.aload_n 0, 1) := by decide +kernel
theorem d_W_takeDue_43 : decode b_W_takeDue 43 = .ok (.getfield 29, 3) := by decide +kernel
theorem d_W_takeDue_46 : decode b_W_takeDue 46 = .ok (.if_icmp .ge 82, 3) := by decide +kernel
theorem d_W_takeDue_49 : decode b_W_takeDue 49 = .ok (.aload_n 0, 1) := by decide +kernel
theorem d_W_takeDue_50 : decode b_W_takeDue 50 = .ok (.getfield 29, 3) := by decide +kernel
theorem d_W_takeDue_53 : decode b_W_takeDue 53 = .ok (.aload_n 0, 1) := by decide +kernel
theorem d_W_takeDue_54 : decode b_W_takeDue 54 = .ok (.getfield 17, 3) := by decide +kernel
theorem d_W_takeDue_57 : decode b_W_takeDue 57 = .ok (.arraylength, 1) := by decide +kernel
theorem d_W_takeDue_58 : decode b_W_takeDue 58 = .ok (.if_icmp .gt 70, 3) := by decide +kernel
theorem d_W_takeDue_61 : decode b_W_takeDue 61 = .ok (.aload_n 0, 1) := by decide +kernel
theorem d_W_takeDue_62 : decode b_W_takeDue 62 = .ok (.getfield 17, 3) := by decide +kernel
theorem d_W_takeDue_65 : decode b_W_takeDue 65 = .ok (.iload_n 1, 1) := by decide +kernel
theorem d_W_takeDue_66 : decode b_W_takeDue 66 = .ok (.aaload, 1) := by decide +kernel
theorem d_W_takeDue_67 : decode b_W_takeDue 67 = .ok (.astore_n 2, 1) := by decide +kernel
theorem d_W_takeDue_68 : decode b_W_takeDue 68 = .ok (.iload_n 1, 1) := by decide +kernel
theorem d_W_takeDue_69 : decode b_W_takeDue 69 = .ok (.iconst 1, 1) := by decide +kernel
theorem d_W_takeDue_70 : decode b_W_takeDue 70 = .ok (.iadd, 1) := by decide +kernel
theorem d_W_takeDue_71 : decode b_W_takeDue 71 = .ok (.istore_n 3, 1) := by decide +kernel
theorem d_W_takeDue_72 : decode b_W_takeDue 72 = .ok (.iload_n 3, 1) := by decide +kernel
theorem d_W_takeDue_73 : decode b_W_takeDue 73 = .ok (.aload_n 0, 1) := by decide +kernel
theorem d_W_takeDue_74 : decode b_W_takeDue 74 = .ok (.getfield 29, 3) := by decide +kernel
theorem d_W_takeDue_77 : decode b_W_takeDue 77 = .ok (.if_icmp .ge 23, 3) := by decide +kernel
theorem d_W_takeDue_80 : decode b_W_takeDue 80 = .ok (.aload_n 0, 1) := by decide +kernel
theorem d_W_takeDue_81 : decode b_W_takeDue 81 = .ok (.getfield 17, 3) := by decide +kernel
theorem d_W_takeDue_84 : decode b_W_takeDue 84 = .ok (.iload_n 3, 1) := by decide +kernel
theorem d_W_takeDue_85 : decode b_W_takeDue 85 = .ok (.iconst 1, 1) := by decide +kernel
theorem d_W_takeDue_86 : decode b_W_takeDue 86 = .ok (.isub, 1) := by decide +kernel
theorem d_W_takeDue_87 : decode b_W_takeDue 87 = .ok (.aload_n 0, 1) := by decide +kernel
theorem d_W_takeDue_88 : decode b_W_takeDue 88 = .ok (.getfield 17, 3) := by decide +kernel
theorem d_W_takeDue_91 : decode b_W_takeDue 91 = .ok (.iload_n 3, 1) := by decide +kernel
theorem d_W_takeDue_92 : decode b_W_takeDue 92 = .ok (.aaload, 1) := by decide +kernel
theorem d_W_takeDue_93 : decode b_W_takeDue 93 = .ok (.aastore, 1) := by decide +kernel
theorem d_W_takeDue_94 : decode b_W_takeDue 94 = .ok (.iinc 3 1, 3) := by decide +kernel
theorem d_W_takeDue_97 : decode b_W_takeDue 97 = .ok (.goto (-25), 3) := by decide +kernel
theorem d_W_takeDue_100 : decode b_W_takeDue 100 = .ok (.aload_n 0, 1) := by decide +kernel
theorem d_W_takeDue_101 : decode b_W_takeDue 101 = .ok (.dup, 1) := by decide +kernel
theorem d_W_takeDue_102 : decode b_W_takeDue 102 = .ok (.getfield 29, 3) := by decide +kernel
theorem d_W_takeDue_105 : decode b_W_takeDue 105 = .ok (.iconst 1, 1) := by decide +kernel
theorem d_W_takeDue_106 : decode b_W_takeDue 106 = .ok (.isub, 1) := by decide +kernel
theorem d_W_takeDue_107 : decode b_W_takeDue 107 = .ok (.putfield 29, 3) := by decide +kernel
theorem d_W_takeDue_110 : decode b_W_takeDue 110 = .ok (.aload_n 0, 1) := by decide +kernel
theorem d_W_takeDue_111 : decode b_W_takeDue 111 = .ok (.getfield 17, 3) := by decide +kernel
theorem d_W_takeDue_114 : decode b_W_takeDue 114 = .ok (.aload_n 0, 1) := by decide +kernel
theorem d_W_takeDue_115 : decode b_W_takeDue 115 = .ok (.getfield 29, 3) := by decide +kernel
theorem d_W_takeDue_118 : decode b_W_takeDue 118 = .ok (.aload_n 0, 1) := by decide +kernel
theorem d_W_takeDue_119 : decode b_W_takeDue 119 = .ok (.getfield 26, 3) := by decide +kernel
theorem d_W_takeDue_122 : decode b_W_takeDue 122 = .ok (.aastore, 1) := by decide +kernel
theorem d_W_takeDue_123 : decode b_W_takeDue 123 = .ok (.aload_n 0, 1) := by decide +kernel
theorem d_W_takeDue_124 : decode b_W_takeDue 124 = .ok (.aload_n 2, 1) := by decide +kernel
theorem d_W_takeDue_125 : decode b_W_takeDue 125 = .ok (.putfield 26, 3) := by decide +kernel
theorem d_W_takeDue_128 : decode b_W_takeDue 128 = .ok (.aload_n 0, 1) := by decide +kernel
theorem d_W_takeDue_129 : decode b_W_takeDue 129 = .ok (.getfield 26, 3) := by decide +kernel
theorem d_W_takeDue_132 : decode b_W_takeDue 132 = .ok (.areturn, 1) := by decide +kernel
theorem d_W_newDraft_0 : decode b_W_newDraft 0 = .ok (.aload_n 0, 1) := by decide +kernel
theorem d_W_newDraft_1 : decode b_W_newDraft 1 = .ok (.getfield 22, 3) := by decide +kernel
theorem d_W_newDraft_4 : decode b_W_newDraft 4 = .ok (.iconst 0, 1) := by decide +kernel
theorem d_W_newDraft_5 : decode b_W_newDraft 5 = .ok (.putfield 39, 3) := by decide +kernel
theorem d_W_newDraft_8 : decode b_W_newDraft 8 = .ok (.aload_n 0, 1) := by decide +kernel
theorem d_W_newDraft_9 : decode b_W_newDraft 9 = .ok (.getfield 22, 3) := by decide +kernel
theorem d_W_newDraft_12 : decode b_W_newDraft 12 = .ok (.iload_n 1, 1) := by decide +kernel
theorem d_W_newDraft_13 : decode b_W_newDraft 13 = .ok (.putfield 42, 3) := by decide +kernel
theorem d_W_newDraft_16 : decode b_W_newDraft 16 = .ok (.aload_n 0, 1) := by decide +kernel
theorem d_W_newDraft_17 : decode b_W_newDraft 17 = .ok (.getfield 22, 3) := by decide +kernel
theorem d_W_newDraft_20 : decode b_W_newDraft 20 = .ok (.iload_n 2, 1) := by decide +kernel
theorem d_W_newDraft_21 : decode b_W_newDraft 21 = .ok (.putfield 45, 3) := by decide +kernel
theorem d_W_newDraft_24 : decode b_W_newDraft 24 = .ok (.aload_n 0, 1) := by decide +kernel
theorem d_W_newDraft_25 : decode b_W_newDraft 25 = .ok (.getfield 22, 3) := by decide +kernel
theorem d_W_newDraft_28 : decode b_W_newDraft 28 = .ok (.iload_n 3, 1) := by decide +kernel
theorem d_W_newDraft_29 : decode b_W_newDraft 29 = .ok (.putfield 48, 3) := by decide +kernel
theorem d_W_newDraft_32 : decode b_W_newDraft 32 = .ok (.aload_n 0, 1) := by decide +kernel
theorem d_W_newDraft_33 : decode b_W_newDraft 33 = .ok (.getfield 22, 3) := by decide +kernel
theorem d_W_newDraft_36 : decode b_W_newDraft 36 = .ok (.iload 4, 2) := by decide +kernel
theorem d_W_newDraft_38 : decode b_W_newDraft 38 = .ok (.putfield 51, 3) := by decide +kernel
theorem d_W_newDraft_41 : decode b_W_newDraft 41 = .ok (.aload_n 0, 1) := by decide +kernel
theorem d_W_newDraft_42 : decode b_W_newDraft 42 = .ok (.getfield 22, 3) := by decide +kernel
theorem d_W_newDraft_45 : decode b_W_newDraft 45 = .ok (.sipush 255, 3) := by decide +kernel
theorem d_W_newDraft_48 : decode b_W_newDraft 48 = .ok (.putfield 54, 3) := by decide +kernel
theorem d_W_newDraft_51 : decode b_W_newDraft 51 = .ok (.aload_n 0, 1) := by decide +kernel
theorem d_W_newDraft_52 : decode b_W_newDraft 52 = .ok (.getfield 22, 3) := by decide +kernel
theorem d_W_newDraft_55 : decode b_W_newDraft 55 = .ok (.areturn, 1) := by decide +kernel
theorem d_W_carryDraft_0 : decode b_W_carryDraft 0 = .ok (.aload_n 0, 1) := by decide +kernel
theorem d_W_carryDraft_1 : decode b_W_carryDraft 1 = .ok (.getfield 22, 3) := by decide +kernel
theorem d_W_carryDraft_4 : decode b_W_carryDraft 4 = .ok (.getfield 45, 3) := by decide +kernel
theorem d_W_carryDraft_7 : decode b_W_carryDraft 7 = .ok (.ifCond .lt 31, 3) := by decide +kernel
theorem d_W_carryDraft_10 : decode b_W_carryDraft 10 = .ok (.aload_n 0, 1) := by decide +kernel
theorem d_W_carryDraft_11 : decode b_W_carryDraft 11 = .ok (.getfield 22, 3) := by decide +kernel
theorem d_W_carryDraft_14 : decode b_W_carryDraft 14 = .ok (.getfield 45, 3) := by decide +kernel
theorem d_W_carryDraft_17 : decode b_W_carryDraft 17 = .ok (.aload_n 0, 1) := by decide +kernel
theorem d_W_carryDraft_18 : decode b_W_carryDraft 18 = .ok (.getfield 9, 3) := by decide +kernel
theorem d_W_carryDraft_21 : decode b_W_carryDraft 21 = .ok (.arraylength, 1) := by decide +kernel
theorem d_W_carryDraft_22 : decode b_W_carryDraft 22 = .ok (.if_icmp .ge 16, 3) := by decide +kernel
theorem d_W_carryDraft_25 : decode b_W_carryDraft 25 = .ok (.aload_n 0, 1) := by decide +kernel
theorem d_W_carryDraft_26 : decode b_W_carryDraft 26 = .ok (.getfield 9, 3) := by decide +kernel
theorem d_W_carryDraft_29 : decode b_W_carryDraft 29 = .ok (.aload_n 0, 1) := by decide +kernel
theorem d_W_carryDraft_30 : decode b_W_carryDraft 30 = .ok (.getfield 22, 3) := by decide +kernel
theorem d_W_carryDraft_33 : decode b_W_carryDraft 33 = .ok (.getfield 45, 3) := by decide +kernel
theorem d_W_carryDraft_36 : decode b_W_carryDraft 36 = .ok (.iload_n 1, 1) := by decide +kernel
theorem d_W_carryDraft_37 : decode b_W_carryDraft 37 = .ok (.iastore, 1) := by decide +kernel
theorem d_W_carryDraft_38 : decode b_W_carryDraft 38 = .ok (.aload_n 0, 1) := by decide +kernel
theorem d_W_carryDraft_39 : decode b_W_carryDraft 39 = .ok (.getfield 29, 3) := by decide +kernel
theorem d_W_carryDraft_42 : decode b_W_carryDraft 42 = .ok (.ifCond .lt 15, 3) := by decide +kernel
theorem d_W_carryDraft_45 : decode b_W_carryDraft 45 = .ok (.aload_n 0, 1) := by decide +kernel
theorem d_W_carryDraft_46 : decode b_W_carryDraft 46 = .ok (.getfield 29, 3) := by decide +kernel
theorem d_W_carryDraft_49 : decode b_W_carryDraft 49 = .ok (.aload_n 0, 1) := by decide +kernel
theorem d_W_carryDraft_50 : decode b_W_carryDraft 50 = .ok (.getfield 17, 3) := by decide +kernel
theorem d_W_carryDraft_53 : decode b_W_carryDraft 53 = .ok (.arraylength, 1) := by decide +kernel
theorem d_W_carryDraft_54 : decode b_W_carryDraft 54 = .ok (.if_icmp .lt 4, 3) := by decide +kernel
theorem d_W_carryDraft_57 : decode b_W_carryDraft 57 = .ok (.return_, 1) := by decide +kernel
theorem d_W_carryDraft_58 : decode b_W_carryDraft 58 = .ok (.aload_n 0, 1) := by decide +kernel
theorem d_W_carryDraft_59 : decode b_W_carryDraft 59 = .ok (.getfield 22, 3) := by decide +kernel
theorem d_W_carryDraft_62 : decode b_W_carryDraft 62 = .ok (.getfield 48, 3) := by decide +kernel
theorem d_W_carryDraft_65 : decode b_W_carryDraft 65 = .ok (.ifCond .lt 38, 3) := by decide +kernel
theorem d_W_carryDraft_68 : decode b_W_carryDraft 68 = .ok (.aload_n 0, 1) := by decide +kernel
theorem d_W_carryDraft_69 : decode b_W_carryDraft 69 = .ok (.getfield 22, 3) := by decide +kernel
theorem d_W_carryDraft_72 : decode b_W_carryDraft 72 = .ok (.getfield 48, 3) := by decide +kernel
theorem d_W_carryDraft_75 : decode b_W_carryDraft 75 = .ok (.aload_n 0, 1) := by decide +kernel
theorem d_W_carryDraft_76 : decode b_W_carryDraft 76 = .ok (.getfield 9, 3) := by decide +kernel
theorem d_W_carryDraft_79 : decode b_W_carryDraft 79 = .ok (.arraylength, 1) := by decide +kernel
theorem d_W_carryDraft_80 : decode b_W_carryDraft 80 = .ok (.if_icmp .ge 23, 3) := by decide +kernel
theorem d_W_carryDraft_83 : decode b_W_carryDraft 83 = .ok (.aload_n 0, 1) := by decide +kernel
theorem d_W_carryDraft_84 : decode b_W_carryDraft 84 = .ok (.getfield 9, 3) := by decide +kernel
theorem d_W_carryDraft_87 : decode b_W_carryDraft 87 = .ok (.aload_n 0, 1) := by decide +kernel
theorem d_W_carryDraft_88 : decode b_W_carryDraft 88 = .ok (.getfield 22, 3) := by decide +kernel
theorem d_W_carryDraft_91 : decode b_W_carryDraft 91 = .ok (.getfield 48, 3) := by decide +kernel
theorem d_W_carryDraft_94 : decode b_W_carryDraft 94 = .ok (.iaload, 1) := by decide +kernel
theorem d_W_carryDraft_95 : decode b_W_carryDraft 95 = .ok (.iconst (-1), 1) := by decide +kernel
theorem d_W_carryDraft_96 : decode b_W_carryDraft 96 = .ok (.if_icmp .eq 7, 3) := by decide +kernel
theorem d_W_carryDraft_99 : decode b_W_carryDraft 99 = .ok (.iconst 1, 1) := by decide +kernel
theorem d_W_carryDraft_100 : decode b_W_carryDraft 100 = .ok (.goto 4, 3) := by decide +kernel
theorem d_W_carryDraft_103 : decode b_W_carryDraft 103 = .ok (.iconst 0, 1) := by decide +kernel
theorem d_W_carryDraft_104 : decode b_W_carryDraft 104 = .ok (.istore_n 3, 1) := by decide +kernel
theorem d_W_carryDraft_105 : decode b_W_carryDraft 105 = .ok (.iload_n 3, 1) := by decide +kernel
theorem d_W_carryDraft_106 : decode b_W_carryDraft 106 = .ok (.ifCond .eq 20, 3) := by decide +kernel
theorem d_W_carryDraft_109 : decode b_W_carryDraft 109 = .ok (.iconst 1, 1) := by decide +kernel
theorem d_W_carryDraft_110 : decode b_W_carryDraft 110 = .ok (.aload_n 0, 1) := by decide +kernel
theorem d_W_carryDraft_111 : decode b_W_carryDraft 111 = .ok (.getfield 9, 3) := by decide +kernel
theorem d_W_carryDraft_114 : decode b_W_carryDraft 114 = .ok (.aload_n 0, 1) := by decide +kernel
theorem d_W_carryDraft_115 : decode b_W_carryDraft 115 = .ok (.getfield 22, 3) := by decide +kernel
theorem d_W_carryDraft_118 : decode b_W_carryDraft 118 = .ok (.getfield 48, 3) := by decide +kernel
theorem d_W_carryDraft_121 : decode b_W_carryDraft 121 = .ok (.iaload, 1) := by decide +kernel
theorem d_W_carryDraft_122 : decode b_W_carryDraft 122 = .ok (.ishl, 1) := by decide +kernel
theorem d_W_carryDraft_123 : decode b_W_carryDraft 123 = .ok (.goto 5, 3) := by decide +kernel
theorem d_W_carryDraft_126 : decode b_W_carryDraft 126 = .ok (.bipush 31, 2) := by decide +kernel
theorem d_W_carryDraft_128 : decode b_W_carryDraft 128 = .ok (.istore 4, 2) := by decide +kernel
theorem d_W_carryDraft_130 : decode b_W_carryDraft 130 = .ok (.aload_n 0, 1) := by decide +kernel
theorem d_W_carryDraft_131 : decode b_W_carryDraft 131 = .ok (.getfield 22, 3) := by decide +kernel
theorem d_W_carryDraft_134 : decode b_W_carryDraft 134 = .ok (.iload 4, 2) := by decide +kernel
theorem d_W_carryDraft_136 : decode b_W_carryDraft 136 = .ok (.iconst 1, 1) := by decide +kernel
theorem d_W_carryDraft_137 : decode b_W_carryDraft 137 = .ok (.iload_n 1, 1) := by decide +kernel
theorem d_W_carryDraft_138 : decode b_W_carryDraft 138 = .ok (.ishl, 1) := by decide +kernel
theorem d_W_carryDraft_139 : decode b_W_carryDraft 139 = .ok (.iconst (-1), 1) := by decide +kernel
theorem d_W_carryDraft_140 : decode b_W_carryDraft 140 = .ok (.ixor, 1) := by decide +kernel
theorem d_W_carryDraft_141 : decode b_W_carryDraft 141 = .ok (.iand, 1) := by decide +kernel
theorem d_W_carryDraft_142 : decode b_W_carryDraft 142 = .ok (.putfield 57, 3) := by decide +kernel
theorem d_W_carryDraft_145 : decode b_W_carryDraft 145 = .ok (.aload_n 0, 1) := by decide +kernel
theorem d_W_carryDraft_146 : decode b_W_carryDraft 146 = .ok (.getfield 22, 3) := by decide +kernel
theorem d_W_carryDraft_149 : decode b_W_carryDraft 149 = .ok (.aload_n 0, 1) := by decide +kernel
theorem d_W_carryDraft_150 : decode b_W_carryDraft 150 = .ok (.getfield 36, 3) := by decide +kernel
theorem d_W_carryDraft_153 : decode b_W_carryDraft 153 = .ok (.iload_n 2, 1) := by decide +kernel
theorem d_W_carryDraft_154 : decode b_W_carryDraft 154 = .ok (.iadd, 1) := by decide +kernel
theorem d_W_carryDraft_155 : decode b_W_carryDraft 155 = .ok (.putfield 33, 3) := by decide +kernel
theorem d_W_carryDraft_158 : decode b_W_carryDraft 158 = .ok (.aload_n 0, 1) := by decide +kernel
theorem d_W_carryDraft_159 : decode b_W_carryDraft 159 = .ok (.getfield 17, 3) := by decide +kernel
theorem d_W_carryDraft_162 : decode b_W_carryDraft 162 = .ok (.aload_n 0, 1) := by decide +kernel
theorem d_W_carryDraft_163 : decode b_W_carryDraft 163 = .ok (.getfield 29, 3) := by decide +kernel
theorem d_W_carryDraft_166 : decode b_W_carryDraft 166 = .ok (.aaload, 1) := by decide +kernel
theorem d_W_carryDraft_167 : decode b_W_carryDraft 167 = .ok (.astore 5, 2) := by decide +kernel
theorem d_W_carryDraft_169 : decode b_W_carryDraft 169 = .ok (.aload_n 0, 1) := by decide +kernel
theorem d_W_carryDraft_170 : decode b_W_carryDraft 170 = .ok (.getfield 17, 3) := by decide +kernel
theorem d_W_carryDraft_173 : decode b_W_carryDraft 173 = .ok (.aload_n 0, 1) := by decide +kernel
theorem d_W_carryDraft_174 : decode b_W_carryDraft 174 = .ok (.getfield 29, 3) := by decide +kernel
theorem d_W_carryDraft_177 : decode b_W_carryDraft 177 = .ok (.aload_n 0, 1) := by decide +kernel
theorem d_W_carryDraft_178 : decode b_W_carryDraft 178 = .ok (.getfield 22, 3) := by decide +kernel
theorem d_W_carryDraft_181 : decode b_W_carryDraft 181 = .ok (.aastore, 1) := by decide +kernel
theorem d_W_carryDraft_182 : decode b_W_carryDraft 182 = .ok (.aload_n 0, 1) := by decide +kernel
theorem d_W_carryDraft_183 : decode b_W_carryDraft 183 = .ok (.dup, 1) := by decide +kernel
theorem d_W_carryDraft_184 : decode b_W_carryDraft 184 = .ok (.getfield 29, 3) := by decide +kernel
theorem d_W_carryDraft_187 : decode b_W_carryDraft 187 = .ok (.iconst 1, 1) := by decide +kernel
theorem d_W_carryDraft_188 : decode b_W_carryDraft 188 = .ok (.iadd, 1) := by decide +kernel
theorem d_W_carryDraft_189 : decode b_W_carryDraft 189 = .ok (.putfield 29, 3) := by decide +kernel
theorem d_W_carryDraft_192 : decode b_W_carryDraft 192 = .ok (.aload_n 0, 1) := by decide +kernel
theorem d_W_carryDraft_193 : decode b_W_carryDraft 193 = .ok (.aload 5, 2) := by decide +kernel
theorem d_W_carryDraft_195 : decode b_W_carryDraft 195 = .ok (.putfield 22, 3) := by decide +kernel
theorem d_W_carryDraft_198 : decode b_W_carryDraft 198 = .ok (.return_, 1) := by decide +kernel
end
section
theorem d_L_init_0 : decode b_L_init 0 = .ok (.aload_n 0, 1) := by decide +kernel
theorem d_L_init_1 : decode b_L_init 1 = .ok (.invokespecial 1, 3) := by decide +kernel
theorem d_L_init_4 : decode b_L_init 4 = .ok (.new 7, 3) := by decide +kernel
theorem d_L_init_7 : decode b_L_init 7 = .ok (.dup, 1) := by decide +kernel
theorem d_L_init_8 : decode b_L_init 8 = .ok (.invokespecial 9, 3) := by decide +kernel
theorem d_L_init_11 : decode b_L_init 11 = .ok (.astore_n 1, 1) := by decide +kernel
theorem d_L_init_12 : decode b_L_init 12 = .ok (.iconst 5, 1) := by decide +kernel
theorem d_L_init_13 : decode b_L_init 13 = .ok (.anewarray 12, 3) := by decide +kernel
theorem d_L_init_16 : decode b_L_init 16 = .ok (.astore_n 2, 1) := by decide +kernel
theorem d_L_init_17 : decode b_L_init 17 = .ok (.iconst 0, 1) := by decide +kernel
theorem d_L_init_18 : decode b_L_init 18 = .ok (.istore_n 3, 1) := by decide +kernel
theorem d_L_init_19 : decode b_L_init 19 = .ok (.iload_n 3, 1) := by decide +kernel
theorem d_L_init_20 : decode b_L_init 20 = .ok (.iconst 5, 1) := by decide +kernel
theorem d_L_init_21 : decode b_L_init 21 = .ok (.if_icmp .ge 21, 3) := by decide +kernel
theorem d_L_init_24 : decode b_L_init 24 = .ok (.aload_n 2, 1) := by decide +kernel
theorem d_L_init_25 : decode b_L_init 25 = .ok (.iload_n 3, 1) := by decide +kernel
theorem d_L_init_26 : decode b_L_init 26 = .ok (.new 12, 3) := by decide +kernel
theorem d_L_init_29 : decode b_L_init 29 = .ok (.dup, 1) := by decide +kernel
theorem d_L_init_30 : decode b_L_init 30 = .ok (.iload_n 3, 1) := by decide +kernel
theorem d_L_init_31 : decode b_L_init 31 = .ok (.aload_n 1, 1) := by decide +kernel
theorem d_L_init_32 : decode b_L_init 32 = .ok (.invokespecial 14, 3) := by decide +kernel
theorem d_L_init_35 : decode b_L_init 35 = .ok (.aastore, 1) := by decide +kernel
theorem d_L_init_36 : decode b_L_init 36 = .ok (.iinc 3 1, 3) := by decide +kernel
theorem d_L_init_39 : decode b_L_init 39 = .ok (.goto (-20), 3) := by decide +kernel
theorem d_L_init_42 : decode b_L_init 42 = .ok (.aload_n 0, 1) := by decide +kernel
theorem d_L_init_43 : decode b_L_init 43 = .ok (.aload_n 1, 1) := by decide +kernel
theorem d_L_init_44 : decode b_L_init 44 = .ok (.putfield 17, 3) := by decide +kernel
theorem d_L_init_47 : decode b_L_init 47 = .ok (.aload_n 0, 1) := by decide +kernel
theorem d_L_init_48 : decode b_L_init 48 = .ok (.aload_n 2, 1) := by decide +kernel
theorem d_L_init_49 : decode b_L_init 49 = .ok (.putfield 21, 3) := by decide +kernel
theorem d_L_init_52 : decode b_L_init 52 = .ok (.aload_n 0, 1) := by decide +kernel
theorem d_L_init_53 : decode b_L_init 53 = .ok (.new 25, 3) := by decide +kernel
theorem d_L_init_56 : decode b_L_init 56 = .ok (.dup, 1) := by decide +kernel
theorem d_L_init_57 : decode b_L_init 57 = .ok (.invokespecial 27, 3) := by decide +kernel
theorem d_L_init_60 : decode b_L_init 60 = .ok (.putfield 28, 3) := by decide +kernel
theorem d_L_init_63 : decode b_L_init 63 = .ok (.return_, 1) := by decide +kernel
theorem d_L_set_0 : decode b_L_set 0 = .ok (.iload_n 1, 1) := by decide +kernel
theorem d_L_set_1 : decode b_L_set 1 = .ok (.invokestatic 32, 3) := by decide +kernel
theorem d_L_set_4 : decode b_L_set 4 = .ok (.ifCond .eq 23, 3) := by decide +kernel
theorem d_L_set_7 : decode b_L_set 7 = .ok (.iload_n 2, 1) := by decide +kernel
theorem d_L_set_8 : decode b_L_set 8 = .ok (.ifCond .lt 19, 3) := by decide +kernel
theorem d_L_set_11 : decode b_L_set 11 = .ok (.iload_n 2, 1) := by decide +kernel
theorem d_L_set_12 : decode b_L_set 12 = .ok (.getstatic 36, 3) := by decide +kernel
theorem d_L_set_15 : decode b_L_set 15 = .ok (.arraylength, 1) := by decide +kernel
theorem d_L_set_16 : decode b_L_set 16 = .ok (.if_icmp .ge 11, 3) := by decide +kernel
theorem d_L_set_19 : decode b_L_set 19 = .ok (.iload_n 2, 1) := by decide +kernel
theorem d_L_set_20 : decode b_L_set 20 = .ok (.getstatic 40, 3) := by decide +kernel
theorem d_L_set_23 : decode b_L_set 23 = .ok (.arraylength, 1) := by decide +kernel
theorem d_L_set_24 : decode b_L_set 24 = .ok (.if_icmp .lt 13, 3) := by decide +kernel
theorem d_L_set_27 : decode b_L_set 27 = .ok (.new 43, 3) := by decide +kernel
theorem d_L_set_30 : decode b_L_set 30 = .ok (.dup, 1) := by decide +kernel
theorem d_L_set_31 : decode b_L_set 31 = .ok (.ldc 45, 2) := by decide +kernel
theorem d_L_set_33 : decode b_L_set 33 = .ok (.invokespecial 47, 3) := by decide +kernel
theorem d_L_set_36 : decode b_L_set 36 = .ok (.athrow, 1) := by decide +kernel
theorem d_L_set_37 : decode b_L_set 37 = .ok (.iload_n 3, 1) := by decide +kernel
theorem d_L_set_38 : decode b_L_set 38 = .ok (.getstatic 36, 3) := by decide +kernel
theorem d_L_set_41 : decode b_L_set 41 = .ok (.iload_n 2, 1) := by decide +kernel
theorem d_L_set_42 : decode b_L_set 42 = .ok (.iaload, 1) := by decide +kernel
theorem d_L_set_43 : decode b_L_set 43 = .ok (.if_icmp .lt 12, 3) := by decide +kernel
theorem d_L_set_46 : decode b_L_set 46 = .ok (.iload_n 3, 1) := by decide +kernel
theorem d_L_set_47 : decode b_L_set 47 = .ok (.getstatic 40, 3) := by decide +kernel
theorem d_L_set_50 : decode b_L_set 50 = .ok (.iload_n 2, 1) := by decide +kernel
theorem d_L_set_51 : decode b_L_set 51 = .ok (.iaload, 1) := by decide +kernel
theorem d_L_set_52 : decode b_L_set 52 = .ok (.if_icmp .le 13, 3) := by decide +kernel
theorem d_L_set_55 : decode b_L_set 55 = .ok (.new 50, 3) := by decide +kernel
theorem d_L_set_58 : decode b_L_set 58 = .ok (.dup, 1) := by decide +kernel
theorem d_L_set_59 : decode b_L_set 59 = .ok (.ldc 52, 2) := by decide +kernel
theorem d_L_set_61 : decode b_L_set 61 = .ok (.invokespecial 54, 3) := by decide +kernel
theorem d_L_set_64 : decode b_L_set 64 = .ok (.athrow, 1) := by decide +kernel
theorem d_L_set_65 : decode b_L_set 65 = .ok (.aload_n 0, 1) := by decide +kernel
theorem d_L_set_66 : decode b_L_set 66 = .ok (.getfield 21, 3) := by decide +kernel
theorem d_L_set_69 : decode b_L_set 69 = .ok (.iload_n 1, 1) := by decide +kernel
theorem d_L_set_70 : decode b_L_set 70 = .ok (.aaload, 1) := by decide +kernel
theorem d_L_set_71 : decode b_L_set 71 = .ok (.getfield 55, 3) := by decide +kernel
theorem d_L_set_74 : decode b_L_set 74 = .ok (.iload_n 2, 1) := by decide +kernel
theorem d_L_set_75 : decode b_L_set 75 = .ok (.iload_n 3, 1) := by decide +kernel
theorem d_L_set_76 : decode b_L_set 76 = .ok (.iastore, 1) := by decide +kernel
theorem d_L_set_77 : decode b_L_set 77 = .ok (.return_, 1) := by decide +kernel
theorem d_L_start_0 : decode b_L_start 0 = .ok (.iload_n 1, 1) := by decide +kernel
theorem d_L_start_1 : decode b_L_start 1 = .ok (.invokestatic 32, 3) := by decide +kernel
theorem d_L_start_4 : decode b_L_start 4 = .ok (.ifCond .ne 13, 3) := by decide +kernel
theorem d_L_start_7 : decode b_L_start 7 = .ok (.new 43, 3) := by decide +kernel
theorem d_L_start_10 : decode b_L_start 10 = .ok (.dup, 1) := by decide +kernel
theorem d_L_start_11 : decode b_L_start 11 = .ok (.ldc 58, 2) := by decide +kernel
theorem d_L_start_13 : decode b_L_start 13 = .ok (.invokespecial 47, 3) := by decide +kernel
theorem d_L_start_16 : decode b_L_start 16 = .ok (.athrow, 1) := by decide +kernel
theorem d_L_start_17 : decode b_L_start 17 = .ok (.aload_n 0, 1) := by decide +kernel
theorem d_L_start_18 : decode b_L_start 18 = .ok (.getfield 21, 3) := by decide +kernel
theorem d_L_start_21 : decode b_L_start 21 = .ok (.iload_n 1, 1) := by decide +kernel
theorem d_L_start_22 : decode b_L_start 22 = .ok (.aaload, 1) := by decide +kernel
theorem d_L_start_23 : decode b_L_start 23 = .ok (.getfield 60, 3) := by decide +kernel
theorem d_L_start_26 : decode b_L_start 26 = .ok (.ifCond .eq 13, 3) := by decide +kernel
theorem d_L_start_29 : decode b_L_start 29 = .ok (.new 64, 3) := by decide +kernel
theorem d_L_start_32 : decode b_L_start 32 = .ok (.dup, 1) := by decide +kernel
theorem d_L_start_33 : decode b_L_start 33 = .ok (.ldc 66, 2) := by decide +kernel
theorem d_L_start_35 : decode b_L_start 35 = .ok (.invokespecial 68, 3) := by decide +kernel
theorem d_L_start_38 : decode b_L_start 38 = .ok (.athrow, 1) := by decide +kernel
theorem d_L_start_39 : decode b_L_start 39 = .ok (.aload_n 0, 1) := by decide +kernel
theorem d_L_start_40 : decode b_L_start 40 = .ok (.getfield 21, 3) := by decide +kernel
theorem d_L_start_43 : decode b_L_start 43 = .ok (.iload_n 1, 1) := by decide +kernel
theorem d_L_start_44 : decode b_L_start 44 = .ok (.aaload, 1) := by decide +kernel
theorem d_L_start_45 : decode b_L_start 45 = .ok (.invokevirtual 69, 3) := by decide +kernel
theorem d_L_start_48 : decode b_L_start 48 = .ok (.return_, 1) := by decide +kernel
theorem d_L_stop_0 : decode b_L_stop 0 = .ok (.iload_n 1, 1) := by decide +kernel
theorem d_L_stop_1 : decode b_L_stop 1 = .ok (.invokestatic 32, 3) := by decide +kernel
theorem d_L_stop_4 : decode b_L_stop 4 = .ok (.ifCond .ne 13, 3) := by decide +kernel
theorem d_L_stop_7 : decode b_L_stop 7 = .ok (.new 43, 3) := by decide +kernel
theorem d_L_stop_10 : decode b_L_stop 10 = .ok (.dup, 1) := by decide +kernel
theorem d_L_stop_11 : decode b_L_stop 11 = .ok (.ldc 58, 2) := by decide +kernel
theorem d_L_stop_13 : decode b_L_stop 13 = .ok (.invokespecial 47, 3) := by decide +kernel
theorem d_L_stop_16 : decode b_L_stop 16 = .ok (.athrow, 1) := by decide +kernel
theorem d_L_stop_17 : decode b_L_stop 17 = .ok (.aload_n 0, 1) := by decide +kernel
theorem d_L_stop_18 : decode b_L_stop 18 = .ok (.getfield 21, 3) := by decide +kernel
theorem d_L_stop_21 : decode b_L_stop 21 = .ok (.iload_n 1, 1) := by decide +kernel
theorem d_L_stop_22 : decode b_L_stop 22 = .ok (.aaload, 1) := by decide +kernel
theorem d_L_stop_23 : decode b_L_stop 23 = .ok (.getfield 60, 3) := by decide +kernel
theorem d_L_stop_26 : decode b_L_stop 26 = .ok (.ifCond .ne 13, 3) := by decide +kernel
theorem d_L_stop_29 : decode b_L_stop 29 = .ok (.new 64, 3) := by decide +kernel
theorem d_L_stop_32 : decode b_L_stop 32 = .ok (.dup, 1) := by decide +kernel
theorem d_L_stop_33 : decode b_L_stop 33 = .ok (.ldc 72, 2) := by decide +kernel
theorem d_L_stop_35 : decode b_L_stop 35 = .ok (.invokespecial 68, 3) := by decide +kernel
theorem d_L_stop_38 : decode b_L_stop 38 = .ok (.athrow, 1) := by decide +kernel
theorem d_L_stop_39 : decode b_L_stop 39 = .ok (.iload_n 2, 1) := by decide +kernel
theorem d_L_stop_40 : decode b_L_stop 40 = .ok (.ifCond .ne 12, 3) := by decide +kernel
theorem d_L_stop_43 : decode b_L_stop 43 = .ok (.aload_n 0, 1) := by decide +kernel
theorem d_L_stop_44 : decode b_L_stop 44 = .ok (.getfield 21, 3) := by decide +kernel
theorem d_L_stop_47 : decode b_L_stop 47 = .ok (.iload_n 1, 1) := by decide +kernel
theorem d_L_stop_48 : decode b_L_stop 48 = .ok (.aaload, 1) := by decide +kernel
theorem d_L_stop_49 : decode b_L_stop 49 = .ok (.invokevirtual 74, 3) := by decide +kernel
theorem d_L_stop_52 : decode b_L_stop 52 = .ok (.aload_n 0, 1) := by decide +kernel
theorem d_L_stop_53 : decode b_L_stop 53 = .ok (.getfield 21, 3) := by decide +kernel
theorem d_L_stop_56 : decode b_L_stop 56 = .ok (.iload_n 1, 1) := by decide +kernel
theorem d_L_stop_57 : decode b_L_stop 57 = .ok (.aaload, 1) := by decide +kernel
theorem d_L_stop_58 : decode b_L_stop 58 = .ok (.invokevirtual 77, 3) := by decide +kernel
theorem d_L_stop_61 : decode b_L_stop 61 = .ok (.return_, 1) := by decide +kernel
theorem d_L_open_0 : decode b_L_open 0 = .ok (.iload_n 1, 1) := by decide +kernel
theorem d_L_open_1 : decode b_L_open 1 = .ok (.invokestatic 32, 3) := by decide +kernel
theorem d_L_open_4 : decode b_L_open 4 = .ok (.ifCond .eq 15, 3) := by decide +kernel
theorem d_L_open_7 : decode b_L_open 7 = .ok (.iload_n 2, 1) := by decide +kernel
theorem d_L_open_8 : decode b_L_open 8 = .ok (.invokestatic 32, 3) := by decide +kernel
theorem d_L_open_11 : decode b_L_open 11 = .ok (.ifCond .eq 8, 3) := by decide +kernel
theorem d_L_open_14 : decode b_L_open 14 = .ok (.iload_n 2, 1) := by decide +kernel
theorem d_L_open_15 : decode b_L_open 15 = .ok (.iload_n 1, 1) := by decide +kernel
theorem d_L_open_16 : decode b_L_open 16 = .ok (.if_icmp .ne 13, 3) := by decide +kernel
theorem d_L_open_19 : decode b_L_open 19 = .ok (.new 43, 3) := by decide +kernel
theorem d_L_open_22 : decode b_L_open 22 = .ok (.dup, 1) := by decide +kernel
theorem d_L_open_23 : decode b_L_open 23 = .ok (.ldc 80, 2) := by decide +kernel
theorem d_L_open_25 : decode b_L_open 25 = .ok (.invokespecial 47, 3) := by decide +kernel
theorem d_L_open_28 : decode b_L_open 28 = .ok (.athrow, 1) := by decide +kernel
theorem d_L_open_29 : decode b_L_open 29 = .ok (.aload_n 0, 1) := by decide +kernel
theorem d_L_open_30 : decode b_L_open 30 = .ok (.getfield 21, 3) := by decide +kernel
theorem d_L_open_33 : decode b_L_open 33 = .ok (.iload_n 1, 1) := by decide +kernel
theorem d_L_open_34 : decode b_L_open 34 = .ok (.aaload, 1) := by decide +kernel
theorem d_L_open_35 : decode b_L_open 35 = .ok (.getfield 60, 3) := by decide +kernel
theorem d_L_open_38 : decode b_L_open 38 = .ok (.ifCond .ne 13, 3) := by decide +kernel
theorem d_L_open_41 : decode b_L_open 41 = .ok (.new 64, 3) := by decide +kernel
theorem d_L_open_44 : decode b_L_open 44 = .ok (.dup, 1) := by decide +kernel
theorem d_L_open_45 : decode b_L_open 45 = .ok (.ldc 72, 2) := by decide +kernel
theorem d_L_open_47 : decode b_L_open 47 = .ok (.invokespecial 68, 3) := by decide +kernel
theorem d_L_open_50 : decode b_L_open 50 = .ok (.athrow, 1) := by decide +kernel
theorem d_L_open_51 : decode b_L_open 51 = .ok (.iload_n 3, 1) := by decide +kernel
theorem d_L_open_52 : decode b_L_open 52 = .ok (.invokestatic 82, 3) := by decide +kernel
theorem d_L_open_55 : decode b_L_open 55 = .ok (.ifCond .eq 25, 3) := by decide +kernel
theorem d_L_open_58 : decode b_L_open 58 = .ok (.iload 4, 2) := by decide +kernel
theorem d_L_open_60 : decode b_L_open 60 = .ok (.invokestatic 82, 3) := by decide +kernel
theorem d_L_open_63 : decode b_L_open 63 = .ok (.ifCond .eq 17, 3) := by decide +kernel
theorem d_L_open_66 : decode b_L_open 66 = .ok (.iload 5, 2) := by decide +kernel
theorem d_L_open_68 : decode b_L_open 68 = .ok (.iconst 1, 1) := by decide +kernel
theorem d_L_open_69 : decode b_L_open 69 = .ok (.if_icmp .lt 11, 3) := by decide +kernel
theorem d_L_open_72 : decode b_L_open 72 = .ok (.iload 5, 2) := by decide +kernel
theorem d_L_open_74 : decode b_L_open 74 = .ok (.sipush 255, 3) := by decide +kernel
theorem d_L_open_77 : decode b_L_open 77 = .ok (.if_icmp .le 13, 3) := by decide +kernel
theorem d_L_open_80 : decode b_L_open 80 = .ok (.new 50, 3) := by decide +kernel
theorem d_L_open_83 : decode b_L_open 83 = .ok (.dup, 1) := by decide +kernel
theorem d_L_open_84 : decode b_L_open 84 = .ok (.ldc 85, 2) := by decide +kernel
theorem d_L_open_86 : decode b_L_open 86 = .ok (.invokespecial 54, 3) := by decide +kernel
theorem d_L_open_89 : decode b_L_open 89 = .ok (.athrow, 1) := by decide +kernel
theorem d_L_open_90 : decode b_L_open 90 = .ok (.aload_n 0, 1) := by decide +kernel
theorem d_L_open_91 : decode b_L_open 91 = .ok (.getfield 21, 3) := by decide +kernel
theorem d_L_open_94 : decode b_L_open 94 = .ok (.iload_n 1, 1) := by decide +kernel
theorem d_L_open_95 : decode b_L_open 95 = .ok (.aaload, 1) := by decide +kernel
theorem d_L_open_96 : decode b_L_open 96 = .ok (.getfield 87, 3) := by decide +kernel
theorem d_L_open_99 : decode b_L_open 99 = .ok (.iload_n 2, 1) := by decide +kernel
theorem d_L_open_100 : decode b_L_open 100 = .ok (.aaload, 1) := by decide +kernel
theorem d_L_open_101 : decode b_L_open 101 = .ok (.iload_n 3, 1) := by decide +kernel
theorem d_L_open_102 : decode b_L_open 102 = .ok (.iload 4, 2) := by decide +kernel
theorem d_L_open_104 : decode b_L_open 104 = .ok (.iload 5, 2) := by decide +kernel
theorem d_L_open_106 : decode b_L_open 106 = .ok (.invokevirtual 91, 3) := by decide +kernel
theorem d_L_open_109 : decode b_L_open 109 = .ok (.return_, 1) := by decide +kernel
theorem d_L_change_0 : decode b_L_change 0 = .ok (.iload_n 1, 1) := by decide +kernel
theorem d_L_change_1 : decode b_L_change 1 = .ok (.invokestatic 32, 3) := by decide +kernel
theorem d_L_change_4 : decode b_L_change 4 = .ok (.ifCond .eq 10, 3) := by decide +kernel
theorem d_L_change_7 : decode b_L_change 7 = .ok (.iload_n 2, 1) := by decide +kernel
theorem d_L_change_8 : decode b_L_change 8 = .ok (.invokestatic 32, 3) := by decide +kernel
theorem d_L_change_11 : decode b_L_change 11 = .ok (.ifCond .ne 13, 3) := by decide +kernel
theorem d_L_change_14 : decode b_L_change 14 = .ok (.new 43, 3) := by decide +kernel
theorem d_L_change_17 : decode b_L_change 17 = .ok (.dup, 1) := by decide +kernel
theorem d_L_change_18 : decode b_L_change 18 = .ok (.ldc 58, 2) := by decide +kernel
theorem d_L_change_20 : decode b_L_change 20 = .ok (.invokespecial 47, 3) := by decide +kernel
theorem d_L_change_23 : decode b_L_change 23 = .ok (.athrow, 1) := by decide +kernel
theorem d_L_change_24 : decode b_L_change 24 = .ok (.aload_n 0, 1) := by decide +kernel
theorem d_L_change_25 : decode b_L_change 25 = .ok (.getfield 21, 3) := by decide +kernel
theorem d_L_change_28 : decode b_L_change 28 = .ok (.iload_n 1, 1) := by decide +kernel
theorem d_L_change_29 : decode b_L_change 29 = .ok (.aaload, 1) := by decide +kernel
theorem d_L_change_30 : decode b_L_change 30 = .ok (.getfield 87, 3) := by decide +kernel
theorem d_L_change_33 : decode b_L_change 33 = .ok (.iload_n 2, 1) := by decide +kernel
theorem d_L_change_34 : decode b_L_change 34 = .ok (.aaload, 1) := by decide +kernel
theorem d_L_change_35 : decode b_L_change 35 = .ok (.astore 5, 2) := by decide +kernel
theorem d_L_change_37 : decode b_L_change 37 = .ok (.aload 5, 2) := by decide +kernel
theorem d_L_change_39 : decode b_L_change 39 = .ok (.getfield 97, 3) := by decide +kernel
theorem d_L_change_42 : decode b_L_change 42 = .ok (.ifCond .eq 11, 3) := by decide +kernel
theorem d_L_change_45 : decode b_L_change 45 = .ok (.aload 5, 2) := by decide +kernel
theorem d_L_change_47 : decode b_L_change 47 = .ok (.getfield 101, 3) := by decide +kernel
theorem d_L_change_50 : decode b_L_change 50 = .ok (.ifCond .ne 13, 3) := by decide +kernel
theorem d_L_change_53 : decode b_L_change 53 = .ok (.new 64, 3) := by decide +kernel
theorem d_L_change_56 : decode b_L_change 56 = .ok (.dup, 1) := by decide +kernel
theorem d_L_change_57 : decode b_L_change 57 = .ok (.ldc 102, 2) := by decide +kernel
theorem d_L_change_59 : decode b_L_change 59 = .ok (.invokespecial 68, 3) := by decide +kernel
theorem d_L_change_62 : decode b_L_change 62 = .ok (.athrow, 1) := by decide +kernel
theorem d_L_change_63 : decode b_L_change 63 = .ok (.iload_n 3, 1) := by decide +kernel
theorem d_L_change_64 : decode b_L_change 64 = .ok (.ifCond .ne 12, 3) := by decide +kernel
theorem d_L_change_67 : decode b_L_change 67 = .ok (.iload 4, 2) := by decide +kernel
theorem d_L_change_69 : decode b_L_change 69 = .ok (.ifCond .ne 7, 3) := by decide +kernel
theorem d_L_change_72 : decode b_L_change 72 = .ok (.iconst 1, 1) := by decide +kernel
theorem d_L_change_73 : decode b_L_change 73 = .ok (.goto 4, 3) := by decide +kernel
theorem d_L_change_76 : decode b_L_change 76 = .ok (.iconst 0, 1) := by decide +kernel
theorem d_L_change_77 : decode b_L_change 77 = .ok (.istore 6, 2) := by decide +kernel
theorem d_L_change_79 : decode b_L_change 79 = .ok (.iload 6, 2) := by decide +kernel
theorem d_L_change_81 : decode b_L_change 81 = .ok (.ifCond .ne 28, 3) := by decide +kernel
theorem d_L_change_84 : decode b_L_change 84 = .ok (.iload_n 3, 1) := by decide +kernel
theorem d_L_change_85 : decode b_L_change 85 = .ok (.invokestatic 82, 3) := by decide +kernel
theorem d_L_change_88 : decode b_L_change 88 = .ok (.ifCond .eq 11, 3) := by decide +kernel
theorem d_L_change_91 : decode b_L_change 91 = .ok (.iload 4, 2) := by decide +kernel
theorem d_L_change_93 : decode b_L_change 93 = .ok (.invokestatic 82, 3) := by decide +kernel
theorem d_L_change_96 : decode b_L_change 96 = .ok (.ifCond .ne 13, 3) := by decide +kernel
theorem d_L_change_99 : decode b_L_change 99 = .ok (.new 50, 3) := by decide +kernel
theorem d_L_change_102 : decode b_L_change 102 = .ok (.dup, 1) := by decide +kernel
theorem d_L_change_103 : decode b_L_change 103 = .ok (.ldc 104, 2) := by decide +kernel
theorem d_L_change_105 : decode b_L_change 105 = .ok (.invokespecial 54, 3) := by decide +kernel
theorem d_L_change_108 : decode b_L_change 108 = .ok (.athrow, 1) := by decide +kernel
theorem d_L_change_109 : decode b_L_change 109 = .ok (.iload 6, 2) := by decide +kernel
theorem d_L_change_111 : decode b_L_change 111 = .ok (.ifCond .eq 11, 3) := by decide +kernel
theorem d_L_change_114 : decode b_L_change 114 = .ok (.aload 5, 2) := by decide +kernel
theorem d_L_change_116 : decode b_L_change 116 = .ok (.invokevirtual 106, 3) := by decide +kernel
theorem d_L_change_119 : decode b_L_change 119 = .ok (.goto 11, 3) := by decide +kernel
theorem d_L_change_122 : decode b_L_change 122 = .ok (.aload 5, 2) := by decide +kernel
theorem d_L_change_124 : decode b_L_change 124 = .ok (.iload_n 3, 1) := by decide +kernel
theorem d_L_change_125 : decode b_L_change 125 = .ok (.iload 4, 2) := by decide +kernel
theorem d_L_change_127 : decode b_L_change 127 = .ok (.invokevirtual 109, 3) := by decide +kernel
theorem d_L_change_130 : decode b_L_change 130 = .ok (.return_, 1) := by decide +kernel
theorem d_L_ask_0 : decode b_L_ask 0 = .ok (.iload_n 1, 1) := by decide +kernel
theorem d_L_ask_1 : decode b_L_ask 1 = .ok (.invokestatic 32, 3) := by decide +kernel
theorem d_L_ask_4 : decode b_L_ask 4 = .ok (.ifCond .ne 13, 3) := by decide +kernel
theorem d_L_ask_7 : decode b_L_ask 7 = .ok (.new 43, 3) := by decide +kernel
theorem d_L_ask_10 : decode b_L_ask 10 = .ok (.dup, 1) := by decide +kernel
theorem d_L_ask_11 : decode b_L_ask 11 = .ok (.ldc 58, 2) := by decide +kernel
theorem d_L_ask_13 : decode b_L_ask 13 = .ok (.invokespecial 47, 3) := by decide +kernel
theorem d_L_ask_16 : decode b_L_ask 16 = .ok (.athrow, 1) := by decide +kernel
theorem d_L_ask_17 : decode b_L_ask 17 = .ok (.aload_n 0, 1) := by decide +kernel
theorem d_L_ask_18 : decode b_L_ask 18 = .ok (.getfield 21, 3) := by decide +kernel
theorem d_L_ask_21 : decode b_L_ask 21 = .ok (.iload_n 1, 1) := by decide +kernel
theorem d_L_ask_22 : decode b_L_ask 22 = .ok (.aaload, 1) := by decide +kernel
theorem d_L_ask_23 : decode b_L_ask 23 = .ok (.getfield 60, 3) := by decide +kernel
theorem d_L_ask_26 : decode b_L_ask 26 = .ok (.ifCond .ne 13, 3) := by decide +kernel
theorem d_L_ask_29 : decode b_L_ask 29 = .ok (.new 64, 3) := by decide +kernel
theorem d_L_ask_32 : decode b_L_ask 32 = .ok (.dup, 1) := by decide +kernel
theorem d_L_ask_33 : decode b_L_ask 33 = .ok (.ldc 72, 2) := by decide +kernel
theorem d_L_ask_35 : decode b_L_ask 35 = .ok (.invokespecial 68, 3) := by decide +kernel
theorem d_L_ask_38 : decode b_L_ask 38 = .ok (.athrow, 1) := by decide +kernel
theorem d_L_ask_39 : decode b_L_ask 39 = .ok (.aload_n 0, 1) := by decide +kernel
theorem d_L_ask_40 : decode b_L_ask 40 = .ok (.getfield 21, 3) := by decide +kernel
theorem d_L_ask_43 : decode b_L_ask 43 = .ok (.iload_n 1, 1) := by decide +kernel
theorem d_L_ask_44 : decode b_L_ask 44 = .ok (.aaload, 1) := by decide +kernel
theorem d_L_ask_45 : decode b_L_ask 45 = .ok (.iconst 3, 1) := by decide +kernel
theorem d_L_ask_46 : decode b_L_ask 46 = .ok (.iload_n 1, 1) := by decide +kernel
theorem d_L_ask_47 : decode b_L_ask 47 = .ok (.bipush 15, 2) := by decide +kernel
theorem d_L_ask_49 : decode b_L_ask 49 = .ok (.invokevirtual 113, 3) := by decide +kernel
theorem d_L_ask_52 : decode b_L_ask 52 = .ok (.return_, 1) := by decide +kernel
theorem d_L_tick_0 : decode b_L_tick 0 = .ok (.iload_n 1, 1) := by decide +kernel
theorem d_L_tick_1 : decode b_L_tick 1 = .ok (.iconst 1, 1) := by decide +kernel
theorem d_L_tick_2 : decode b_L_tick 2 = .ok (.if_icmp .lt 10, 3) := by decide +kernel
theorem d_L_tick_5 : decode b_L_tick 5 = .ok (.iload_n 1, 1) := by decide +kernel
theorem d_L_tick_6 : decode b_L_tick 6 = .ok (.sipush 400, 3) := by decide +kernel
theorem d_L_tick_9 : decode b_L_tick 9 = .ok (.if_icmp .le 13, 3) := by decide +kernel
theorem d_L_tick_12 : decode b_L_tick 12 = .ok (.new 50, 3) := by decide +kernel
theorem d_L_tick_15 : decode b_L_tick 15 = .ok (.dup, 1) := by decide +kernel
theorem d_L_tick_16 : decode b_L_tick 16 = .ok (.ldc 116, 2) := by decide +kernel
theorem d_L_tick_18 : decode b_L_tick 18 = .ok (.invokespecial 54, 3) := by decide +kernel
theorem d_L_tick_21 : decode b_L_tick 21 = .ok (.athrow, 1) := by decide +kernel
theorem d_L_tick_22 : decode b_L_tick 22 = .ok (.iconst 0, 1) := by decide +kernel
theorem d_L_tick_23 : decode b_L_tick 23 = .ok (.istore_n 2, 1) := by decide +kernel
theorem d_L_tick_24 : decode b_L_tick 24 = .ok (.iload_n 2, 1) := by decide +kernel
theorem d_L_tick_25 : decode b_L_tick 25 = .ok (.iload_n 1, 1) := by decide +kernel
theorem d_L_tick_26 : decode b_L_tick 26 = .ok (.if_icmp .ge 81, 3) := by decide +kernel
theorem d_L_tick_29 : decode b_L_tick 29 = .ok (.aload_n 0, 1) := by decide +kernel
theorem d_L_tick_30 : decode b_L_tick 30 = .ok (.getfield 17, 3) := by decide +kernel
theorem d_L_tick_33 : decode b_L_tick 33 = .ok (.dup, 1) := by decide +kernel
theorem d_L_tick_34 : decode b_L_tick 34 = .ok (.getfield 118, 3) := by decide +kernel
theorem d_L_tick_37 : decode b_L_tick 37 = .ok (.iconst 1, 1) := by decide +kernel
theorem d_L_tick_38 : decode b_L_tick 38 = .ok (.iadd, 1) := by decide +kernel
theorem d_L_tick_39 : decode b_L_tick 39 = .ok (.putfield 118, 3) := by decide +kernel
theorem d_L_tick_42 : decode b_L_tick 42 = .ok (.aload_n 0, 1) := by decide +kernel
theorem d_L_tick_43 : decode b_L_tick 43 = .ok (.getfield 17, 3) := by decide +kernel
theorem d_L_tick_46 : decode b_L_tick 46 = .ok (.invokevirtual 121, 3) := by decide +kernel
theorem d_L_tick_49 : decode b_L_tick 49 = .ok (.istore_n 3, 1) := by decide +kernel
theorem d_L_tick_50 : decode b_L_tick 50 = .ok (.iconst 0, 1) := by decide +kernel
theorem d_L_tick_51 : decode b_L_tick 51 = .ok (.istore 4, 2) := by decide +kernel
theorem d_L_tick_53 : decode b_L_tick 53 = .ok (.iload 4, 2) := by decide +kernel
theorem d_L_tick_55 : decode b_L_tick 55 = .ok (.iload_n 3, 1) := by decide +kernel
theorem d_L_tick_56 : decode b_L_tick 56 = .ok (.if_icmp .ge 20, 3) := by decide +kernel
theorem d_L_tick_59 : decode b_L_tick 59 = .ok (.aload_n 0, 1) := by decide +kernel
theorem d_L_tick_60 : decode b_L_tick 60 = .ok (.aload_n 0, 1) := by decide +kernel
theorem d_L_tick_61 : decode b_L_tick 61 = .ok (.getfield 17, 3) := by decide +kernel
theorem d_L_tick_64 : decode b_L_tick 64 = .ok (.invokevirtual 125, 3) := by decide +kernel
theorem d_L_tick_67 : decode b_L_tick 67 = .ok (.invokevirtual 129, 3) := by decide +kernel
theorem d_L_tick_70 : decode b_L_tick 70 = .ok (.iinc 4 1, 3) := by decide +kernel
theorem d_L_tick_73 : decode b_L_tick 73 = .ok (.goto (-20), 3) := by decide +kernel
theorem d_L_tick_76 : decode b_L_tick 76 = .ok (.iconst 0, 1) := by decide +kernel
theorem d_L_tick_77 : decode b_L_tick 77 = .ok (.istore 4, 2) := by decide +kernel
theorem d_L_tick_79 : decode b_L_tick 79 = .ok (.iload 4, 2) := by decide +kernel
theorem d_L_tick_81 : decode b_L_tick 81 = .ok (.iconst 5, 1) := by decide +kernel
theorem d_L_tick_82 : decode b_L_tick 82 = .ok (.if_icmp .ge 19, 3) := by decide +kernel
theorem d_L_tick_85 : decode b_L_tick 85 = .ok (.aload_n 0, 1) := by decide +kernel
theorem d_L_tick_86 : decode b_L_tick 86 = .ok (.getfield 21, 3) := by decide +kernel
theorem d_L_tick_89 : decode b_L_tick 89 = .ok (.iload 4, 2) := by decide +kernel
theorem d_L_tick_91 : decode b_L_tick 91 = .ok (.aaload, 1) := by decide +kernel
theorem d_L_tick_92 : decode b_L_tick 92 = .ok (.invokevirtual 133, 3) := by decide +kernel
theorem d_L_tick_95 : decode b_L_tick 95 = .ok (.iinc 4 1, 3) := by decide +kernel
theorem d_L_tick_98 : decode b_L_tick 98 = .ok (.goto (-19), 3) := by decide +kernel
theorem d_L_tick_101 : decode b_L_tick 101 = .ok (.iinc 2 1, 3) := by decide +kernel
theorem d_L_tick_104 : decode b_L_tick 104 = .ok (.goto (-80), 3) := by decide +kernel
theorem d_L_tick_107 : decode b_L_tick 107 = .ok (.aload_n 0, 1) := by decide +kernel
theorem d_L_tick_108 : decode b_L_tick 108 = .ok (.getfield 17, 3) := by decide +kernel
theorem d_L_tick_111 : decode b_L_tick 111 = .ok (.getfield 118, 3) := by decide +kernel
theorem d_L_tick_114 : decode b_L_tick 114 = .ok (.ireturn, 1) := by decide +kernel
theorem d_L_type_0 : decode b_L_type 0 = .ok (.iload_n 3, 1) := by decide +kernel
theorem d_L_type_1 : decode b_L_type 1 = .ok (.iconst 1, 1) := by decide +kernel
theorem d_L_type_2 : decode b_L_type 2 = .ok (.if_icmp .lt 23, 3) := by decide +kernel
theorem d_L_type_5 : decode b_L_type 5 = .ok (.iload_n 3, 1) := by decide +kernel
theorem d_L_type_6 : decode b_L_type 6 = .ok (.bipush 8, 2) := by decide +kernel
theorem d_L_type_8 : decode b_L_type 8 = .ok (.if_icmp .gt 17, 3) := by decide +kernel
theorem d_L_type_11 : decode b_L_type 11 = .ok (.aload_n 0, 1) := by decide +kernel
theorem d_L_type_12 : decode b_L_type 12 = .ok (.getfield 28, 3) := by decide +kernel
theorem d_L_type_15 : decode b_L_type 15 = .ok (.getfield 136, 3) := by decide +kernel
theorem d_L_type_18 : decode b_L_type 18 = .ok (.iload_n 3, 1) := by decide +kernel
theorem d_L_type_19 : decode b_L_type 19 = .ok (.iadd, 1) := by decide +kernel
theorem d_L_type_20 : decode b_L_type 20 = .ok (.bipush 40, 2) := by decide +kernel
theorem d_L_type_22 : decode b_L_type 22 = .ok (.if_icmp .le 5, 3) := by decide +kernel
theorem d_L_type_25 : decode b_L_type 25 = .ok (.iconst 0, 1) := by decide +kernel
theorem d_L_type_26 : decode b_L_type 26 = .ok (.ireturn, 1) := by decide +kernel
theorem d_L_type_27 : decode b_L_type 27 = .ok (.iload_n 3, 1) := by decide +kernel
theorem d_L_type_28 : decode b_L_type 28 = .ok (.iconst 1, 1) := by decide +kernel
theorem d_L_type_29 : decode b_L_type 29 = .ok (.isub, 1) := by decide +kernel
theorem d_L_type_30 : decode b_L_type 30 = .ok (.istore 4, 2) := by decide +kernel
theorem d_L_type_32 : decode b_L_type 32 = .ok (.iload 4, 2) := by decide +kernel
theorem d_L_type_34 : decode b_L_type 34 = .ok (.ifCond .lt 24, 3) := by decide +kernel
theorem d_L_type_37 : decode b_L_type 37 = .ok (.aload_n 0, 1) := by decide +kernel
theorem d_L_type_38 : decode b_L_type 38 = .ok (.getfield 28, 3) := by decide +kernel
theorem d_L_type_41 : decode b_L_type 41 = .ok (.lload_n 1, 1) := by decide +kernel
theorem d_L_type_42 : decode b_L_type 42 = .ok (.bipush 8, 2) := by decide +kernel
theorem d_L_type_44 : decode b_L_type 44 = .ok (.iload 4, 2) := by decide +kernel
theorem d_L_type_46 : decode b_L_type 46 = .ok (.imul, 1) := by decide +kernel
theorem d_L_type_47 : decode b_L_type 47 = .ok (.lushr, 1) := by decide +kernel
theorem d_L_type_48 : decode b_L_type 48 = .ok (.l2i, 1) := by decide +kernel
theorem d_L_type_49 : decode b_L_type 49 = .ok (.invokevirtual 139, 3) := by decide +kernel
theorem d_L_type_52 : decode b_L_type 52 = .ok (.iinc 4 (-1), 3) := by decide +kernel
theorem d_L_type_55 : decode b_L_type 55 = .ok (.goto (-23), 3) := by decide +kernel
theorem d_L_type_58 : decode b_L_type 58 = .ok (.iconst 1, 1) := by decide +kernel
theorem d_L_type_59 : decode b_L_type 59 = .ok (.ireturn, 1) := by decide +kernel
theorem d_L_arrive_0 : decode b_L_arrive 0 = .ok (.iload_n 1, 1) := by decide +kernel
theorem d_L_arrive_1 : decode b_L_arrive 1 = .ok (.invokestatic 32, 3) := by decide +kernel
theorem d_L_arrive_4 : decode b_L_arrive 4 = .ok (.ifCond .ne 13, 3) := by decide +kernel
theorem d_L_arrive_7 : decode b_L_arrive 7 = .ok (.new 43, 3) := by decide +kernel
theorem d_L_arrive_10 : decode b_L_arrive 10 = .ok (.dup, 1) := by decide +kernel
theorem d_L_arrive_11 : decode b_L_arrive 11 = .ok (.ldc 58, 2) := by decide +kernel
theorem d_L_arrive_13 : decode b_L_arrive 13 = .ok (.invokespecial 47, 3) := by decide +kernel
theorem d_L_arrive_16 : decode b_L_arrive 16 = .ok (.athrow, 1) := by decide +kernel
theorem d_L_arrive_17 : decode b_L_arrive 17 = .ok (.iload_n 2, 1) := by decide +kernel
theorem d_L_arrive_18 : decode b_L_arrive 18 = .ok (.iconst 1, 1) := by decide +kernel
theorem d_L_arrive_19 : decode b_L_arrive 19 = .ok (.if_icmp .eq 8, 3) := by decide +kernel
theorem d_L_arrive_22 : decode b_L_arrive 22 = .ok (.iload_n 2, 1) := by decide +kernel
theorem d_L_arrive_23 : decode b_L_arrive 23 = .ok (.iconst 2, 1) := by decide +kernel
theorem d_L_arrive_24 : decode b_L_arrive 24 = .ok (.if_icmp .ne 26, 3) := by decide +kernel
theorem d_L_arrive_27 : decode b_L_arrive 27 = .ok (.iload_n 3, 1) := by decide +kernel
theorem d_L_arrive_28 : decode b_L_arrive 28 = .ok (.ifCond .lt 22, 3) := by decide +kernel
theorem d_L_arrive_31 : decode b_L_arrive 31 = .ok (.iload_n 3, 1) := by decide +kernel
theorem d_L_arrive_32 : decode b_L_arrive 32 = .ok (.bipush 15, 2) := by decide +kernel
theorem d_L_arrive_34 : decode b_L_arrive 34 = .ok (.if_icmp .ge 16, 3) := by decide +kernel
theorem d_L_arrive_37 : decode b_L_arrive 37 = .ok (.iload 4, 2) := by decide +kernel
theorem d_L_arrive_39 : decode b_L_arrive 39 = .ok (.ifCond .lt 11, 3) := by decide +kernel
theorem d_L_arrive_42 : decode b_L_arrive 42 = .ok (.iload 4, 2) := by decide +kernel
theorem d_L_arrive_44 : decode b_L_arrive 44 = .ok (.sipush 255, 3) := by decide +kernel
theorem d_L_arrive_47 : decode b_L_arrive 47 = .ok (.if_icmp .le 13, 3) := by decide +kernel
theorem d_L_arrive_50 : decode b_L_arrive 50 = .ok (.new 50, 3) := by decide +kernel
theorem d_L_arrive_53 : decode b_L_arrive 53 = .ok (.dup, 1) := by decide +kernel
theorem d_L_arrive_54 : decode b_L_arrive 54 = .ok (.ldc 143, 2) := by decide +kernel
theorem d_L_arrive_56 : decode b_L_arrive 56 = .ok (.invokespecial 54, 3) := by decide +kernel
theorem d_L_arrive_59 : decode b_L_arrive 59 = .ok (.athrow, 1) := by decide +kernel
theorem d_L_arrive_60 : decode b_L_arrive 60 = .ok (.aload_n 0, 1) := by decide +kernel
theorem d_L_arrive_61 : decode b_L_arrive 61 = .ok (.getfield 21, 3) := by decide +kernel
theorem d_L_arrive_64 : decode b_L_arrive 64 = .ok (.iload_n 1, 1) := by decide +kernel
theorem d_L_arrive_65 : decode b_L_arrive 65 = .ok (.aaload, 1) := by decide +kernel
theorem d_L_arrive_66 : decode b_L_arrive 66 = .ok (.getfield 60, 3) := by decide +kernel
theorem d_L_arrive_69 : decode b_L_arrive 69 = .ok (.ifCond .ne 13, 3) := by decide +kernel
theorem d_L_arrive_72 : decode b_L_arrive 72 = .ok (.new 64, 3) := by decide +kernel
theorem d_L_arrive_75 : decode b_L_arrive 75 = .ok (.dup, 1) := by decide +kernel
theorem d_L_arrive_76 : decode b_L_arrive 76 = .ok (.ldc 72, 2) := by decide +kernel
theorem d_L_arrive_78 : decode b_L_arrive 78 = .ok (.invokespecial 68, 3) := by decide +kernel
theorem d_L_arrive_81 : decode b_L_arrive 81 = .ok (.athrow, 1) := by decide +kernel
theorem d_L_arrive_82 : decode b_L_arrive 82 = .ok (.aload_n 0, 1) := by decide +kernel
theorem d_L_arrive_83 : decode b_L_arrive 83 = .ok (.getfield 28, 3) := by decide +kernel
theorem d_L_arrive_86 : decode b_L_arrive 86 = .ok (.iload_n 2, 1) := by decide +kernel
theorem d_L_arrive_87 : decode b_L_arrive 87 = .ok (.putfield 145, 3) := by decide +kernel
theorem d_L_arrive_90 : decode b_L_arrive 90 = .ok (.aload_n 0, 1) := by decide +kernel
theorem d_L_arrive_91 : decode b_L_arrive 91 = .ok (.getfield 28, 3) := by decide +kernel
theorem d_L_arrive_94 : decode b_L_arrive 94 = .ok (.iload_n 3, 1) := by decide +kernel
theorem d_L_arrive_95 : decode b_L_arrive 95 = .ok (.putfield 148, 3) := by decide +kernel
theorem d_L_arrive_98 : decode b_L_arrive 98 = .ok (.aload_n 0, 1) := by decide +kernel
theorem d_L_arrive_99 : decode b_L_arrive 99 = .ok (.getfield 28, 3) := by decide +kernel
theorem d_L_arrive_102 : decode b_L_arrive 102 = .ok (.iload 4, 2) := by decide +kernel
theorem d_L_arrive_104 : decode b_L_arrive 104 = .ok (.putfield 151, 3) := by decide +kernel
theorem d_L_arrive_107 : decode b_L_arrive 107 = .ok (.aload_n 0, 1) := by decide +kernel
theorem d_L_arrive_108 : decode b_L_arrive 108 = .ok (.getfield 28, 3) := by decide +kernel
theorem d_L_arrive_111 : decode b_L_arrive 111 = .ok (.iload 5, 2) := by decide +kernel
theorem d_L_arrive_113 : decode b_L_arrive 113 = .ok (.putfield 154, 3) := by decide +kernel
theorem d_L_arrive_116 : decode b_L_arrive 116 = .ok (.aload_n 0, 1) := by decide +kernel
theorem d_L_arrive_117 : decode b_L_arrive 117 = .ok (.getfield 21, 3) := by decide +kernel
theorem d_L_arrive_120 : decode b_L_arrive 120 = .ok (.iload_n 1, 1) := by decide +kernel
theorem d_L_arrive_121 : decode b_L_arrive 121 = .ok (.aaload, 1) := by decide +kernel
theorem d_L_arrive_122 : decode b_L_arrive 122 = .ok (.aload_n 0, 1) := by decide +kernel
theorem d_L_arrive_123 : decode b_L_arrive 123 = .ok (.getfield 28, 3) := by decide +kernel
theorem d_L_arrive_126 : decode b_L_arrive 126 = .ok (.invokevirtual 157, 3) := by decide +kernel
theorem d_L_arrive_129 : decode b_L_arrive 129 = .ok (.istore 6, 2) := by decide +kernel
theorem d_L_arrive_131 : decode b_L_arrive 131 = .ok (.aload_n 0, 1) := by decide +kernel
theorem d_L_arrive_132 : decode b_L_arrive 132 = .ok (.getfield 28, 3) := by decide +kernel
theorem d_L_arrive_135 : decode b_L_arrive 135 = .ok (.iconst 0, 1) := by decide +kernel
theorem d_L_arrive_136 : decode b_L_arrive 136 = .ok (.putfield 136, 3) := by decide +kernel
theorem d_L_arrive_139 : decode b_L_arrive 139 = .ok (.iload 6, 2) := by decide +kernel
theorem d_L_arrive_141 : decode b_L_arrive 141 = .ok (.ireturn, 1) := by decide +kernel
theorem d_L_router_0 : decode b_L_router 0 = .ok (.iload_n 1, 1) := by decide +kernel
theorem d_L_router_1 : decode b_L_router 1 = .ok (.invokestatic 32, 3) := by decide +kernel
theorem d_L_router_4 : decode b_L_router 4 = .ok (.ifCond .eq 16, 3) := by decide +kernel
theorem d_L_router_7 : decode b_L_router 7 = .ok (.aload_n 0, 1) := by decide +kernel
theorem d_L_router_8 : decode b_L_router 8 = .ok (.getfield 21, 3) := by decide +kernel
theorem d_L_router_11 : decode b_L_router 11 = .ok (.iload_n 1, 1) := by decide +kernel
theorem d_L_router_12 : decode b_L_router 12 = .ok (.aaload, 1) := by decide +kernel
theorem d_L_router_13 : decode b_L_router 13 = .ok (.iload_n 2, 1) := by decide +kernel
theorem d_L_router_14 : decode b_L_router 14 = .ok (.invokevirtual 161, 3) := by decide +kernel
theorem d_L_router_17 : decode b_L_router 17 = .ok (.goto 4, 3) := by decide +kernel
theorem d_L_router_20 : decode b_L_router 20 = .ok (.iconst (-1), 1) := by decide +kernel
theorem d_L_router_21 : decode b_L_router 21 = .ok (.ireturn, 1) := by decide +kernel
theorem d_L_session_0 : decode b_L_session 0 = .ok (.iload_n 1, 1) := by decide +kernel
theorem d_L_session_1 : decode b_L_session 1 = .ok (.invokestatic 32, 3) := by decide +kernel
theorem d_L_session_4 : decode b_L_session 4 = .ok (.ifCond .eq 10, 3) := by decide +kernel
theorem d_L_session_7 : decode b_L_session 7 = .ok (.iload_n 2, 1) := by decide +kernel
theorem d_L_session_8 : decode b_L_session 8 = .ok (.invokestatic 32, 3) := by decide +kernel
theorem d_L_session_11 : decode b_L_session 11 = .ok (.ifCond .ne 5, 3) := by decide +kernel
theorem d_L_session_14 : decode b_L_session 14 = .ok (.iconst (-1), 1) := by decide +kernel
theorem d_L_session_15 : decode b_L_session 15 = .ok (.ireturn, 1) := by decide +kernel
theorem d_L_session_16 : decode b_L_session 16 = .ok (.aload_n 0, 1) := by decide +kernel
theorem d_L_session_17 : decode b_L_session 17 = .ok (.getfield 21, 3) := by decide +kernel
theorem d_L_session_20 : decode b_L_session 20 = .ok (.iload_n 1, 1) := by decide +kernel
theorem d_L_session_21 : decode b_L_session 21 = .ok (.aaload, 1) := by decide +kernel
theorem d_L_session_22 : decode b_L_session 22 = .ok (.getfield 87, 3) := by decide +kernel
theorem d_L_session_25 : decode b_L_session 25 = .ok (.iload_n 2, 1) := by decide +kernel
theorem d_L_session_26 : decode b_L_session 26 = .ok (.aaload, 1) := by decide +kernel
theorem d_L_session_27 : decode b_L_session 27 = .ok (.astore 4, 2) := by decide +kernel
theorem d_L_session_29 : decode b_L_session 29 = .ok (.aload 4, 2) := by decide +kernel
theorem d_L_session_31 : decode b_L_session 31 = .ok (.getfield 97, 3) := by decide +kernel
theorem d_L_session_34 : decode b_L_session 34 = .ok (.ifCond .eq 12, 3) := by decide +kernel
theorem d_L_session_37 : decode b_L_session 37 = .ok (.aload 4, 2) := by decide +kernel
theorem d_L_session_39 : decode b_L_session 39 = .ok (.iload_n 3, 1) := by decide +kernel
theorem d_L_session_40 : decode b_L_session 40 = .ok (.invokevirtual 165, 3) := by decide +kernel
theorem d_L_session_43 : decode b_L_session 43 = .ok (.goto 4, 3) := by decide +kernel
theorem d_L_session_46 : decode b_L_session 46 = .ok (.iconst (-1), 1) := by decide +kernel
theorem d_L_session_47 : decode b_L_session 47 = .ok (.ireturn, 1) := by decide +kernel
theorem d_L_port_0 : decode b_L_port 0 = .ok (.aload_n 0, 1) := by decide +kernel
theorem d_L_port_1 : decode b_L_port 1 = .ok (.getfield 17, 3) := by decide +kernel
theorem d_L_port_4 : decode b_L_port 4 = .ok (.iload_n 1, 1) := by decide +kernel
theorem d_L_port_5 : decode b_L_port 5 = .ok (.invokevirtual 166, 3) := by decide +kernel
theorem d_L_port_8 : decode b_L_port 8 = .ok (.ireturn, 1) := by decide +kernel
theorem d_L_flying_0 : decode b_L_flying 0 = .ok (.aload_n 0, 1) := by decide +kernel
theorem d_L_flying_1 : decode b_L_flying 1 = .ok (.getfield 17, 3) := by decide +kernel
theorem d_L_flying_4 : decode b_L_flying 4 = .ok (.getfield 169, 3) := by decide +kernel
theorem d_L_flying_7 : decode b_L_flying 7 = .ok (.ireturn, 1) := by decide +kernel
theorem d_L_frame_0 : decode b_L_frame 0 = .ok (.iload_n 1, 1) := by decide +kernel
theorem d_L_frame_1 : decode b_L_frame 1 = .ok (.ifCond .lt 20, 3) := by decide +kernel
theorem d_L_frame_4 : decode b_L_frame 4 = .ok (.iload_n 1, 1) := by decide +kernel
theorem d_L_frame_5 : decode b_L_frame 5 = .ok (.aload_n 0, 1) := by decide +kernel
theorem d_L_frame_6 : decode b_L_frame 6 = .ok (.getfield 17, 3) := by decide +kernel
theorem d_L_frame_9 : decode b_L_frame 9 = .ok (.getfield 169, 3) := by decide +kernel
theorem d_L_frame_12 : decode b_L_frame 12 = .ok (.if_icmp .ge 9, 3) := by decide +kernel
theorem d_L_frame_15 : decode b_L_frame 15 = .ok (.iload_n 1, 1) := by decide +kernel
theorem d_L_frame_16 : decode b_L_frame 16 = .ok (.bipush 60, 2) := by decide +kernel
theorem d_L_frame_18 : decode b_L_frame 18 = .ok (.if_icmp .lt 5, 3) := by decide +kernel
theorem d_L_frame_21 : decode b_L_frame 21 = .ok (.iconst (-1), 1) := by decide +kernel
theorem d_L_frame_22 : decode b_L_frame 22 = .ok (.ireturn, 1) := by decide +kernel
theorem d_L_frame_23 : decode b_L_frame 23 = .ok (.aload_n 0, 1) := by decide +kernel
theorem d_L_frame_24 : decode b_L_frame 24 = .ok (.getfield 17, 3) := by decide +kernel
theorem d_L_frame_27 : decode b_L_frame 27 = .ok (.getfield 172, 3) := by decide +kernel
theorem d_L_frame_30 : decode b_L_frame 30 = .ok (.iload_n 1, 1) := by decide +kernel
theorem d_L_frame_31 : decode b_L_frame 31 = .ok (.aaload, 1) := by decide +kernel
theorem d_L_frame_32 : decode b_L_frame 32 = .ok (.astore_n 3, 1) := by decide +kernel
theorem d_L_frame_33 : decode b_L_frame 33 = .ok (.iload_n 2, 1) := by decide +kernel
theorem d_L_frame_34 : decode b_L_frame 34 = .ok (.tableswitch 76 (-6) (-1) #[71, 66, 61, 56, 51, 38], 38) := by decide +kernel
theorem d_L_frame_72 : decode b_L_frame 72 = .ok (.aload_n 3, 1) := by decide +kernel
theorem d_L_frame_73 : decode b_L_frame 73 = .ok (.getfield 176, 3) := by decide +kernel
theorem d_L_frame_76 : decode b_L_frame 76 = .ok (.aload_n 0, 1) := by decide +kernel
theorem d_L_frame_77 : decode b_L_frame 77 = .ok (.getfield 17, 3) := by decide +kernel
theorem d_L_frame_80 : decode b_L_frame 80 = .ok (.getfield 118, 3) := by decide +kernel
theorem d_L_frame_83 : decode b_L_frame 83 = .ok (.isub, 1) := by decide +kernel
theorem d_L_frame_84 : decode b_L_frame 84 = .ok (.ireturn, 1) := by decide +kernel
theorem d_L_frame_85 : decode b_L_frame 85 = .ok (.aload_n 3, 1) := by decide +kernel
theorem d_L_frame_86 : decode b_L_frame 86 = .ok (.getfield 145, 3) := by decide +kernel
theorem d_L_frame_89 : decode b_L_frame 89 = .ok (.ireturn, 1) := by decide +kernel
theorem d_L_frame_90 : decode b_L_frame 90 = .ok (.aload_n 3, 1) := by decide +kernel
theorem d_L_frame_91 : decode b_L_frame 91 = .ok (.getfield 148, 3) := by decide +kernel
theorem d_L_frame_94 : decode b_L_frame 94 = .ok (.ireturn, 1) := by decide +kernel
theorem d_L_frame_95 : decode b_L_frame 95 = .ok (.aload_n 3, 1) := by decide +kernel
theorem d_L_frame_96 : decode b_L_frame 96 = .ok (.getfield 179, 3) := by decide +kernel
theorem d_L_frame_99 : decode b_L_frame 99 = .ok (.ireturn, 1) := by decide +kernel
theorem d_L_frame_100 : decode b_L_frame 100 = .ok (.aload_n 3, 1) := by decide +kernel
theorem d_L_frame_101 : decode b_L_frame 101 = .ok (.getfield 136, 3) := by decide +kernel
theorem d_L_frame_104 : decode b_L_frame 104 = .ok (.ireturn, 1) := by decide +kernel
theorem d_L_frame_105 : decode b_L_frame 105 = .ok (.aload_n 3, 1) := by decide +kernel
theorem d_L_frame_106 : decode b_L_frame 106 = .ok (.getfield 182, 3) := by decide +kernel
theorem d_L_frame_109 : decode b_L_frame 109 = .ok (.ireturn, 1) := by decide +kernel
theorem d_L_frame_110 : decode b_L_frame 110 = .ok (.aload_n 3, 1) := by decide +kernel
theorem d_L_frame_111 : decode b_L_frame 111 = .ok (.iload_n 2, 1) := by decide +kernel
theorem d_L_frame_112 : decode b_L_frame 112 = .ok (.invokevirtual 185, 3) := by decide +kernel
theorem d_L_frame_115 : decode b_L_frame 115 = .ok (.ireturn, 1) := by decide +kernel
theorem d_L_isRouter_0 : decode b_L_isRouter 0 = .ok (.iload_n 0, 1) := by decide +kernel
theorem d_L_isRouter_1 : decode b_L_isRouter 1 = .ok (.ifCond .lt 12, 3) := by decide +kernel
theorem d_L_isRouter_4 : decode b_L_isRouter 4 = .ok (.iload_n 0, 1) := by decide +kernel
theorem d_L_isRouter_5 : decode b_L_isRouter 5 = .ok (.iconst 5, 1) := by decide +kernel
theorem d_L_isRouter_6 : decode b_L_isRouter 6 = .ok (.if_icmp .ge 7, 3) := by decide +kernel
theorem d_L_isRouter_9 : decode b_L_isRouter 9 = .ok (.iconst 1, 1) := by decide +kernel
theorem d_L_isRouter_10 : decode b_L_isRouter 10 = .ok (.goto 4, 3) := by decide +kernel
theorem d_L_isRouter_13 : decode b_L_isRouter 13 = .ok (.iconst 0, 1) := by decide +kernel
theorem d_L_isRouter_14 : decode b_L_isRouter 14 = .ok (.ireturn, 1) := by decide +kernel
theorem d_L_isRate_0 : decode b_L_isRate 0 = .ok (.iload_n 0, 1) := by decide +kernel
theorem d_L_isRate_1 : decode b_L_isRate 1 = .ok (.iconst 1, 1) := by decide +kernel
theorem d_L_isRate_2 : decode b_L_isRate 2 = .ok (.if_icmp .lt 14, 3) := by decide +kernel
theorem d_L_isRate_5 : decode b_L_isRate 5 = .ok (.iload_n 0, 1) := by decide +kernel
theorem d_L_isRate_6 : decode b_L_isRate 6 = .ok (.sipush 1000, 3) := by decide +kernel
theorem d_L_isRate_9 : decode b_L_isRate 9 = .ok (.if_icmp .gt 7, 3) := by decide +kernel
theorem d_L_isRate_12 : decode b_L_isRate 12 = .ok (.iconst 1, 1) := by decide +kernel
theorem d_L_isRate_13 : decode b_L_isRate 13 = .ok (.goto 4, 3) := by decide +kernel
theorem d_L_isRate_16 : decode b_L_isRate 16 = .ok (.iconst 0, 1) := by decide +kernel
theorem d_L_isRate_17 : decode b_L_isRate 17 = .ok (.ireturn, 1) := by decide +kernel
theorem d_L_handOut_0 : decode b_L_handOut 0 = .ok (.iconst 0, 1) := by decide +kernel
theorem d_L_handOut_1 : decode b_L_handOut 1 = .ok (.istore_n 2, 1) := by decide +kernel
theorem d_L_handOut_2 : decode b_L_handOut 2 = .ok (.iload_n 2, 1) := by decide +kernel
theorem d_L_handOut_3 : decode b_L_handOut 3 = .ok (.iconst 5, 1) := by decide +kernel
theorem d_L_handOut_4 : decode b_L_handOut 4 = .ok (.if_icmp .ge 44, 3) := by decide +kernel
theorem d_L_handOut_7 : decode b_L_handOut 7 = .ok (.aload_n 1, 1) := by decide +kernel
theorem d_L_handOut_8 : decode b_L_handOut 8 = .ok (.getfield 182, 3) := by decide +kernel
theorem d_L_handOut_11 : decode b_L_handOut 11 = .ok (.iload_n 2, 1) := by decide +kernel
theorem d_L_handOut_12 : decode b_L_handOut 12 = .ok (.ishr, 1) := by decide +kernel
theorem d_L_handOut_13 : decode b_L_handOut 13 = .ok (.iconst 1, 1) := by decide +kernel
theorem d_L_handOut_14 : decode b_L_handOut 14 = .ok (.iand, 1) := by decide +kernel
theorem d_L_handOut_15 : decode b_L_handOut 15 = .ok (.ifCond .eq 27, 3) := by decide +kernel
theorem d_L_handOut_18 : decode b_L_handOut 18 = .ok (.aload_n 0, 1) := by decide +kernel
theorem d_L_handOut_19 : decode b_L_handOut 19 = .ok (.getfield 21, 3) := by decide +kernel
theorem d_L_handOut_22 : decode b_L_handOut 22 = .ok (.iload_n 2, 1) := by decide +kernel
theorem d_L_handOut_23 : decode b_L_handOut 23 = .ok (.aaload, 1) := by decide +kernel
theorem d_L_handOut_24 : decode b_L_handOut 24 = .ok (.aload_n 1, 1) := by decide +kernel
theorem d_L_handOut_25 : decode b_L_handOut 25 = .ok (.invokevirtual 188, 3) := by decide +kernel
theorem d_L_handOut_28 : decode b_L_handOut 28 = .ok (.ifCond .eq 14, 3) := by decide +kernel
theorem d_L_handOut_31 : decode b_L_handOut 31 = .ok (.aload_n 0, 1) := by decide +kernel
theorem d_L_handOut_32 : decode b_L_handOut 32 = .ok (.getfield 21, 3) := by decide +kernel
theorem d_L_handOut_35 : decode b_L_handOut 35 = .ok (.iload_n 2, 1) := by decide +kernel
theorem d_L_handOut_36 : decode b_L_handOut 36 = .ok (.aaload, 1) := by decide +kernel
theorem d_L_handOut_37 : decode b_L_handOut 37 = .ok (.aload_n 1, 1) := by decide +kernel
theorem d_L_handOut_38 : decode b_L_handOut 38 = .ok (.invokevirtual 157, 3) := by decide +kernel
theorem d_L_handOut_41 : decode b_L_handOut 41 = .ok (.pop, 1) := by decide +kernel
theorem d_L_handOut_42 : decode b_L_handOut 42 = .ok (.iinc 2 1, 3) := by decide +kernel
theorem d_L_handOut_45 : decode b_L_handOut 45 = .ok (.goto (-43), 3) := by decide +kernel
theorem d_L_handOut_48 : decode b_L_handOut 48 = .ok (.return_, 1) := by decide +kernel
end
section
theorem fl_F_9 : Cond.fieldLink RX0 9 "StandInLan$Frame" "bytes" "[I" ∈ zT := zin 82 (by decide +kernel) (by decide +kernel)
theorem fl_F_15 : Cond.fieldLink RX0 15 "StandInLan$Frame" "length" "I" ∈ zT := zin 83 (by decide +kernel) (by decide +kernel)
theorem fl_W_39 : Cond.fieldLink RX3 39 "StandInLan$Frame" "length" "I" ∈ zT := zin 84 (by decide +kernel) (by decide +kernel)
theorem fl_L_136 : Cond.fieldLink RX4 136 "StandInLan$Frame" "length" "I" ∈ zT := zin 85 (by decide +kernel) (by decide +kernel)
theorem fl_R_159 : Cond.fieldLink RX1 159 "StandInLan$Frame" "length" "I" ∈ zT := zin 86 (by decide +kernel) (by decide +kernel)
theorem fl_W_42 : Cond.fieldLink RX3 42 "StandInLan$Frame" "kind" "I" ∈ zT := zin 87 (by decide +kernel) (by decide +kernel)
theorem fl_L_145 : Cond.fieldLink RX4 145 "StandInLan$Frame" "kind" "I" ∈ zT := zin 88 (by decide +kernel) (by decide +kernel)
theorem fl_R_133 : Cond.fieldLink RX1 133 "StandInLan$Frame" "kind" "I" ∈ zT := zin 89 (by decide +kernel) (by decide +kernel)
theorem fl_W_45 : Cond.fieldLink RX3 45 "StandInLan$Frame" "from" "I" ∈ zT := zin 90 (by decide +kernel) (by decide +kernel)
theorem fl_L_148 : Cond.fieldLink RX4 148 "StandInLan$Frame" "from" "I" ∈ zT := zin 91 (by decide +kernel) (by decide +kernel)
theorem fl_R_150 : Cond.fieldLink RX1 150 "StandInLan$Frame" "from" "I" ∈ zT := zin 92 (by decide +kernel) (by decide +kernel)
theorem fl_W_48 : Cond.fieldLink RX3 48 "StandInLan$Frame" "to" "I" ∈ zT := zin 93 (by decide +kernel) (by decide +kernel)
theorem fl_R_130 : Cond.fieldLink RX1 130 "StandInLan$Frame" "to" "I" ∈ zT := zin 94 (by decide +kernel) (by decide +kernel)
theorem fl_L_179 : Cond.fieldLink RX4 179 "StandInLan$Frame" "to" "I" ∈ zT := zin 95 (by decide +kernel) (by decide +kernel)
theorem fl_W_51 : Cond.fieldLink RX3 51 "StandInLan$Frame" "address" "I" ∈ zT := zin 96 (by decide +kernel) (by decide +kernel)
theorem fl_F_27 : Cond.fieldLink RX0 27 "StandInLan$Frame" "address" "I" ∈ zT := zin 97 (by decide +kernel) (by decide +kernel)
theorem fl_L_154 : Cond.fieldLink RX4 154 "StandInLan$Frame" "address" "I" ∈ zT := zin 98 (by decide +kernel) (by decide +kernel)
theorem fl_R_153 : Cond.fieldLink RX1 153 "StandInLan$Frame" "address" "I" ∈ zT := zin 99 (by decide +kernel) (by decide +kernel)
theorem fl_W_54 : Cond.fieldLink RX3 54 "StandInLan$Frame" "hops" "I" ∈ zT := zin 100 (by decide +kernel) (by decide +kernel)
theorem fl_L_151 : Cond.fieldLink RX4 151 "StandInLan$Frame" "hops" "I" ∈ zT := zin 101 (by decide +kernel) (by decide +kernel)
theorem fl_R_156 : Cond.fieldLink RX1 156 "StandInLan$Frame" "hops" "I" ∈ zT := zin 102 (by decide +kernel) (by decide +kernel)
theorem fl_W_57 : Cond.fieldLink RX3 57 "StandInLan$Frame" "ports" "I" ∈ zT := zin 103 (by decide +kernel) (by decide +kernel)
theorem fl_L_182 : Cond.fieldLink RX4 182 "StandInLan$Frame" "ports" "I" ∈ zT := zin 104 (by decide +kernel) (by decide +kernel)
theorem fl_W_33 : Cond.fieldLink RX3 33 "StandInLan$Frame" "due" "I" ∈ zT := zin 105 (by decide +kernel) (by decide +kernel)
theorem fl_L_176 : Cond.fieldLink RX4 176 "StandInLan$Frame" "due" "I" ∈ zT := zin 106 (by decide +kernel) (by decide +kernel)
theorem fl_W_9 : Cond.fieldLink RX3 9 "StandInLan$Wire" "places" "[I" ∈ zT := zin 127 (by decide +kernel) (by decide +kernel)
theorem fl_W_17 : Cond.fieldLink RX3 17 "StandInLan$Wire" "way" "[LStandInLan$Frame;" ∈ zT := zin 128 (by decide +kernel) (by decide +kernel)
theorem fl_L_172 : Cond.fieldLink RX4 172 "StandInLan$Wire" "way" "[LStandInLan$Frame;" ∈ zT := zin 129 (by decide +kernel) (by decide +kernel)
theorem fl_W_29 : Cond.fieldLink RX3 29 "StandInLan$Wire" "count" "I" ∈ zT := zin 130 (by decide +kernel) (by decide +kernel)
theorem fl_L_169 : Cond.fieldLink RX4 169 "StandInLan$Wire" "count" "I" ∈ zT := zin 131 (by decide +kernel) (by decide +kernel)
theorem fl_W_36 : Cond.fieldLink RX3 36 "StandInLan$Wire" "clock" "I" ∈ zT := zin 132 (by decide +kernel) (by decide +kernel)
theorem fl_L_118 : Cond.fieldLink RX4 118 "StandInLan$Wire" "clock" "I" ∈ zT := zin 133 (by decide +kernel) (by decide +kernel)
theorem fl_W_22 : Cond.fieldLink RX3 22 "StandInLan$Wire" "draft" "LStandInLan$Frame;" ∈ zT := zin 134 (by decide +kernel) (by decide +kernel)
theorem fl_W_26 : Cond.fieldLink RX3 26 "StandInLan$Wire" "taken" "LStandInLan$Frame;" ∈ zT := zin 135 (by decide +kernel) (by decide +kernel)
theorem fl_S_9 : Cond.fieldLink RX2 9 "StandInLan$Session" "number" "I" ∈ zT := zin 165 (by decide +kernel) (by decide +kernel)
theorem fl_R_113 : Cond.fieldLink RX1 113 "StandInLan$Session" "number" "I" ∈ zT := zin 166 (by decide +kernel) (by decide +kernel)
theorem fl_S_15 : Cond.fieldLink RX2 15 "StandInLan$Session" "other" "I" ∈ zT := zin 167 (by decide +kernel) (by decide +kernel)
theorem fl_R_104 : Cond.fieldLink RX1 104 "StandInLan$Session" "other" "I" ∈ zT := zin 168 (by decide +kernel) (by decide +kernel)
theorem fl_S_18 : Cond.fieldLink RX2 18 "StandInLan$Session" "exists" "Z" ∈ zT := zin 169 (by decide +kernel) (by decide +kernel)
theorem fl_R_69 : Cond.fieldLink RX1 69 "StandInLan$Session" "exists" "Z" ∈ zT := zin 170 (by decide +kernel) (by decide +kernel)
theorem fl_L_97 : Cond.fieldLink RX4 97 "StandInLan$Session" "exists" "Z" ∈ zT := zin 171 (by decide +kernel) (by decide +kernel)
theorem fl_S_22 : Cond.fieldLink RX2 22 "StandInLan$Session" "state" "I" ∈ zT := zin 172 (by decide +kernel) (by decide +kernel)
theorem fl_L_101 : Cond.fieldLink RX4 101 "StandInLan$Session" "state" "I" ∈ zT := zin 173 (by decide +kernel) (by decide +kernel)
theorem fl_R_73 : Cond.fieldLink RX1 73 "StandInLan$Session" "state" "I" ∈ zT := zin 174 (by decide +kernel) (by decide +kernel)
theorem fl_S_25 : Cond.fieldLink RX2 25 "StandInLan$Session" "remoteState" "I" ∈ zT := zin 175 (by decide +kernel) (by decide +kernel)
theorem fl_S_28 : Cond.fieldLink RX2 28 "StandInLan$Session" "remoteNumber" "I" ∈ zT := zin 176 (by decide +kernel) (by decide +kernel)
theorem fl_R_114 : Cond.fieldLink RX1 114 "StandInLan$Session" "remoteNumber" "I" ∈ zT := zin 177 (by decide +kernel) (by decide +kernel)
theorem fl_S_31 : Cond.fieldLink RX2 31 "StandInLan$Session" "diagnosis" "I" ∈ zT := zin 178 (by decide +kernel) (by decide +kernel)
theorem fl_R_107 : Cond.fieldLink RX1 107 "StandInLan$Session" "diagnosis" "I" ∈ zT := zin 179 (by decide +kernel) (by decide +kernel)
theorem fl_S_34 : Cond.fieldLink RX2 34 "StandInLan$Session" "tx" "I" ∈ zT := zin 180 (by decide +kernel) (by decide +kernel)
theorem fl_R_117 : Cond.fieldLink RX1 117 "StandInLan$Session" "tx" "I" ∈ zT := zin 181 (by decide +kernel) (by decide +kernel)
theorem fl_S_37 : Cond.fieldLink RX2 37 "StandInLan$Session" "rx" "I" ∈ zT := zin 182 (by decide +kernel) (by decide +kernel)
theorem fl_R_124 : Cond.fieldLink RX1 124 "StandInLan$Session" "rx" "I" ∈ zT := zin 183 (by decide +kernel) (by decide +kernel)
theorem fl_S_40 : Cond.fieldLink RX2 40 "StandInLan$Session" "multiplier" "I" ∈ zT := zin 184 (by decide +kernel) (by decide +kernel)
theorem fl_R_110 : Cond.fieldLink RX1 110 "StandInLan$Session" "multiplier" "I" ∈ zT := zin 185 (by decide +kernel) (by decide +kernel)
theorem fl_S_43 : Cond.fieldLink RX2 43 "StandInLan$Session" "itsRx" "I" ∈ zT := zin 186 (by decide +kernel) (by decide +kernel)
theorem fl_S_46 : Cond.fieldLink RX2 46 "StandInLan$Session" "itsTx" "I" ∈ zT := zin 187 (by decide +kernel) (by decide +kernel)
theorem fl_S_49 : Cond.fieldLink RX2 49 "StandInLan$Session" "itsMultiplier" "I" ∈ zT := zin 188 (by decide +kernel) (by decide +kernel)
theorem fl_S_52 : Cond.fieldLink RX2 52 "StandInLan$Session" "polls" "Z" ∈ zT := zin 189 (by decide +kernel) (by decide +kernel)
theorem fl_R_222 : Cond.fieldLink RX1 222 "StandInLan$Session" "polls" "Z" ∈ zT := zin 190 (by decide +kernel) (by decide +kernel)
theorem fl_S_71 : Cond.fieldLink RX2 71 "StandInLan$Session" "txInUse" "I" ∈ zT := zin 191 (by decide +kernel) (by decide +kernel)
theorem fl_S_80 : Cond.fieldLink RX2 80 "StandInLan$Session" "rxInUse" "I" ∈ zT := zin 192 (by decide +kernel) (by decide +kernel)
theorem fl_S_68 : Cond.fieldLink RX2 68 "StandInLan$Session" "sendTimer" "I" ∈ zT := zin 193 (by decide +kernel) (by decide +kernel)
theorem fl_R_228 : Cond.fieldLink RX1 228 "StandInLan$Session" "sendTimer" "I" ∈ zT := zin 194 (by decide +kernel) (by decide +kernel)
theorem fl_S_58 : Cond.fieldLink RX2 58 "StandInLan$Session" "detectTimer" "I" ∈ zT := zin 195 (by decide +kernel) (by decide +kernel)
theorem fl_S_61 : Cond.fieldLink RX2 61 "StandInLan$Session" "timesUp" "I" ∈ zT := zin 196 (by decide +kernel) (by decide +kernel)
theorem fl_R_9 : Cond.fieldLink RX1 9 "StandInLan$Router" "number" "I" ∈ zT := zin 236 (by decide +kernel) (by decide +kernel)
theorem fl_R_15 : Cond.fieldLink RX1 15 "StandInLan$Router" "wire" "LStandInLan$Wire;" ∈ zT := zin 237 (by decide +kernel) (by decide +kernel)
theorem fl_R_21 : Cond.fieldLink RX1 21 "StandInLan$Router" "settings" "[I" ∈ zT := zin 238 (by decide +kernel) (by decide +kernel)
theorem fl_L_55 : Cond.fieldLink RX4 55 "StandInLan$Router" "settings" "[I" ∈ zT := zin 239 (by decide +kernel) (by decide +kernel)
theorem fl_R_27 : Cond.fieldLink RX1 27 "StandInLan$Router" "sessions" "[LStandInLan$Session;" ∈ zT := zin 240 (by decide +kernel) (by decide +kernel)
theorem fl_L_87 : Cond.fieldLink RX4 87 "StandInLan$Router" "sessions" "[LStandInLan$Session;" ∈ zT := zin 241 (by decide +kernel) (by decide +kernel)
theorem fl_R_34 : Cond.fieldLink RX1 34 "StandInLan$Router" "state" "I" ∈ zT := zin 242 (by decide +kernel) (by decide +kernel)
theorem fl_L_60 : Cond.fieldLink RX4 60 "StandInLan$Router" "state" "I" ∈ zT := zin 243 (by decide +kernel) (by decide +kernel)
theorem fl_R_37 : Cond.fieldLink RX1 37 "StandInLan$Router" "timer" "I" ∈ zT := zin 244 (by decide +kernel) (by decide +kernel)
theorem fl_R_44 : Cond.fieldLink RX1 44 "StandInLan$Router" "known" "I" ∈ zT := zin 245 (by decide +kernel) (by decide +kernel)
theorem fl_R_47 : Cond.fieldLink RX1 47 "StandInLan$Router" "timesActive" "I" ∈ zT := zin 246 (by decide +kernel) (by decide +kernel)
theorem fl_R_50 : Cond.fieldLink RX1 50 "StandInLan$Router" "taken" "I" ∈ zT := zin 247 (by decide +kernel) (by decide +kernel)
theorem fl_R_53 : Cond.fieldLink RX1 53 "StandInLan$Router" "sent" "I" ∈ zT := zin 248 (by decide +kernel) (by decide +kernel)
theorem fl_R_56 : Cond.fieldLink RX1 56 "StandInLan$Router" "noted" "I" ∈ zT := zin 249 (by decide +kernel) (by decide +kernel)
theorem fl_L_17 : Cond.fieldLink RX4 17 "StandInLan" "wire" "LStandInLan$Wire;" ∈ zT := zin 275 (by decide +kernel) (by decide +kernel)
theorem fl_L_21 : Cond.fieldLink RX4 21 "StandInLan" "routers" "[LStandInLan$Router;" ∈ zT := zin 276 (by decide +kernel) (by decide +kernel)
theorem fl_L_28 : Cond.fieldLink RX4 28 "StandInLan" "tape" "LStandInLan$Frame;" ∈ zT := zin 277 (by decide +kernel) (by decide +kernel)
theorem fl_L_36 : Cond.fieldLink RX4 36 "StandInLan" "LEAST" "[I" ∈ zT := zin 345 (by decide +kernel) (by decide +kernel)
theorem fl_L_40 : Cond.fieldLink RX4 40 "StandInLan" "MOST" "[I" ∈ zT := zin 347 (by decide +kernel) (by decide +kernel)
theorem fl_M_124 : Cond.fieldLink RX5 124 "StandInLanModel" "thrown" "I" ∈ zT := zin 731 (by decide +kernel) (by decide +kernel)
theorem fl_M_150 : Cond.fieldLink RX5 150 "StandInLanModel" "clock" "I" ∈ zT := zin 732 (by decide +kernel) (by decide +kernel)
theorem fl_M_7 : Cond.fieldLink RX5 7 "StandInLanModel" "setting" "[I" ∈ zT := zin 733 (by decide +kernel) (by decide +kernel)
theorem fl_M_13 : Cond.fieldLink RX5 13 "StandInLanModel" "role" "[I" ∈ zT := zin 734 (by decide +kernel) (by decide +kernel)
theorem fl_M_16 : Cond.fieldLink RX5 16 "StandInLanModel" "timer" "[I" ∈ zT := zin 735 (by decide +kernel) (by decide +kernel)
theorem fl_M_19 : Cond.fieldLink RX5 19 "StandInLanModel" "known" "[I" ∈ zT := zin 736 (by decide +kernel) (by decide +kernel)
theorem fl_M_22 : Cond.fieldLink RX5 22 "StandInLanModel" "became" "[I" ∈ zT := zin 737 (by decide +kernel) (by decide +kernel)
theorem fl_M_25 : Cond.fieldLink RX5 25 "StandInLanModel" "took" "[I" ∈ zT := zin 738 (by decide +kernel) (by decide +kernel)
theorem fl_M_28 : Cond.fieldLink RX5 28 "StandInLanModel" "sent" "[I" ∈ zT := zin 739 (by decide +kernel) (by decide +kernel)
theorem fl_M_31 : Cond.fieldLink RX5 31 "StandInLanModel" "noted" "[I" ∈ zT := zin 740 (by decide +kernel) (by decide +kernel)
theorem fl_M_34 : Cond.fieldLink RX5 34 "StandInLanModel" "learned" "[I" ∈ zT := zin 741 (by decide +kernel) (by decide +kernel)
theorem fl_M_37 : Cond.fieldLink RX5 37 "StandInLanModel" "there" "[Z" ∈ zT := zin 742 (by decide +kernel) (by decide +kernel)
theorem fl_M_41 : Cond.fieldLink RX5 41 "StandInLanModel" "state" "[I" ∈ zT := zin 743 (by decide +kernel) (by decide +kernel)
theorem fl_M_44 : Cond.fieldLink RX5 44 "StandInLanModel" "farState" "[I" ∈ zT := zin 744 (by decide +kernel) (by decide +kernel)
theorem fl_M_47 : Cond.fieldLink RX5 47 "StandInLanModel" "farNumber" "[I" ∈ zT := zin 745 (by decide +kernel) (by decide +kernel)
theorem fl_M_50 : Cond.fieldLink RX5 50 "StandInLanModel" "diagnosis" "[I" ∈ zT := zin 746 (by decide +kernel) (by decide +kernel)
theorem fl_M_53 : Cond.fieldLink RX5 53 "StandInLanModel" "tx" "[I" ∈ zT := zin 747 (by decide +kernel) (by decide +kernel)
theorem fl_M_56 : Cond.fieldLink RX5 56 "StandInLanModel" "rx" "[I" ∈ zT := zin 748 (by decide +kernel) (by decide +kernel)
theorem fl_M_59 : Cond.fieldLink RX5 59 "StandInLanModel" "txUsed" "[I" ∈ zT := zin 749 (by decide +kernel) (by decide +kernel)
theorem fl_M_62 : Cond.fieldLink RX5 62 "StandInLanModel" "rxUsed" "[I" ∈ zT := zin 750 (by decide +kernel) (by decide +kernel)
theorem fl_M_65 : Cond.fieldLink RX5 65 "StandInLanModel" "multiplier" "[I" ∈ zT := zin 751 (by decide +kernel) (by decide +kernel)
theorem fl_M_68 : Cond.fieldLink RX5 68 "StandInLanModel" "farRx" "[I" ∈ zT := zin 752 (by decide +kernel) (by decide +kernel)
theorem fl_M_71 : Cond.fieldLink RX5 71 "StandInLanModel" "farTx" "[I" ∈ zT := zin 753 (by decide +kernel) (by decide +kernel)
theorem fl_M_74 : Cond.fieldLink RX5 74 "StandInLanModel" "farMultiplier" "[I" ∈ zT := zin 754 (by decide +kernel) (by decide +kernel)
theorem fl_M_77 : Cond.fieldLink RX5 77 "StandInLanModel" "polls" "[Z" ∈ zT := zin 755 (by decide +kernel) (by decide +kernel)
theorem fl_M_80 : Cond.fieldLink RX5 80 "StandInLanModel" "sends" "[I" ∈ zT := zin 756 (by decide +kernel) (by decide +kernel)
theorem fl_M_83 : Cond.fieldLink RX5 83 "StandInLanModel" "detects" "[I" ∈ zT := zin 757 (by decide +kernel) (by decide +kernel)
theorem fl_M_86 : Cond.fieldLink RX5 86 "StandInLanModel" "ups" "[I" ∈ zT := zin 758 (by decide +kernel) (by decide +kernel)
theorem fl_M_147 : Cond.fieldLink RX5 147 "StandInLanModel" "flying" "I" ∈ zT := zin 759 (by decide +kernel) (by decide +kernel)
theorem fl_M_89 : Cond.fieldLink RX5 89 "StandInLanModel" "due" "[I" ∈ zT := zin 760 (by decide +kernel) (by decide +kernel)
theorem fl_M_92 : Cond.fieldLink RX5 92 "StandInLanModel" "kind" "[I" ∈ zT := zin 761 (by decide +kernel) (by decide +kernel)
theorem fl_M_95 : Cond.fieldLink RX5 95 "StandInLanModel" "from" "[I" ∈ zT := zin 762 (by decide +kernel) (by decide +kernel)
theorem fl_M_98 : Cond.fieldLink RX5 98 "StandInLanModel" "to" "[I" ∈ zT := zin 763 (by decide +kernel) (by decide +kernel)
theorem fl_M_101 : Cond.fieldLink RX5 101 "StandInLanModel" "address" "[I" ∈ zT := zin 764 (by decide +kernel) (by decide +kernel)
theorem fl_M_104 : Cond.fieldLink RX5 104 "StandInLanModel" "ports" "[I" ∈ zT := zin 765 (by decide +kernel) (by decide +kernel)
theorem fl_M_107 : Cond.fieldLink RX5 107 "StandInLanModel" "length" "[I" ∈ zT := zin 766 (by decide +kernel) (by decide +kernel)
theorem fl_M_110 : Cond.fieldLink RX5 110 "StandInLanModel" "bytes" "[I" ∈ zT := zin 767 (by decide +kernel) (by decide +kernel)
theorem fl_M_113 : Cond.fieldLink RX5 113 "StandInLanModel" "packet" "[I" ∈ zT := zin 768 (by decide +kernel) (by decide +kernel)
theorem fl_M_136 : Cond.fieldLink RX5 136 "StandInLanModel" "size" "I" ∈ zT := zin 769 (by decide +kernel) (by decide +kernel)
theorem fl_M_116 : Cond.fieldLink RX5 116 "StandInLanModel" "heard" "[I" ∈ zT := zin 770 (by decide +kernel) (by decide +kernel)
theorem fl_M_192 : Cond.fieldLink RX5 192 "StandInLanModel" "heardSize" "I" ∈ zT := zin 771 (by decide +kernel) (by decide +kernel)
theorem fl_M_119 : Cond.fieldLink RX5 119 "StandInLanModel" "tape" "[I" ∈ zT := zin 772 (by decide +kernel) (by decide +kernel)
theorem fl_M_262 : Cond.fieldLink RX5 262 "StandInLanModel" "taped" "I" ∈ zT := zin 773 (by decide +kernel) (by decide +kernel)
theorem ml_J_46 : Cond.methodLink RXL 46 y_L_init ∈ zT := zin 63 (by decide +kernel) (by decide +kernel)
theorem ml_L_1 : Cond.methodLink RX4 1 ⟨"java/lang/Object", "<init>", "()V"⟩ ∈ zT := zin 66 (by decide +kernel) (by decide +kernel)
theorem ml_L_9 : Cond.methodLink RX4 9 y_W_init ∈ zT := zin 71 (by decide +kernel) (by decide +kernel)
theorem ml_W_3 : Cond.methodLink RX3 3 ⟨"java/lang/Object", "<init>", "()V"⟩ ∈ zT := zin 74 (by decide +kernel) (by decide +kernel)
theorem ml_W_21 : Cond.methodLink RX3 21 y_F_init ∈ zT := zin 78 (by decide +kernel) (by decide +kernel)
theorem ml_F_3 : Cond.methodLink RX0 3 ⟨"java/lang/Object", "<init>", "()V"⟩ ∈ zT := zin 81 (by decide +kernel) (by decide +kernel)
theorem ml_L_14 : Cond.methodLink RX4 14 y_R_init ∈ zT := zin 152 (by decide +kernel) (by decide +kernel)
theorem ml_R_3 : Cond.methodLink RX1 3 ⟨"java/lang/Object", "<init>", "()V"⟩ ∈ zT := zin 155 (by decide +kernel) (by decide +kernel)
theorem ml_R_31 : Cond.methodLink RX1 31 y_S_init ∈ zT := zin 161 (by decide +kernel) (by decide +kernel)
theorem ml_S_3 : Cond.methodLink RX2 3 ⟨"java/lang/Object", "<init>", "()V"⟩ ∈ zT := zin 164 (by decide +kernel) (by decide +kernel)
theorem ml_L_27 : Cond.methodLink RX4 27 y_F_init ∈ zT := zin 274 (by decide +kernel) (by decide +kernel)
theorem ml_J_85 : Cond.methodLink RXL 85 y_L_type ∈ zT := zin 285 (by decide +kernel) (by decide +kernel)
theorem ml_L_139 : Cond.methodLink RX4 139 y_F_put ∈ zT := zin 289 (by decide +kernel) (by decide +kernel)
theorem ml_J_94 : Cond.methodLink RXL 94 y_L_router ∈ zT := zin 293 (by decide +kernel) (by decide +kernel)
theorem ml_L_32 : Cond.methodLink RX4 32 y_L_isRouter ∈ zT := zin 297 (by decide +kernel) (by decide +kernel)
theorem ml_L_161 : Cond.methodLink RX4 161 y_R_tell ∈ zT := zin 300 (by decide +kernel) (by decide +kernel)
theorem ml_R_40 : Cond.methodLink RX1 40 y_R_weighed ∈ zT := zin 304 (by decide +kernel) (by decide +kernel)
theorem ml_J_99 : Cond.methodLink RXL 99 y_L_session ∈ zT := zin 308 (by decide +kernel) (by decide +kernel)
theorem ml_L_165 : Cond.methodLink RX4 165 y_S_tell ∈ zT := zin 312 (by decide +kernel) (by decide +kernel)
theorem ml_J_104 : Cond.methodLink RXL 104 y_L_port ∈ zT := zin 316 (by decide +kernel) (by decide +kernel)
theorem ml_L_166 : Cond.methodLink RX4 166 y_W_placeOf ∈ zT := zin 320 (by decide +kernel) (by decide +kernel)
theorem ml_J_108 : Cond.methodLink RXL 108 y_L_flying ∈ zT := zin 324 (by decide +kernel) (by decide +kernel)
theorem ml_J_112 : Cond.methodLink RXL 112 y_L_frame ∈ zT := zin 328 (by decide +kernel) (by decide +kernel)
theorem ml_L_185 : Cond.methodLink RX4 185 y_F_byteAt ∈ zT := zin 332 (by decide +kernel) (by decide +kernel)
theorem ml_J_50 : Cond.methodLink RXL 50 y_J_set ∈ zT := zin 336 (by decide +kernel) (by decide +kernel)
theorem ml_J_7 : Cond.methodLink RXL 7 y_L_set ∈ zT := zin 341 (by decide +kernel) (by decide +kernel)
theorem ml_L_47 : Cond.methodLink RX4 47 ⟨"java/lang/IndexOutOfBoundsException", "<init>", "(Ljava/lang/String;)V"⟩ ∈ zT := zin 391 (by decide +kernel) (by decide +kernel)
theorem ml_L_54 : Cond.methodLink RX4 54 ⟨"java/lang/IllegalArgumentException", "<init>", "(Ljava/lang/String;)V"⟩ ∈ zT := zin 427 (by decide +kernel) (by decide +kernel)
theorem ml_J_60 : Cond.methodLink RXL 60 y_J_start ∈ zT := zin 433 (by decide +kernel) (by decide +kernel)
theorem ml_J_17 : Cond.methodLink RXL 17 y_L_start ∈ zT := zin 437 (by decide +kernel) (by decide +kernel)
theorem ml_L_68 : Cond.methodLink RX4 68 ⟨"java/lang/IllegalStateException", "<init>", "(Ljava/lang/String;)V"⟩ ∈ zT := zin 452 (by decide +kernel) (by decide +kernel)
theorem ml_L_69 : Cond.methodLink RX4 69 y_R_wake ∈ zT := zin 458 (by decide +kernel) (by decide +kernel)
theorem ml_R_59 : Cond.methodLink RX1 59 y_R_becomeActive ∈ zT := zin 462 (by decide +kernel) (by decide +kernel)
theorem ml_R_65 : Cond.methodLink RX1 65 y_R_advertise ∈ zT := zin 466 (by decide +kernel) (by decide +kernel)
theorem ml_R_81 : Cond.methodLink RX1 81 y_W_newDraft ∈ zT := zin 470 (by decide +kernel) (by decide +kernel)
theorem ml_R_87 : Cond.methodLink RX1 87 y_F_put ∈ zT := zin 474 (by decide +kernel) (by decide +kernel)
theorem ml_R_92 : Cond.methodLink RX1 92 y_F_putTwo ∈ zT := zin 475 (by decide +kernel) (by decide +kernel)
theorem ml_F_19 : Cond.methodLink RX0 19 y_F_put ∈ zT := zin 479 (by decide +kernel) (by decide +kernel)
theorem ml_R_95 : Cond.methodLink RX1 95 y_F_putFour ∈ zT := zin 480 (by decide +kernel) (by decide +kernel)
theorem ml_R_98 : Cond.methodLink RX1 98 y_F_putCheckAt ∈ zT := zin 484 (by decide +kernel) (by decide +kernel)
theorem ml_F_33 : Cond.methodLink RX0 33 y_F_sum ∈ zT := zin 489 (by decide +kernel) (by decide +kernel)
theorem ml_R_101 : Cond.methodLink RX1 101 y_R_sendDraft ∈ zT := zin 495 (by decide +kernel) (by decide +kernel)
theorem ml_R_127 : Cond.methodLink RX1 127 y_W_carryDraft ∈ zT := zin 499 (by decide +kernel) (by decide +kernel)
theorem ml_R_74 : Cond.methodLink RX1 74 y_R_sendEmpty ∈ zT := zin 503 (by decide +kernel) (by decide +kernel)
theorem ml_R_62 : Cond.methodLink RX1 62 y_R_becomeBackup ∈ zT := zin 507 (by decide +kernel) (by decide +kernel)
theorem ml_R_78 : Cond.methodLink RX1 78 y_R_skew ∈ zT := zin 511 (by decide +kernel) (by decide +kernel)
theorem ml_J_64 : Cond.methodLink RXL 64 y_J_stop ∈ zT := zin 515 (by decide +kernel) (by decide +kernel)
theorem ml_J_23 : Cond.methodLink RXL 23 y_L_stop ∈ zT := zin 518 (by decide +kernel) (by decide +kernel)
theorem ml_L_74 : Cond.methodLink RX4 74 y_R_sayGoodbye ∈ zT := zin 523 (by decide +kernel) (by decide +kernel)
theorem ml_L_77 : Cond.methodLink RX4 77 y_R_forgetAll ∈ zT := zin 527 (by decide +kernel) (by decide +kernel)
theorem ml_J_68 : Cond.methodLink RXL 68 y_J_open ∈ zT := zin 531 (by decide +kernel) (by decide +kernel)
theorem ml_J_27 : Cond.methodLink RXL 27 y_L_open ∈ zT := zin 534 (by decide +kernel) (by decide +kernel)
theorem ml_L_82 : Cond.methodLink RX4 82 y_L_isRate ∈ zT := zin 539 (by decide +kernel) (by decide +kernel)
theorem ml_L_91 : Cond.methodLink RX4 91 y_S_begin ∈ zT := zin 543 (by decide +kernel) (by decide +kernel)
theorem ml_S_55 : Cond.methodLink RX2 55 y_S_useRates ∈ zT := zin 547 (by decide +kernel) (by decide +kernel)
theorem ml_S_64 : Cond.methodLink RX2 64 y_S_sendPause ∈ zT := zin 551 (by decide +kernel) (by decide +kernel)
theorem ml_S_89 : Cond.methodLink RX2 89 y_S_slowed ∈ zT := zin 555 (by decide +kernel) (by decide +kernel)
theorem ml_S_83 : Cond.methodLink RX2 83 Lib.Math.max.name ∈ zT := zin 559 (by decide +kernel) (by decide +kernel)
theorem ml_J_72 : Cond.methodLink RXL 72 y_J_change ∈ zT := zin 562 (by decide +kernel) (by decide +kernel)
theorem ml_J_31 : Cond.methodLink RXL 31 y_L_change ∈ zT := zin 565 (by decide +kernel) (by decide +kernel)
theorem ml_L_106 : Cond.methodLink RX4 106 y_S_shut ∈ zT := zin 571 (by decide +kernel) (by decide +kernel)
theorem ml_L_109 : Cond.methodLink RX4 109 y_S_wantRates ∈ zT := zin 575 (by decide +kernel) (by decide +kernel)
theorem ml_S_74 : Cond.methodLink RX2 74 Lib.Math.min.name ∈ zT := zin 579 (by decide +kernel) (by decide +kernel)
theorem ml_S_86 : Cond.methodLink RX2 86 y_S_hurrySend ∈ zT := zin 582 (by decide +kernel) (by decide +kernel)
theorem ml_J_76 : Cond.methodLink RXL 76 y_J_ask ∈ zT := zin 586 (by decide +kernel) (by decide +kernel)
theorem ml_J_35 : Cond.methodLink RXL 35 y_L_ask ∈ zT := zin 589 (by decide +kernel) (by decide +kernel)
theorem ml_L_113 : Cond.methodLink RX4 113 y_R_sendEmpty ∈ zT := zin 593 (by decide +kernel) (by decide +kernel)
theorem ml_J_79 : Cond.methodLink RXL 79 y_J_tick ∈ zT := zin 594 (by decide +kernel) (by decide +kernel)
theorem ml_J_38 : Cond.methodLink RXL 38 y_L_tick ∈ zT := zin 597 (by decide +kernel) (by decide +kernel)
theorem ml_L_121 : Cond.methodLink RX4 121 y_W_countDue ∈ zT := zin 602 (by decide +kernel) (by decide +kernel)
theorem ml_L_125 : Cond.methodLink RX4 125 y_W_takeDue ∈ zT := zin 606 (by decide +kernel) (by decide +kernel)
theorem ml_L_129 : Cond.methodLink RX4 129 y_L_handOut ∈ zT := zin 610 (by decide +kernel) (by decide +kernel)
theorem ml_L_188 : Cond.methodLink RX4 188 y_R_minds ∈ zT := zin 614 (by decide +kernel) (by decide +kernel)
theorem ml_L_157 : Cond.methodLink RX4 157 y_R_hear ∈ zT := zin 618 (by decide +kernel) (by decide +kernel)
theorem ml_R_136 : Cond.methodLink RX1 136 y_R_isForUs ∈ zT := zin 622 (by decide +kernel) (by decide +kernel)
theorem ml_R_162 : Cond.methodLink RX1 162 y_F_byteAt ∈ zT := zin 626 (by decide +kernel) (by decide +kernel)
theorem ml_R_165 : Cond.methodLink RX1 165 y_F_fourAt ∈ zT := zin 627 (by decide +kernel) (by decide +kernel)
theorem ml_F_23 : Cond.methodLink RX0 23 y_F_byteAt ∈ zT := zin 631 (by decide +kernel) (by decide +kernel)
theorem ml_R_168 : Cond.methodLink RX1 168 y_F_sum ∈ zT := zin 632 (by decide +kernel) (by decide +kernel)
theorem ml_R_140 : Cond.methodLink RX1 140 y_R_hearAsActive ∈ zT := zin 634 (by decide +kernel) (by decide +kernel)
theorem ml_R_182 : Cond.methodLink RX1 182 y_R_isAbove ∈ zT := zin 638 (by decide +kernel) (by decide +kernel)
theorem ml_R_178 : Cond.methodLink RX1 178 y_R_intervalIn ∈ zT := zin 642 (by decide +kernel) (by decide +kernel)
theorem ml_R_186 : Cond.methodLink RX1 186 y_F_twoAt ∈ zT := zin 645 (by decide +kernel) (by decide +kernel)
theorem ml_R_172 : Cond.methodLink RX1 172 Lib.Math.max.name ∈ zT := zin 649 (by decide +kernel) (by decide +kernel)
theorem ml_R_144 : Cond.methodLink RX1 144 y_R_hearAsBackup ∈ zT := zin 650 (by decide +kernel) (by decide +kernel)
theorem ml_R_147 : Cond.methodLink RX1 147 y_R_hearPacket ∈ zT := zin 654 (by decide +kernel) (by decide +kernel)
theorem ml_R_191 : Cond.methodLink RX1 191 y_R_isWhole ∈ zT := zin 658 (by decide +kernel) (by decide +kernel)
theorem ml_R_194 : Cond.methodLink RX1 194 y_R_sessionMeant ∈ zT := zin 661 (by decide +kernel) (by decide +kernel)
theorem ml_R_198 : Cond.methodLink RX1 198 y_S_learn ∈ zT := zin 665 (by decide +kernel) (by decide +kernel)
theorem ml_S_93 : Cond.methodLink RX2 93 y_F_byteAt ∈ zT := zin 669 (by decide +kernel) (by decide +kernel)
theorem ml_S_98 : Cond.methodLink RX2 98 y_F_fourAt ∈ zT := zin 670 (by decide +kernel) (by decide +kernel)
theorem ml_S_101 : Cond.methodLink RX2 101 y_S_told ∈ zT := zin 671 (by decide +kernel) (by decide +kernel)
theorem ml_S_105 : Cond.methodLink RX2 105 y_S_follow ∈ zT := zin 676 (by decide +kernel) (by decide +kernel)
theorem ml_S_109 : Cond.methodLink RX2 109 y_S_fall ∈ zT := zin 680 (by decide +kernel) (by decide +kernel)
theorem ml_S_113 : Cond.methodLink RX2 113 y_S_comeUp ∈ zT := zin 684 (by decide +kernel) (by decide +kernel)
theorem ml_R_201 : Cond.methodLink RX1 201 y_R_sendPacket ∈ zT := zin 688 (by decide +kernel) (by decide +kernel)
theorem ml_R_120 : Cond.methodLink RX1 120 y_S_slowed ∈ zT := zin 692 (by decide +kernel) (by decide +kernel)
theorem ml_R_205 : Cond.methodLink RX1 205 y_S_hurrySend ∈ zT := zin 693 (by decide +kernel) (by decide +kernel)
theorem ml_L_133 : Cond.methodLink RX4 133 y_R_runTimers ∈ zT := zin 694 (by decide +kernel) (by decide +kernel)
theorem ml_R_208 : Cond.methodLink RX1 208 y_R_timerFires ∈ zT := zin 698 (by decide +kernel) (by decide +kernel)
theorem ml_R_211 : Cond.methodLink RX1 211 y_R_runSession ∈ zT := zin 702 (by decide +kernel) (by decide +kernel)
theorem ml_R_215 : Cond.methodLink RX1 215 y_S_runDetect ∈ zT := zin 706 (by decide +kernel) (by decide +kernel)
theorem ml_R_218 : Cond.methodLink RX1 218 y_S_sendFires ∈ zT := zin 710 (by decide +kernel) (by decide +kernel)
theorem ml_R_225 : Cond.methodLink RX1 225 y_S_sendPause ∈ zT := zin 714 (by decide +kernel) (by decide +kernel)
theorem ml_J_90 : Cond.methodLink RXL 90 y_J_arrive ∈ zT := zin 715 (by decide +kernel) (by decide +kernel)
theorem ml_J_42 : Cond.methodLink RXL 42 y_L_arrive ∈ zT := zin 718 (by decide +kernel) (by decide +kernel)
theorem ml_J_49 : Cond.methodLink RXL 49 y_M_init ∈ zT := zin 725 (by decide +kernel) (by decide +kernel)
theorem ml_M_1 : Cond.methodLink RX5 1 ⟨"java/lang/Object", "<init>", "()V"⟩ ∈ zT := zin 728 (by decide +kernel) (by decide +kernel)
theorem ml_J_56 : Cond.methodLink RXL 56 y_M_thrown ∈ zT := zin 862 (by decide +kernel) (by decide +kernel)
theorem ml_J_55 : Cond.methodLink RXL 55 y_M_set ∈ zT := zin 866 (by decide +kernel) (by decide +kernel)
theorem ml_M_128 : Cond.methodLink RX5 128 y_M_isRouter ∈ zT := zin 870 (by decide +kernel) (by decide +kernel)
theorem ml_M_132 : Cond.methodLink RX5 132 y_M_fits ∈ zT := zin 873 (by decide +kernel) (by decide +kernel)
theorem ml_J_63 : Cond.methodLink RXL 63 y_M_start ∈ zT := zin 876 (by decide +kernel) (by decide +kernel)
theorem ml_M_143 : Cond.methodLink RX5 143 y_M_is ∈ zT := zin 880 (by decide +kernel) (by decide +kernel)
theorem ml_M_156 : Cond.methodLink RX5 156 y_M_weighed ∈ zT := zin 884 (by decide +kernel) (by decide +kernel)
theorem ml_M_153 : Cond.methodLink RX5 153 y_M_max ∈ zT := zin 888 (by decide +kernel) (by decide +kernel)
theorem ml_M_186 : Cond.methodLink RX5 186 y_M_beActive ∈ zT := zin 891 (by decide +kernel) (by decide +kernel)
theorem ml_M_177 : Cond.methodLink RX5 177 y_M_advertise ∈ zT := zin 895 (by decide +kernel) (by decide +kernel)
theorem ml_M_139 : Cond.methodLink RX5 139 y_M_put ∈ zT := zin 899 (by decide +kernel) (by decide +kernel)
theorem ml_M_165 : Cond.methodLink RX5 165 y_M_putMany ∈ zT := zin 903 (by decide +kernel) (by decide +kernel)
theorem ml_M_169 : Cond.methodLink RX5 169 y_M_sum ∈ zT := zin 908 (by decide +kernel) (by decide +kernel)
theorem ml_M_162 : Cond.methodLink RX5 162 y_M_fold ∈ zT := zin 912 (by decide +kernel) (by decide +kernel)
theorem ml_M_173 : Cond.methodLink RX5 173 y_M_send ∈ zT := zin 915 (by decide +kernel) (by decide +kernel)
theorem ml_M_189 : Cond.methodLink RX5 189 y_M_beBackup ∈ zT := zin 919 (by decide +kernel) (by decide +kernel)
theorem ml_M_180 : Cond.methodLink RX5 180 y_M_skew ∈ zT := zin 923 (by decide +kernel) (by decide +kernel)
theorem ml_M_183 : Cond.methodLink RX5 183 y_M_atLeastOne ∈ zT := zin 927 (by decide +kernel) (by decide +kernel)
theorem ml_J_67 : Cond.methodLink RXL 67 y_M_stop ∈ zT := zin 930 (by decide +kernel) (by decide +kernel)
theorem ml_J_78 : Cond.methodLink RXL 78 y_M_ask ∈ zT := zin 934 (by decide +kernel) (by decide +kernel)
theorem ml_J_71 : Cond.methodLink RXL 71 y_M_open ∈ zT := zin 938 (by decide +kernel) (by decide +kernel)
theorem ml_M_204 : Cond.methodLink RX5 204 y_M_setSend ∈ zT := zin 942 (by decide +kernel) (by decide +kernel)
theorem ml_M_201 : Cond.methodLink RX5 201 y_M_sendTime ∈ zT := zin 946 (by decide +kernel) (by decide +kernel)
theorem ml_J_75 : Cond.methodLink RXL 75 y_M_change ∈ zT := zin 950 (by decide +kernel) (by decide +kernel)
theorem ml_M_207 : Cond.methodLink RX5 207 y_M_hurry ∈ zT := zin 954 (by decide +kernel) (by decide +kernel)
theorem ml_J_82 : Cond.methodLink RXL 82 y_M_tick ∈ zT := zin 958 (by decide +kernel) (by decide +kernel)
theorem ml_M_256 : Cond.methodLink RX5 256 y_M_arriveAll ∈ zT := zin 962 (by decide +kernel) (by decide +kernel)
theorem ml_M_243 : Cond.methodLink RX5 243 y_M_forget ∈ zT := zin 966 (by decide +kernel) (by decide +kernel)
theorem ml_M_246 : Cond.methodLink RX5 246 y_M_reach ∈ zT := zin 970 (by decide +kernel) (by decide +kernel)
theorem ml_M_236 : Cond.methodLink RX5 236 y_M_advertised ∈ zT := zin 974 (by decide +kernel) (by decide +kernel)
theorem ml_M_195 : Cond.methodLink RX5 195 y_M_told ∈ zT := zin 978 (by decide +kernel) (by decide +kernel)
theorem ml_M_240 : Cond.methodLink RX5 240 y_M_packeted ∈ zT := zin 983 (by decide +kernel) (by decide +kernel)
theorem ml_M_219 : Cond.methodLink RX5 219 y_M_meant ∈ zT := zin 987 (by decide +kernel) (by decide +kernel)
theorem ml_M_222 : Cond.methodLink RX5 222 y_M_capped ∈ zT := zin 991 (by decide +kernel) (by decide +kernel)
theorem ml_M_229 : Cond.methodLink RX5 229 y_M_turn ∈ zT := zin 998 (by decide +kernel) (by decide +kernel)
theorem ml_M_213 : Cond.methodLink RX5 213 y_M_goDown ∈ zT := zin 1002 (by decide +kernel) (by decide +kernel)
theorem ml_M_216 : Cond.methodLink RX5 216 y_M_goUp ∈ zT := zin 1006 (by decide +kernel) (by decide +kernel)
theorem ml_M_232 : Cond.methodLink RX5 232 y_M_sendPacket ∈ zT := zin 1010 (by decide +kernel) (by decide +kernel)
theorem ml_M_259 : Cond.methodLink RX5 259 y_M_work ∈ zT := zin 1014 (by decide +kernel) (by decide +kernel)
theorem ml_M_250 : Cond.methodLink RX5 250 y_M_timerFires ∈ zT := zin 1018 (by decide +kernel) (by decide +kernel)
theorem ml_M_253 : Cond.methodLink RX5 253 y_M_detectFires ∈ zT := zin 1022 (by decide +kernel) (by decide +kernel)
theorem ml_J_89 : Cond.methodLink RXL 89 y_M_type ∈ zT := zin 1026 (by decide +kernel) (by decide +kernel)
theorem ml_J_93 : Cond.methodLink RXL 93 y_M_arrive ∈ zT := zin 1031 (by decide +kernel) (by decide +kernel)
theorem ml_M_267 : Cond.methodLink RX5 267 y_M_raise ∈ zT := zin 1035 (by decide +kernel) (by decide +kernel)
theorem ml_J_98 : Cond.methodLink RXL 98 y_M_router ∈ zT := zin 1039 (by decide +kernel) (by decide +kernel)
theorem ml_J_103 : Cond.methodLink RXL 103 y_M_session ∈ zT := zin 1043 (by decide +kernel) (by decide +kernel)
theorem ml_J_107 : Cond.methodLink RXL 107 y_M_port ∈ zT := zin 1047 (by decide +kernel) (by decide +kernel)
theorem ml_J_111 : Cond.methodLink RXL 111 y_M_flying ∈ zT := zin 1051 (by decide +kernel) (by decide +kernel)
theorem ml_J_115 : Cond.methodLink RXL 115 y_M_frame ∈ zT := zin 1055 (by decide +kernel) (by decide +kernel)
theorem co_R_19 : Cond.constant RX1 19 (167772160) ∈ zT := zin 156 (by decide +kernel) (by decide +kernel)
theorem co_R_20 : Cond.constant RX1 20 (167772400) ∈ zT := zin 157 (by decide +kernel) (by decide +kernel)
theorem co_F_30 : Cond.constant RX0 30 (65535) ∈ zT := zin 488 (by decide +kernel) (by decide +kernel)
theorem co_F_31 : Cond.constant RX0 31 (57344) ∈ zT := zin 493 (by decide +kernel) (by decide +kernel)
theorem co_F_32 : Cond.constant RX0 32 (65536) ∈ zT := zin 494 (by decide +kernel) (by decide +kernel)
theorem co_R_171 : Cond.constant RX1 171 (65535) ∈ zT := zin 633 (by decide +kernel) (by decide +kernel)
theorem co_S_108 : Cond.constant RX2 108 (100000) ∈ zT := zin 674 (by decide +kernel) (by decide +kernel)
theorem co_S_104 : Cond.constant RX2 104 (10000000) ∈ zT := zin 675 (by decide +kernel) (by decide +kernel)
theorem co_M_122 : Cond.constant RX5 122 (167772160) ∈ zT := zin 729 (by decide +kernel) (by decide +kernel)
theorem co_M_123 : Cond.constant RX5 123 (167772400) ∈ zT := zin 730 (by decide +kernel) (by decide +kernel)
theorem co_M_160 : Cond.constant RX5 160 (65535) ∈ zT := zin 907 (by decide +kernel) (by decide +kernel)
theorem co_M_161 : Cond.constant RX5 161 (57344) ∈ zT := zin 911 (by decide +kernel) (by decide +kernel)
theorem co_M_212 : Cond.constant RX5 212 (100000) ∈ zT := zin 995 (by decide +kernel) (by decide +kernel)
theorem co_M_228 : Cond.constant RX5 228 (10000000) ∈ zT := zin 997 (by decide +kernel) (by decide +kernel)
theorem cl_R_189 : Cond.constantLong RX1 189 (4294967295) ∈ zT := zin 641 (by decide +kernel) (by decide +kernel)
theorem cl_M_199 : Cond.constantLong RX5 199 (4294967295) ∈ zT := zin 982 (by decide +kernel) (by decide +kernel)
theorem cl_M_210 : Cond.constantLong RX5 210 (100000) ∈ zT := zin 994 (by decide +kernel) (by decide +kernel)
theorem cl_M_226 : Cond.constantLong RX5 226 (10000000) ∈ zT := zin 996 (by decide +kernel) (by decide +kernel)
theorem cl_M_265 : Cond.constantLong RX5 265 (255) ∈ zT := zin 1030 (by decide +kernel) (by decide +kernel)
theorem cl_J_83 : Cond.constantLong RXL 83 (4294967295) ∈ zT := zin 1059 (by decide +kernel) (by decide +kernel)
theorem mi_L_set : zMi y_L_set b_L_set 4 none 3 := ⟨zin 342 (by decide +kernel) (by decide +kernel), zin 343 (by decide +kernel) (by decide +kernel), zin 48 (by decide +kernel) (by decide +kernel), zin 344 (by decide +kernel) (by decide +kernel), (by decide +kernel), (by decide +kernel)⟩
theorem mi_L_start : zMi y_L_start b_L_start 2 none 1 := ⟨zin 438 (by decide +kernel) (by decide +kernel), zin 439 (by decide +kernel) (by decide +kernel), zin 48 (by decide +kernel) (by decide +kernel), zin 440 (by decide +kernel) (by decide +kernel), (by decide +kernel), (by decide +kernel)⟩
theorem mi_L_stop : zMi y_L_stop b_L_stop 3 none 2 := ⟨zin 519 (by decide +kernel) (by decide +kernel), zin 520 (by decide +kernel) (by decide +kernel), zin 48 (by decide +kernel) (by decide +kernel), zin 521 (by decide +kernel) (by decide +kernel), (by decide +kernel), (by decide +kernel)⟩
theorem mi_L_open : zMi y_L_open b_L_open 6 none 5 := ⟨zin 535 (by decide +kernel) (by decide +kernel), zin 536 (by decide +kernel) (by decide +kernel), zin 48 (by decide +kernel) (by decide +kernel), zin 537 (by decide +kernel) (by decide +kernel), (by decide +kernel), (by decide +kernel)⟩
theorem mi_L_change : zMi y_L_change b_L_change 7 none 4 := ⟨zin 566 (by decide +kernel) (by decide +kernel), zin 567 (by decide +kernel) (by decide +kernel), zin 48 (by decide +kernel) (by decide +kernel), zin 568 (by decide +kernel) (by decide +kernel), (by decide +kernel), (by decide +kernel)⟩
theorem mi_L_ask : zMi y_L_ask b_L_ask 2 none 1 := ⟨zin 590 (by decide +kernel) (by decide +kernel), zin 591 (by decide +kernel) (by decide +kernel), zin 48 (by decide +kernel) (by decide +kernel), zin 592 (by decide +kernel) (by decide +kernel), (by decide +kernel), (by decide +kernel)⟩
theorem mi_L_tick : zMi y_L_tick b_L_tick 5 (some .int) 1 := ⟨zin 598 (by decide +kernel) (by decide +kernel), zin 599 (by decide +kernel) (by decide +kernel), zin 48 (by decide +kernel) (by decide +kernel), zin 600 (by decide +kernel) (by decide +kernel), (by decide +kernel), (by decide +kernel)⟩
theorem mi_L_type : zMi y_L_type b_L_type 5 (some .boolean) 2 := ⟨zin 286 (by decide +kernel) (by decide +kernel), zin 287 (by decide +kernel) (by decide +kernel), zin 48 (by decide +kernel) (by decide +kernel), zin 288 (by decide +kernel) (by decide +kernel), (by decide +kernel), (by decide +kernel)⟩
theorem mi_L_arrive : zMi y_L_arrive b_L_arrive 7 (some .boolean) 5 := ⟨zin 719 (by decide +kernel) (by decide +kernel), zin 720 (by decide +kernel) (by decide +kernel), zin 48 (by decide +kernel) (by decide +kernel), zin 721 (by decide +kernel) (by decide +kernel), (by decide +kernel), (by decide +kernel)⟩
theorem mi_L_router : zMi y_L_router b_L_router 3 (some .int) 2 := ⟨zin 294 (by decide +kernel) (by decide +kernel), zin 295 (by decide +kernel) (by decide +kernel), zin 48 (by decide +kernel) (by decide +kernel), zin 296 (by decide +kernel) (by decide +kernel), (by decide +kernel), (by decide +kernel)⟩
theorem mi_L_session : zMi y_L_session b_L_session 5 (some .int) 3 := ⟨zin 309 (by decide +kernel) (by decide +kernel), zin 310 (by decide +kernel) (by decide +kernel), zin 48 (by decide +kernel) (by decide +kernel), zin 311 (by decide +kernel) (by decide +kernel), (by decide +kernel), (by decide +kernel)⟩
theorem mi_L_port : zMi y_L_port b_L_port 2 (some .int) 1 := ⟨zin 317 (by decide +kernel) (by decide +kernel), zin 318 (by decide +kernel) (by decide +kernel), zin 48 (by decide +kernel) (by decide +kernel), zin 319 (by decide +kernel) (by decide +kernel), (by decide +kernel), (by decide +kernel)⟩
theorem mi_L_flying : zMi y_L_flying b_L_flying 1 (some .int) 0 := ⟨zin 325 (by decide +kernel) (by decide +kernel), zin 326 (by decide +kernel) (by decide +kernel), zin 48 (by decide +kernel) (by decide +kernel), zin 327 (by decide +kernel) (by decide +kernel), (by decide +kernel), (by decide +kernel)⟩
theorem mi_L_frame : zMi y_L_frame b_L_frame 4 (some .int) 2 := ⟨zin 329 (by decide +kernel) (by decide +kernel), zin 330 (by decide +kernel) (by decide +kernel), zin 48 (by decide +kernel) (by decide +kernel), zin 331 (by decide +kernel) (by decide +kernel), (by decide +kernel), (by decide +kernel)⟩
theorem ms_L_isRouter : zMs y_L_isRouter b_L_isRouter 1 (some .boolean) 1 := ⟨zin 298 (by decide +kernel) (by decide +kernel), zin 48 (by decide +kernel) (by decide +kernel), zin 299 (by decide +kernel) (by decide +kernel), (by decide +kernel), (by decide +kernel)⟩
theorem ms_L_isRate : zMs y_L_isRate b_L_isRate 1 (some .boolean) 1 := ⟨zin 540 (by decide +kernel) (by decide +kernel), zin 48 (by decide +kernel) (by decide +kernel), zin 541 (by decide +kernel) (by decide +kernel), (by decide +kernel), (by decide +kernel)⟩
theorem mi_L_handOut : zMi y_L_handOut b_L_handOut 3 none 1 := ⟨zin 612 (by decide +kernel) (by decide +kernel), zin 8 (by decide +kernel) (by decide +kernel), zin 48 (by decide +kernel) (by decide +kernel), zin 613 (by decide +kernel) (by decide +kernel), (by decide +kernel), (by decide +kernel)⟩
theorem mi_M_thrown : zMi y_M_thrown b_M_thrown 1 (some .int) 0 := ⟨zin 863 (by decide +kernel) (by decide +kernel), zin 864 (by decide +kernel) (by decide +kernel), zin 53 (by decide +kernel) (by decide +kernel), zin 865 (by decide +kernel) (by decide +kernel), (by decide +kernel), (by decide +kernel)⟩
theorem mi_M_raise : zMi y_M_raise b_M_raise 2 (some .boolean) 1 := ⟨zin 1037 (by decide +kernel) (by decide +kernel), zin 46 (by decide +kernel) (by decide +kernel), zin 53 (by decide +kernel) (by decide +kernel), zin 1038 (by decide +kernel) (by decide +kernel), (by decide +kernel), (by decide +kernel)⟩
theorem ms_M_isRouter : zMs y_M_isRouter b_M_isRouter 1 (some .boolean) 1 := ⟨zin 871 (by decide +kernel) (by decide +kernel), zin 53 (by decide +kernel) (by decide +kernel), zin 872 (by decide +kernel) (by decide +kernel), (by decide +kernel), (by decide +kernel)⟩
theorem mi_M_is : zMi y_M_is b_M_is 3 (some .int) 2 := ⟨zin 882 (by decide +kernel) (by decide +kernel), zin 20 (by decide +kernel) (by decide +kernel), zin 53 (by decide +kernel) (by decide +kernel), zin 883 (by decide +kernel) (by decide +kernel), (by decide +kernel), (by decide +kernel)⟩
theorem ms_M_fits : zMs y_M_fits b_M_fits 2 (some .boolean) 2 := ⟨zin 874 (by decide +kernel) (by decide +kernel), zin 53 (by decide +kernel) (by decide +kernel), zin 875 (by decide +kernel) (by decide +kernel), (by decide +kernel), (by decide +kernel)⟩
theorem mi_M_set : zMi y_M_set b_M_set 4 none 3 := ⟨zin 867 (by decide +kernel) (by decide +kernel), zin 868 (by decide +kernel) (by decide +kernel), zin 53 (by decide +kernel) (by decide +kernel), zin 869 (by decide +kernel) (by decide +kernel), (by decide +kernel), (by decide +kernel)⟩
theorem mi_M_put : zMi y_M_put b_M_put 2 none 1 := ⟨zin 901 (by decide +kernel) (by decide +kernel), zin 24 (by decide +kernel) (by decide +kernel), zin 53 (by decide +kernel) (by decide +kernel), zin 902 (by decide +kernel) (by decide +kernel), (by decide +kernel), (by decide +kernel)⟩
theorem mi_M_putMany : zMi y_M_putMany b_M_putMany 4 none 2 := ⟨zin 905 (by decide +kernel) (by decide +kernel), zin 25 (by decide +kernel) (by decide +kernel), zin 53 (by decide +kernel) (by decide +kernel), zin 906 (by decide +kernel) (by decide +kernel), (by decide +kernel), (by decide +kernel)⟩
theorem mi_M_send : zMi y_M_send b_M_send 8 none 4 := ⟨zin 917 (by decide +kernel) (by decide +kernel), zin 26 (by decide +kernel) (by decide +kernel), zin 53 (by decide +kernel) (by decide +kernel), zin 918 (by decide +kernel) (by decide +kernel), (by decide +kernel), (by decide +kernel)⟩
theorem mi_M_forget : zMi y_M_forget b_M_forget 4 none 1 := ⟨zin 968 (by decide +kernel) (by decide +kernel), zin 33 (by decide +kernel) (by decide +kernel), zin 53 (by decide +kernel) (by decide +kernel), zin 969 (by decide +kernel) (by decide +kernel), (by decide +kernel), (by decide +kernel)⟩
theorem mi_M_weighed : zMi y_M_weighed b_M_weighed 5 (some .int) 1 := ⟨zin 886 (by decide +kernel) (by decide +kernel), zin 21 (by decide +kernel) (by decide +kernel), zin 53 (by decide +kernel) (by decide +kernel), zin 887 (by decide +kernel) (by decide +kernel), (by decide +kernel), (by decide +kernel)⟩
theorem ms_M_max : zMs y_M_max b_M_max 2 (some .int) 2 := ⟨zin 889 (by decide +kernel) (by decide +kernel), zin 53 (by decide +kernel) (by decide +kernel), zin 890 (by decide +kernel) (by decide +kernel), (by decide +kernel), (by decide +kernel)⟩
theorem ms_M_atLeastOne : zMs y_M_atLeastOne b_M_atLeastOne 1 (some .int) 1 := ⟨zin 928 (by decide +kernel) (by decide +kernel), zin 53 (by decide +kernel) (by decide +kernel), zin 929 (by decide +kernel) (by decide +kernel), (by decide +kernel), (by decide +kernel)⟩
theorem mi_M_skew : zMi y_M_skew b_M_skew 2 (some .int) 1 := ⟨zin 925 (by decide +kernel) (by decide +kernel), zin 28 (by decide +kernel) (by decide +kernel), zin 53 (by decide +kernel) (by decide +kernel), zin 926 (by decide +kernel) (by decide +kernel), (by decide +kernel), (by decide +kernel)⟩
theorem ms_M_fold : zMs y_M_fold b_M_fold 2 (some .int) 1 := ⟨zin 913 (by decide +kernel) (by decide +kernel), zin 53 (by decide +kernel) (by decide +kernel), zin 914 (by decide +kernel) (by decide +kernel), (by decide +kernel), (by decide +kernel)⟩
theorem ms_M_sum : zMs y_M_sum b_M_sum 4 (some .int) 2 := ⟨zin 909 (by decide +kernel) (by decide +kernel), zin 53 (by decide +kernel) (by decide +kernel), zin 910 (by decide +kernel) (by decide +kernel), (by decide +kernel), (by decide +kernel)⟩
theorem mi_M_advertise : zMi y_M_advertise b_M_advertise 4 none 2 := ⟨zin 897 (by decide +kernel) (by decide +kernel), zin 23 (by decide +kernel) (by decide +kernel), zin 53 (by decide +kernel) (by decide +kernel), zin 898 (by decide +kernel) (by decide +kernel), (by decide +kernel), (by decide +kernel)⟩
theorem mi_M_beActive : zMi y_M_beActive b_M_beActive 2 none 1 := ⟨zin 893 (by decide +kernel) (by decide +kernel), zin 22 (by decide +kernel) (by decide +kernel), zin 53 (by decide +kernel) (by decide +kernel), zin 894 (by decide +kernel) (by decide +kernel), (by decide +kernel), (by decide +kernel)⟩
theorem mi_M_beBackup : zMi y_M_beBackup b_M_beBackup 2 none 1 := ⟨zin 921 (by decide +kernel) (by decide +kernel), zin 27 (by decide +kernel) (by decide +kernel), zin 53 (by decide +kernel) (by decide +kernel), zin 922 (by decide +kernel) (by decide +kernel), (by decide +kernel), (by decide +kernel)⟩
theorem mi_M_start : zMi y_M_start b_M_start 2 none 1 := ⟨zin 877 (by decide +kernel) (by decide +kernel), zin 878 (by decide +kernel) (by decide +kernel), zin 53 (by decide +kernel) (by decide +kernel), zin 879 (by decide +kernel) (by decide +kernel), (by decide +kernel), (by decide +kernel)⟩
theorem mi_M_stop : zMi y_M_stop b_M_stop 4 none 2 := ⟨zin 931 (by decide +kernel) (by decide +kernel), zin 932 (by decide +kernel) (by decide +kernel), zin 53 (by decide +kernel) (by decide +kernel), zin 933 (by decide +kernel) (by decide +kernel), (by decide +kernel), (by decide +kernel)⟩
theorem mi_M_timerFires : zMi y_M_timerFires b_M_timerFires 2 none 1 := ⟨zin 1020 (by decide +kernel) (by decide +kernel), zin 44 (by decide +kernel) (by decide +kernel), zin 53 (by decide +kernel) (by decide +kernel), zin 1021 (by decide +kernel) (by decide +kernel), (by decide +kernel), (by decide +kernel)⟩
theorem mi_M_told : zMi y_M_told b_M_told 6 (some .long) 2 := ⟨zin 980 (by decide +kernel) (by decide +kernel), zin 36 (by decide +kernel) (by decide +kernel), zin 53 (by decide +kernel) (by decide +kernel), zin 981 (by decide +kernel) (by decide +kernel), (by decide +kernel), (by decide +kernel)⟩
theorem mi_M_advertised : zMi y_M_advertised b_M_advertised 8 (some .boolean) 3 := ⟨zin 976 (by decide +kernel) (by decide +kernel), zin 35 (by decide +kernel) (by decide +kernel), zin 53 (by decide +kernel) (by decide +kernel), zin 977 (by decide +kernel) (by decide +kernel), (by decide +kernel), (by decide +kernel)⟩
theorem mi_M_ask : zMi y_M_ask b_M_ask 2 none 1 := ⟨zin 935 (by decide +kernel) (by decide +kernel), zin 936 (by decide +kernel) (by decide +kernel), zin 53 (by decide +kernel) (by decide +kernel), zin 937 (by decide +kernel) (by decide +kernel), (by decide +kernel), (by decide +kernel)⟩
theorem mi_M_sendTime : zMi y_M_sendTime b_M_sendTime 2 (some .int) 1 := ⟨zin 948 (by decide +kernel) (by decide +kernel), zin 30 (by decide +kernel) (by decide +kernel), zin 53 (by decide +kernel) (by decide +kernel), zin 949 (by decide +kernel) (by decide +kernel), (by decide +kernel), (by decide +kernel)⟩
theorem mi_M_setSend : zMi y_M_setSend b_M_setSend 2 none 1 := ⟨zin 944 (by decide +kernel) (by decide +kernel), zin 29 (by decide +kernel) (by decide +kernel), zin 53 (by decide +kernel) (by decide +kernel), zin 945 (by decide +kernel) (by decide +kernel), (by decide +kernel), (by decide +kernel)⟩
theorem mi_M_hurry : zMi y_M_hurry b_M_hurry 2 none 1 := ⟨zin 956 (by decide +kernel) (by decide +kernel), zin 31 (by decide +kernel) (by decide +kernel), zin 53 (by decide +kernel) (by decide +kernel), zin 957 (by decide +kernel) (by decide +kernel), (by decide +kernel), (by decide +kernel)⟩
theorem mi_M_sendPacket : zMi y_M_sendPacket b_M_sendPacket 5 none 3 := ⟨zin 1012 (by decide +kernel) (by decide +kernel), zin 42 (by decide +kernel) (by decide +kernel), zin 53 (by decide +kernel) (by decide +kernel), zin 1013 (by decide +kernel) (by decide +kernel), (by decide +kernel), (by decide +kernel)⟩
theorem mi_M_open : zMi y_M_open b_M_open 8 none 5 := ⟨zin 939 (by decide +kernel) (by decide +kernel), zin 940 (by decide +kernel) (by decide +kernel), zin 53 (by decide +kernel) (by decide +kernel), zin 941 (by decide +kernel) (by decide +kernel), (by decide +kernel), (by decide +kernel)⟩
theorem mi_M_change : zMi y_M_change b_M_change 9 none 4 := ⟨zin 951 (by decide +kernel) (by decide +kernel), zin 952 (by decide +kernel) (by decide +kernel), zin 53 (by decide +kernel) (by decide +kernel), zin 953 (by decide +kernel) (by decide +kernel), (by decide +kernel), (by decide +kernel)⟩
theorem mi_M_meant : zMi y_M_meant b_M_meant 6 (some .int) 2 := ⟨zin 989 (by decide +kernel) (by decide +kernel), zin 38 (by decide +kernel) (by decide +kernel), zin 53 (by decide +kernel) (by decide +kernel), zin 990 (by decide +kernel) (by decide +kernel), (by decide +kernel), (by decide +kernel)⟩
theorem ms_M_capped : zMs y_M_capped b_M_capped 2 (some .int) 1 := ⟨zin 992 (by decide +kernel) (by decide +kernel), zin 53 (by decide +kernel) (by decide +kernel), zin 993 (by decide +kernel) (by decide +kernel), (by decide +kernel), (by decide +kernel)⟩
theorem mi_M_goDown : zMi y_M_goDown b_M_goDown 3 none 2 := ⟨zin 1004 (by decide +kernel) (by decide +kernel), zin 40 (by decide +kernel) (by decide +kernel), zin 53 (by decide +kernel) (by decide +kernel), zin 1005 (by decide +kernel) (by decide +kernel), (by decide +kernel), (by decide +kernel)⟩
theorem mi_M_goUp : zMi y_M_goUp b_M_goUp 2 none 1 := ⟨zin 1008 (by decide +kernel) (by decide +kernel), zin 41 (by decide +kernel) (by decide +kernel), zin 53 (by decide +kernel) (by decide +kernel), zin 1009 (by decide +kernel) (by decide +kernel), (by decide +kernel), (by decide +kernel)⟩
theorem mi_M_turn : zMi y_M_turn b_M_turn 4 none 2 := ⟨zin 1000 (by decide +kernel) (by decide +kernel), zin 39 (by decide +kernel) (by decide +kernel), zin 53 (by decide +kernel) (by decide +kernel), zin 1001 (by decide +kernel) (by decide +kernel), (by decide +kernel), (by decide +kernel)⟩
theorem mi_M_packeted : zMi y_M_packeted b_M_packeted 11 (some .boolean) 3 := ⟨zin 985 (by decide +kernel) (by decide +kernel), zin 37 (by decide +kernel) (by decide +kernel), zin 53 (by decide +kernel) (by decide +kernel), zin 986 (by decide +kernel) (by decide +kernel), (by decide +kernel), (by decide +kernel)⟩
theorem mi_M_detectFires : zMi y_M_detectFires b_M_detectFires 2 none 1 := ⟨zin 1024 (by decide +kernel) (by decide +kernel), zin 45 (by decide +kernel) (by decide +kernel), zin 53 (by decide +kernel) (by decide +kernel), zin 1025 (by decide +kernel) (by decide +kernel), (by decide +kernel), (by decide +kernel)⟩
theorem mi_M_reach : zMi y_M_reach b_M_reach 7 none 5 := ⟨zin 972 (by decide +kernel) (by decide +kernel), zin 34 (by decide +kernel) (by decide +kernel), zin 53 (by decide +kernel) (by decide +kernel), zin 973 (by decide +kernel) (by decide +kernel), (by decide +kernel), (by decide +kernel)⟩
theorem mi_M_arriveAll : zMi y_M_arriveAll b_M_arriveAll 8 none 0 := ⟨zin 964 (by decide +kernel) (by decide +kernel), zin 32 (by decide +kernel) (by decide +kernel), zin 53 (by decide +kernel) (by decide +kernel), zin 965 (by decide +kernel) (by decide +kernel), (by decide +kernel), (by decide +kernel)⟩
theorem mi_M_work : zMi y_M_work b_M_work 4 none 1 := ⟨zin 1016 (by decide +kernel) (by decide +kernel), zin 43 (by decide +kernel) (by decide +kernel), zin 53 (by decide +kernel) (by decide +kernel), zin 1017 (by decide +kernel) (by decide +kernel), (by decide +kernel), (by decide +kernel)⟩
theorem mi_M_tick : zMi y_M_tick b_M_tick 4 (some .int) 1 := ⟨zin 959 (by decide +kernel) (by decide +kernel), zin 960 (by decide +kernel) (by decide +kernel), zin 53 (by decide +kernel) (by decide +kernel), zin 961 (by decide +kernel) (by decide +kernel), (by decide +kernel), (by decide +kernel)⟩
theorem mi_M_type : zMi y_M_type b_M_type 5 (some .boolean) 2 := ⟨zin 1027 (by decide +kernel) (by decide +kernel), zin 1028 (by decide +kernel) (by decide +kernel), zin 53 (by decide +kernel) (by decide +kernel), zin 1029 (by decide +kernel) (by decide +kernel), (by decide +kernel), (by decide +kernel)⟩
theorem mi_M_arrive : zMi y_M_arrive b_M_arrive 9 (some .boolean) 5 := ⟨zin 1032 (by decide +kernel) (by decide +kernel), zin 1033 (by decide +kernel) (by decide +kernel), zin 53 (by decide +kernel) (by decide +kernel), zin 1034 (by decide +kernel) (by decide +kernel), (by decide +kernel), (by decide +kernel)⟩
theorem mi_M_router : zMi y_M_router b_M_router 4 (some .int) 2 := ⟨zin 1040 (by decide +kernel) (by decide +kernel), zin 1041 (by decide +kernel) (by decide +kernel), zin 53 (by decide +kernel) (by decide +kernel), zin 1042 (by decide +kernel) (by decide +kernel), (by decide +kernel), (by decide +kernel)⟩
theorem mi_M_session : zMi y_M_session b_M_session 5 (some .int) 3 := ⟨zin 1044 (by decide +kernel) (by decide +kernel), zin 1045 (by decide +kernel) (by decide +kernel), zin 53 (by decide +kernel) (by decide +kernel), zin 1046 (by decide +kernel) (by decide +kernel), (by decide +kernel), (by decide +kernel)⟩
theorem mi_M_port : zMi y_M_port b_M_port 2 (some .int) 1 := ⟨zin 1048 (by decide +kernel) (by decide +kernel), zin 1049 (by decide +kernel) (by decide +kernel), zin 53 (by decide +kernel) (by decide +kernel), zin 1050 (by decide +kernel) (by decide +kernel), (by decide +kernel), (by decide +kernel)⟩
theorem mi_M_flying : zMi y_M_flying b_M_flying 1 (some .int) 0 := ⟨zin 1052 (by decide +kernel) (by decide +kernel), zin 1053 (by decide +kernel) (by decide +kernel), zin 53 (by decide +kernel) (by decide +kernel), zin 1054 (by decide +kernel) (by decide +kernel), (by decide +kernel), (by decide +kernel)⟩
theorem mi_M_frame : zMi y_M_frame b_M_frame 3 (some .int) 2 := ⟨zin 1056 (by decide +kernel) (by decide +kernel), zin 1057 (by decide +kernel) (by decide +kernel), zin 53 (by decide +kernel) (by decide +kernel), zin 1058 (by decide +kernel) (by decide +kernel), (by decide +kernel), (by decide +kernel)⟩
theorem mi_F_put : zMi y_F_put b_F_put 2 none 1 := ⟨zin 290 (by decide +kernel) (by decide +kernel), zin 291 (by decide +kernel) (by decide +kernel), zin 50 (by decide +kernel) (by decide +kernel), zin 292 (by decide +kernel) (by decide +kernel), (by decide +kernel), (by decide +kernel)⟩
theorem mi_F_putTwo : zMi y_F_putTwo b_F_putTwo 2 none 1 := ⟨zin 476 (by decide +kernel) (by decide +kernel), zin 477 (by decide +kernel) (by decide +kernel), zin 50 (by decide +kernel) (by decide +kernel), zin 478 (by decide +kernel) (by decide +kernel), (by decide +kernel), (by decide +kernel)⟩
theorem mi_F_putFour : zMi y_F_putFour b_F_putFour 2 none 1 := ⟨zin 481 (by decide +kernel) (by decide +kernel), zin 482 (by decide +kernel) (by decide +kernel), zin 50 (by decide +kernel) (by decide +kernel), zin 483 (by decide +kernel) (by decide +kernel), (by decide +kernel), (by decide +kernel)⟩
theorem mi_F_byteAt : zMi y_F_byteAt b_F_byteAt 2 (some .int) 1 := ⟨zin 333 (by decide +kernel) (by decide +kernel), zin 334 (by decide +kernel) (by decide +kernel), zin 50 (by decide +kernel) (by decide +kernel), zin 335 (by decide +kernel) (by decide +kernel), (by decide +kernel), (by decide +kernel)⟩
theorem mi_F_twoAt : zMi y_F_twoAt b_F_twoAt 2 (some .int) 1 := ⟨zin 646 (by decide +kernel) (by decide +kernel), zin 647 (by decide +kernel) (by decide +kernel), zin 50 (by decide +kernel) (by decide +kernel), zin 648 (by decide +kernel) (by decide +kernel), (by decide +kernel), (by decide +kernel)⟩
theorem mi_F_fourAt : zMi y_F_fourAt b_F_fourAt 2 (some .int) 1 := ⟨zin 628 (by decide +kernel) (by decide +kernel), zin 629 (by decide +kernel) (by decide +kernel), zin 50 (by decide +kernel) (by decide +kernel), zin 630 (by decide +kernel) (by decide +kernel), (by decide +kernel), (by decide +kernel)⟩
theorem mi_F_sum : zMi y_F_sum b_F_sum 3 (some .int) 0 := ⟨zin 490 (by decide +kernel) (by decide +kernel), zin 491 (by decide +kernel) (by decide +kernel), zin 50 (by decide +kernel) (by decide +kernel), zin 492 (by decide +kernel) (by decide +kernel), (by decide +kernel), (by decide +kernel)⟩
theorem mi_F_putCheckAt : zMi y_F_putCheckAt b_F_putCheckAt 3 none 1 := ⟨zin 485 (by decide +kernel) (by decide +kernel), zin 486 (by decide +kernel) (by decide +kernel), zin 50 (by decide +kernel) (by decide +kernel), zin 487 (by decide +kernel) (by decide +kernel), (by decide +kernel), (by decide +kernel)⟩
theorem mi_R_tell : zMi y_R_tell b_R_tell 2 (some .int) 1 := ⟨zin 301 (by decide +kernel) (by decide +kernel), zin 302 (by decide +kernel) (by decide +kernel), zin 51 (by decide +kernel) (by decide +kernel), zin 303 (by decide +kernel) (by decide +kernel), (by decide +kernel), (by decide +kernel)⟩
theorem mi_R_wake : zMi y_R_wake b_R_wake 1 none 0 := ⟨zin 459 (by decide +kernel) (by decide +kernel), zin 460 (by decide +kernel) (by decide +kernel), zin 51 (by decide +kernel) (by decide +kernel), zin 461 (by decide +kernel) (by decide +kernel), (by decide +kernel), (by decide +kernel)⟩
theorem mi_R_sayGoodbye : zMi y_R_sayGoodbye b_R_sayGoodbye 1 none 0 := ⟨zin 524 (by decide +kernel) (by decide +kernel), zin 525 (by decide +kernel) (by decide +kernel), zin 51 (by decide +kernel) (by decide +kernel), zin 526 (by decide +kernel) (by decide +kernel), (by decide +kernel), (by decide +kernel)⟩
theorem mi_R_forgetAll : zMi y_R_forgetAll b_R_forgetAll 2 none 0 := ⟨zin 528 (by decide +kernel) (by decide +kernel), zin 529 (by decide +kernel) (by decide +kernel), zin 51 (by decide +kernel) (by decide +kernel), zin 530 (by decide +kernel) (by decide +kernel), (by decide +kernel), (by decide +kernel)⟩
theorem mi_R_weighed : zMi y_R_weighed b_R_weighed 3 (some .int) 0 := ⟨zin 306 (by decide +kernel) (by decide +kernel), zin 0 (by decide +kernel) (by decide +kernel), zin 51 (by decide +kernel) (by decide +kernel), zin 307 (by decide +kernel) (by decide +kernel), (by decide +kernel), (by decide +kernel)⟩
theorem mi_R_skew : zMi y_R_skew b_R_skew 1 (some .int) 0 := ⟨zin 513 (by decide +kernel) (by decide +kernel), zin 6 (by decide +kernel) (by decide +kernel), zin 51 (by decide +kernel) (by decide +kernel), zin 514 (by decide +kernel) (by decide +kernel), (by decide +kernel), (by decide +kernel)⟩
theorem mi_R_becomeActive : zMi y_R_becomeActive b_R_becomeActive 1 none 0 := ⟨zin 464 (by decide +kernel) (by decide +kernel), zin 2 (by decide +kernel) (by decide +kernel), zin 51 (by decide +kernel) (by decide +kernel), zin 465 (by decide +kernel) (by decide +kernel), (by decide +kernel), (by decide +kernel)⟩
theorem mi_R_becomeBackup : zMi y_R_becomeBackup b_R_becomeBackup 1 none 0 := ⟨zin 509 (by decide +kernel) (by decide +kernel), zin 5 (by decide +kernel) (by decide +kernel), zin 51 (by decide +kernel) (by decide +kernel), zin 510 (by decide +kernel) (by decide +kernel), (by decide +kernel), (by decide +kernel)⟩
theorem mi_R_advertise : zMi y_R_advertise b_R_advertise 3 none 1 := ⟨zin 468 (by decide +kernel) (by decide +kernel), zin 3 (by decide +kernel) (by decide +kernel), zin 51 (by decide +kernel) (by decide +kernel), zin 469 (by decide +kernel) (by decide +kernel), (by decide +kernel), (by decide +kernel)⟩
theorem mi_R_sendEmpty : zMi y_R_sendEmpty b_R_sendEmpty 4 none 3 := ⟨zin 504 (by decide +kernel) (by decide +kernel), zin 505 (by decide +kernel) (by decide +kernel), zin 51 (by decide +kernel) (by decide +kernel), zin 506 (by decide +kernel) (by decide +kernel), (by decide +kernel), (by decide +kernel)⟩
theorem mi_R_sendPacket : zMi y_R_sendPacket b_R_sendPacket 4 none 2 := ⟨zin 690 (by decide +kernel) (by decide +kernel), zin 17 (by decide +kernel) (by decide +kernel), zin 51 (by decide +kernel) (by decide +kernel), zin 691 (by decide +kernel) (by decide +kernel), (by decide +kernel), (by decide +kernel)⟩
theorem mi_R_sendDraft : zMi y_R_sendDraft b_R_sendDraft 1 none 0 := ⟨zin 497 (by decide +kernel) (by decide +kernel), zin 4 (by decide +kernel) (by decide +kernel), zin 51 (by decide +kernel) (by decide +kernel), zin 498 (by decide +kernel) (by decide +kernel), (by decide +kernel), (by decide +kernel)⟩
theorem mi_R_minds : zMi y_R_minds b_R_minds 2 (some .boolean) 1 := ⟨zin 615 (by decide +kernel) (by decide +kernel), zin 616 (by decide +kernel) (by decide +kernel), zin 51 (by decide +kernel) (by decide +kernel), zin 617 (by decide +kernel) (by decide +kernel), (by decide +kernel), (by decide +kernel)⟩
theorem mi_R_hear : zMi y_R_hear b_R_hear 2 (some .boolean) 1 := ⟨zin 619 (by decide +kernel) (by decide +kernel), zin 620 (by decide +kernel) (by decide +kernel), zin 51 (by decide +kernel) (by decide +kernel), zin 621 (by decide +kernel) (by decide +kernel), (by decide +kernel), (by decide +kernel)⟩
theorem mi_R_isForUs : zMi y_R_isForUs b_R_isForUs 2 (some .boolean) 1 := ⟨zin 624 (by decide +kernel) (by decide +kernel), zin 9 (by decide +kernel) (by decide +kernel), zin 51 (by decide +kernel) (by decide +kernel), zin 625 (by decide +kernel) (by decide +kernel), (by decide +kernel), (by decide +kernel)⟩
theorem mi_R_hearAsBackup : zMi y_R_hearAsBackup b_R_hearAsBackup 3 none 1 := ⟨zin 652 (by decide +kernel) (by decide +kernel), zin 11 (by decide +kernel) (by decide +kernel), zin 51 (by decide +kernel) (by decide +kernel), zin 653 (by decide +kernel) (by decide +kernel), (by decide +kernel), (by decide +kernel)⟩
theorem mi_R_hearAsActive : zMi y_R_hearAsActive b_R_hearAsActive 4 none 1 := ⟨zin 636 (by decide +kernel) (by decide +kernel), zin 10 (by decide +kernel) (by decide +kernel), zin 51 (by decide +kernel) (by decide +kernel), zin 637 (by decide +kernel) (by decide +kernel), (by decide +kernel), (by decide +kernel)⟩
theorem ms_R_intervalIn : zMs y_R_intervalIn b_R_intervalIn 1 (some .int) 1 := ⟨zin 643 (by decide +kernel) (by decide +kernel), zin 51 (by decide +kernel) (by decide +kernel), zin 644 (by decide +kernel) (by decide +kernel), (by decide +kernel), (by decide +kernel)⟩
theorem ms_R_isAbove : zMs y_R_isAbove b_R_isAbove 2 (some .boolean) 2 := ⟨zin 639 (by decide +kernel) (by decide +kernel), zin 51 (by decide +kernel) (by decide +kernel), zin 640 (by decide +kernel) (by decide +kernel), (by decide +kernel), (by decide +kernel)⟩
theorem mi_R_hearPacket : zMi y_R_hearPacket b_R_hearPacket 4 (some .boolean) 1 := ⟨zin 656 (by decide +kernel) (by decide +kernel), zin 12 (by decide +kernel) (by decide +kernel), zin 51 (by decide +kernel) (by decide +kernel), zin 657 (by decide +kernel) (by decide +kernel), (by decide +kernel), (by decide +kernel)⟩
theorem ms_R_isWhole : zMs y_R_isWhole b_R_isWhole 1 (some .boolean) 1 := ⟨zin 659 (by decide +kernel) (by decide +kernel), zin 51 (by decide +kernel) (by decide +kernel), zin 660 (by decide +kernel) (by decide +kernel), (by decide +kernel), (by decide +kernel)⟩
theorem mi_R_sessionMeant : zMi y_R_sessionMeant b_R_sessionMeant 6 (some (.object "StandInLan$Session")) 1 := ⟨zin 663 (by decide +kernel) (by decide +kernel), zin 13 (by decide +kernel) (by decide +kernel), zin 51 (by decide +kernel) (by decide +kernel), zin 664 (by decide +kernel) (by decide +kernel), (by decide +kernel), (by decide +kernel)⟩
theorem mi_R_runTimers : zMi y_R_runTimers b_R_runTimers 2 none 0 := ⟨zin 695 (by decide +kernel) (by decide +kernel), zin 696 (by decide +kernel) (by decide +kernel), zin 51 (by decide +kernel) (by decide +kernel), zin 697 (by decide +kernel) (by decide +kernel), (by decide +kernel), (by decide +kernel)⟩
theorem mi_R_timerFires : zMi y_R_timerFires b_R_timerFires 1 none 0 := ⟨zin 700 (by decide +kernel) (by decide +kernel), zin 18 (by decide +kernel) (by decide +kernel), zin 51 (by decide +kernel) (by decide +kernel), zin 701 (by decide +kernel) (by decide +kernel), (by decide +kernel), (by decide +kernel)⟩
theorem mi_R_runSession : zMi y_R_runSession b_R_runSession 2 none 1 := ⟨zin 704 (by decide +kernel) (by decide +kernel), zin 19 (by decide +kernel) (by decide +kernel), zin 51 (by decide +kernel) (by decide +kernel), zin 705 (by decide +kernel) (by decide +kernel), (by decide +kernel), (by decide +kernel)⟩
theorem mi_S_begin : zMi y_S_begin b_S_begin 4 none 3 := ⟨zin 544 (by decide +kernel) (by decide +kernel), zin 545 (by decide +kernel) (by decide +kernel), zin 52 (by decide +kernel) (by decide +kernel), zin 546 (by decide +kernel) (by decide +kernel), (by decide +kernel), (by decide +kernel)⟩
theorem mi_S_wantRates : zMi y_S_wantRates b_S_wantRates 3 none 2 := ⟨zin 576 (by decide +kernel) (by decide +kernel), zin 577 (by decide +kernel) (by decide +kernel), zin 52 (by decide +kernel) (by decide +kernel), zin 578 (by decide +kernel) (by decide +kernel), (by decide +kernel), (by decide +kernel)⟩
theorem mi_S_shut : zMi y_S_shut b_S_shut 1 none 0 := ⟨zin 572 (by decide +kernel) (by decide +kernel), zin 573 (by decide +kernel) (by decide +kernel), zin 52 (by decide +kernel) (by decide +kernel), zin 574 (by decide +kernel) (by decide +kernel), (by decide +kernel), (by decide +kernel)⟩
theorem mi_S_useRates : zMi y_S_useRates b_S_useRates 1 none 0 := ⟨zin 549 (by decide +kernel) (by decide +kernel), zin 7 (by decide +kernel) (by decide +kernel), zin 52 (by decide +kernel) (by decide +kernel), zin 550 (by decide +kernel) (by decide +kernel), (by decide +kernel), (by decide +kernel)⟩
theorem mi_S_slowed : zMi y_S_slowed b_S_slowed 2 (some .int) 1 := ⟨zin 556 (by decide +kernel) (by decide +kernel), zin 557 (by decide +kernel) (by decide +kernel), zin 52 (by decide +kernel) (by decide +kernel), zin 558 (by decide +kernel) (by decide +kernel), (by decide +kernel), (by decide +kernel)⟩
theorem mi_S_sendPause : zMi y_S_sendPause b_S_sendPause 1 (some .int) 0 := ⟨zin 552 (by decide +kernel) (by decide +kernel), zin 553 (by decide +kernel) (by decide +kernel), zin 52 (by decide +kernel) (by decide +kernel), zin 554 (by decide +kernel) (by decide +kernel), (by decide +kernel), (by decide +kernel)⟩
theorem mi_S_hurrySend : zMi y_S_hurrySend b_S_hurrySend 2 none 0 := ⟨zin 583 (by decide +kernel) (by decide +kernel), zin 584 (by decide +kernel) (by decide +kernel), zin 52 (by decide +kernel) (by decide +kernel), zin 585 (by decide +kernel) (by decide +kernel), (by decide +kernel), (by decide +kernel)⟩
theorem mi_S_learn : zMi y_S_learn b_S_learn 5 (some .boolean) 1 := ⟨zin 666 (by decide +kernel) (by decide +kernel), zin 667 (by decide +kernel) (by decide +kernel), zin 52 (by decide +kernel) (by decide +kernel), zin 668 (by decide +kernel) (by decide +kernel), (by decide +kernel), (by decide +kernel)⟩
theorem ms_S_told : zMs y_S_told b_S_told 1 (some .int) 1 := ⟨zin 672 (by decide +kernel) (by decide +kernel), zin 52 (by decide +kernel) (by decide +kernel), zin 673 (by decide +kernel) (by decide +kernel), (by decide +kernel), (by decide +kernel)⟩
theorem mi_S_follow : zMi y_S_follow b_S_follow 1 none 0 := ⟨zin 678 (by decide +kernel) (by decide +kernel), zin 14 (by decide +kernel) (by decide +kernel), zin 52 (by decide +kernel) (by decide +kernel), zin 679 (by decide +kernel) (by decide +kernel), (by decide +kernel), (by decide +kernel)⟩
theorem mi_S_comeUp : zMi y_S_comeUp b_S_comeUp 1 none 0 := ⟨zin 686 (by decide +kernel) (by decide +kernel), zin 16 (by decide +kernel) (by decide +kernel), zin 52 (by decide +kernel) (by decide +kernel), zin 687 (by decide +kernel) (by decide +kernel), (by decide +kernel), (by decide +kernel)⟩
theorem mi_S_fall : zMi y_S_fall b_S_fall 2 none 1 := ⟨zin 682 (by decide +kernel) (by decide +kernel), zin 15 (by decide +kernel) (by decide +kernel), zin 52 (by decide +kernel) (by decide +kernel), zin 683 (by decide +kernel) (by decide +kernel), (by decide +kernel), (by decide +kernel)⟩
theorem mi_S_runDetect : zMi y_S_runDetect b_S_runDetect 1 none 0 := ⟨zin 707 (by decide +kernel) (by decide +kernel), zin 708 (by decide +kernel) (by decide +kernel), zin 52 (by decide +kernel) (by decide +kernel), zin 709 (by decide +kernel) (by decide +kernel), (by decide +kernel), (by decide +kernel)⟩
theorem mi_S_sendFires : zMi y_S_sendFires b_S_sendFires 1 (some .boolean) 0 := ⟨zin 711 (by decide +kernel) (by decide +kernel), zin 712 (by decide +kernel) (by decide +kernel), zin 52 (by decide +kernel) (by decide +kernel), zin 713 (by decide +kernel) (by decide +kernel), (by decide +kernel), (by decide +kernel)⟩
theorem mi_S_tell : zMi y_S_tell b_S_tell 2 (some .int) 1 := ⟨zin 313 (by decide +kernel) (by decide +kernel), zin 314 (by decide +kernel) (by decide +kernel), zin 52 (by decide +kernel) (by decide +kernel), zin 315 (by decide +kernel) (by decide +kernel), (by decide +kernel), (by decide +kernel)⟩
theorem mi_W_placeOf : zMi y_W_placeOf b_W_placeOf 2 (some .int) 1 := ⟨zin 321 (by decide +kernel) (by decide +kernel), zin 322 (by decide +kernel) (by decide +kernel), zin 49 (by decide +kernel) (by decide +kernel), zin 323 (by decide +kernel) (by decide +kernel), (by decide +kernel), (by decide +kernel)⟩
theorem mi_W_countDue : zMi y_W_countDue b_W_countDue 3 (some .int) 0 := ⟨zin 603 (by decide +kernel) (by decide +kernel), zin 604 (by decide +kernel) (by decide +kernel), zin 49 (by decide +kernel) (by decide +kernel), zin 605 (by decide +kernel) (by decide +kernel), (by decide +kernel), (by decide +kernel)⟩
theorem mi_W_takeDue : zMi y_W_takeDue b_W_takeDue 4 (some (.object "StandInLan$Frame")) 0 := ⟨zin 607 (by decide +kernel) (by decide +kernel), zin 608 (by decide +kernel) (by decide +kernel), zin 49 (by decide +kernel) (by decide +kernel), zin 609 (by decide +kernel) (by decide +kernel), (by decide +kernel), (by decide +kernel)⟩
theorem mi_W_newDraft : zMi y_W_newDraft b_W_newDraft 5 (some (.object "StandInLan$Frame")) 4 := ⟨zin 471 (by decide +kernel) (by decide +kernel), zin 472 (by decide +kernel) (by decide +kernel), zin 49 (by decide +kernel) (by decide +kernel), zin 473 (by decide +kernel) (by decide +kernel), (by decide +kernel), (by decide +kernel)⟩
theorem mi_W_carryDraft : zMi y_W_carryDraft b_W_carryDraft 6 none 2 := ⟨zin 500 (by decide +kernel) (by decide +kernel), zin 501 (by decide +kernel) (by decide +kernel), zin 49 (by decide +kernel) (by decide +kernel), zin 502 (by decide +kernel) (by decide +kernel), (by decide +kernel), (by decide +kernel)⟩
theorem in_F : ∀ w ∈ u_ws RX0 TX0 9, w ∈ zT := by decide +kernel
theorem in_R : ∀ w ∈ u_ws RX1 TX1 11, w ∈ zT := by decide +kernel
theorem in_S : ∀ w ∈ u_ws RX2 TX2 19, w ∈ zT := by decide +kernel
theorem in_W : ∀ w ∈ u_ws RX3 TX3 6, w ∈ zT := by decide +kernel
theorem in_L : ∀ w ∈ u_ws RX4 TX4 3, w ∈ zT := by decide +kernel
end
section
/-! THE CLASS'S STATE: every int that its objects hold, by kind of object and two numbers (M kind i j field); which frame lies where (P: the places of the way; D: the draft, the taken one) -/
abbrev zM : Type := Nat → Nat → Nat → Nat → Int32
abbrev zV : Type := (Nat → Nat → Nat → Nat) × ClassId × ClassId × ClassId × ClassId
abbrev zcl : List vw_C := [(RX0, TX0, 9), (RX1, TX1, 11), (RX2, TX2, 19), (RX3, TX3, 6), (RX4, TX4, 3)]
def up (M : zM) (κ i j k : Nat) (v : Int32) : zM := fun κ' i' j' => if κ' = κ ∧ i' = i ∧ j' = j then upd (M κ i j) k v else M κ' i' j'
theorem up_self (M : zM) (κ i j k : Nat) (v : Int32) : up M κ i j k v κ i j = upd (M κ i j) k v := by simp [up]
theorem up_ne {M : zM} {κ i j k κ' i' j' : Nat} {v : Int32} (h : ¬ (κ' = κ ∧ i' = i ∧ j' = j)) : up M κ i j k v κ' i' j' = M κ' i' j' := by simp [up, h]
/-- fields of a frame, a router, a session, the wire, the whole, in the order of the slots -/
abbrev fsF (V : zV) (i : Nat) (q : Nat → Int32) : List Value := [.ref (V.1 10 i 0), .int (q 1), .int (q 2), .int (q 3), .int (q 4), .int (q 5), .int (q 6), .int (q 7), .int (q 8)]
abbrev fsR (V : zV) (i : Nat) (q : Nat → Int32) : List Value := [.int (nI i), .ref (V.1 6 0 0), .ref (V.1 3 i 0), .ref (V.1 4 i 0), .int (q 4), .int (q 5), .int (q 6), .int (q 7), .int (q 8), .int (q 9), .int (q 10)]
abbrev fsS (V : zV) (i j : Nat) (q : Nat → Int32) : List Value := [.int (nI (16 * i + j + 1)), .int (nI j), .int (q 2), .int (q 3), .int (q 4), .int (q 5), .int (q 6), .int (q 7), .int (q 8), .int (q 9), .int (q 10), .int (q 11), .int (q 12), .int (q 13), .int (q 14), .int (q 15), .int (q 16), .int (q 17), .int (q 18)]
abbrev fsW (V : zV) (D : Nat × Nat) (q : Nat → Int32) : List Value := [.ref (V.1 7 0 0), .ref (V.1 8 0 0), .int (q 2), .int (q 3), .ref (V.1 9 D.1 0), .ref (V.1 9 D.2 0)]
abbrev fsL (V : zV) : List Value := [.ref (V.1 6 0 0), .ref (V.1 1 0 0), .ref (V.1 9 62 0)]
/-- the cell of an object -/
def ce (V : zV) (P : Nat → Nat) (D : Nat × Nat) (κ i j : Nat) (q : Nat → Int32) : va_E := match κ with
  | 0 => .inr (4, fsL V)
  | 1 => .inl (V.2.2.2.1, 5, .inr (.inr (.inr (.inr (fun n => some (V.1 2 n 0))))))
  | 2 => .inr (1, fsR V i q)
  | 3 => .inl (V.2.1, 10, .inl q)
  | 4 => .inl (V.2.2.2.2, 5, .inr (.inr (.inr (.inr (fun n => some (V.1 5 i n))))))
  | 5 => .inr (2, fsS V i j q)
  | 6 => .inr (3, fsW V D q)
  | 7 => .inl (V.2.1, 16, .inl q)
  | 8 => .inl (V.2.2.1, 60, .inr (.inr (.inr (.inr (fun n => some (V.1 9 (P n) 0))))))
  | 9 => .inr (0, fsF V i q)
  | _ => .inl (V.2.1, 40, .inl q)
def vd (κ i j : Nat) : Prop := match κ with
  | 0 => i = 0 ∧ j = 0
  | 1 => i = 0 ∧ j = 0
  | 2 => i < 5 ∧ j = 0
  | 3 => i < 5 ∧ j = 0
  | 4 => i < 5 ∧ j = 0
  | 5 => i < 5 ∧ j < 5
  | 6 => i = 0 ∧ j = 0
  | 7 => i = 0 ∧ j = 0
  | 8 => i = 0 ∧ j = 0
  | 9 => i < 63 ∧ j = 0
  | 10 => i < 63 ∧ j = 0
  | _ => False
def eC (V : zV) (M : zM) (P : Nat → Nat) (D : Nat × Nat) : zK := fun f => ∀ κ i j, vd κ i j → f (V.1 κ i j) = ce V P D κ i j (M κ i j)
/-- the world of the class: its addresses lie in the pool and are apart; the array classes -/
def wC (G : zG) (V : zV) : Prop := G.2.1 = zcl ∧ G.2.2.1 = [(V.2.1, .int), (V.2.2.1, .object RX0), (V.2.2.2.1, .object RX1), (V.2.2.2.2, .object RX2)] ∧ (∀ κ i j, vd κ i j → V.1 κ i j ∈ G.2.2.2) ∧ (∀ κ i j κ' i' j', vd κ i j → vd κ' i' j' → V.1 κ i j = V.1 κ' i' j' → κ' = κ ∧ i' = i ∧ j' = j) ∧ G.2.2.2.Nodup
theorem eC_up {G : zG} {V : zV} {M : zM} {P : Nat → Nat} {D : Nat × Nat} {κ i j k : Nat} {v : Int32} {e : va_E} (w : wC G V) (hv : vd κ i j) (he : e = ce V P D κ i j (upd (M κ i j) k v)) : ∀ f, eC V M P D f → eC V (up M κ i j k v) P D (va_up f (V.1 κ i j) e) := by
  intro f hf κ' i' j' hv'
  by_cases h : V.1 κ' i' j' = V.1 κ i j
  · obtain ⟨rfl, rfl, rfl⟩ := w.2.2.2.1 _ _ _ _ _ _ hv' hv h
    rw [va_up_self, up_self, he]
  · rw [va_up_ne _ _ h, hf _ _ _ hv', up_ne (fun q => h (by obtain ⟨rfl, rfl, rfl⟩ := q; rfl))]
theorem eC_way {G : zG} {V : zV} {M : zM} {P : Nat → Nat} {D : Nat × Nat} {k fr : Nat} (w : wC G V) : ∀ f, eC V M P D f → eC V M (va_up P k fr) D (va_up f (V.1 8 0 0) (.inl (V.2.2.1, 60, .inr (.inr (.inr (.inr (va_up (fun n => some (V.1 9 (P n) 0)) k (some (V.1 9 fr 0))))))))) := by
  intro f hf κ' i' j' hv'
  have hv : vd 8 0 0 := ⟨rfl, rfl⟩
  by_cases h : V.1 κ' i' j' = V.1 8 0 0
  · obtain ⟨rfl, rfl, rfl⟩ := w.2.2.2.1 _ _ _ _ _ _ hv' hv h
    rw [va_up_self]
    show _ = Sum.inl _
    congr 7
    funext n
    by_cases hn : n = k
    · subst hn; rw [va_up_self, va_up_self]
    · rw [va_up_ne _ _ hn, va_up_ne _ _ hn]
  · rw [va_up_ne _ _ h, hf _ _ _ hv']
    unfold ce
    split <;> first | rfl | skip
    obtain ⟨rfl, rfl⟩ := hv'
    exact absurd rfl h
theorem eC_wire {G : zG} {V : zV} {M : zM} {P : Nat → Nat} {D D' : Nat × Nat} (w : wC G V) : ∀ f, eC V M P D f → eC V M P D' (va_up f (V.1 6 0 0) (.inr (3, fsW V D' (M 6 0 0)))) := by
  intro f hf κ' i' j' hv'
  have hv : vd 6 0 0 := ⟨rfl, rfl⟩
  by_cases h : V.1 κ' i' j' = V.1 6 0 0
  · obtain ⟨rfl, rfl, rfl⟩ := w.2.2.2.1 _ _ _ _ _ _ hv' hv h
    rw [va_up_self]
    rfl
  · rw [va_up_ne _ _ h, hf _ _ _ hv']
    unfold ce
    split <;> first | rfl | skip
    obtain ⟨rfl, rfl⟩ := hv'
    exact absurd rfl h
section CR
variable {X : zX} {G : zG} {A : Nat → Prop} {nL : Nat} {Q : State → Prop} {pc : Nat} {lv : List (Nat × Value)} {st : List Value} {cc : ByteArray} {own : String} {fr lo : Nat} {V : zV} {M : zM} {P : Nat → Nat} {D : Nat × Nat} {i j index : Nat} {v : Value} {x : Int32}
theorem C_gF (C : zC X G A cc nL own fr lo) (w : wC G V) (hi : i < 63) (k : Nat) (hk : k < 9) (hlk : Cond.fieldLink own index RX0 (TX0 k).2.1 (TX0 k).2.2.1 ∈ zT) (hr : (TX0 k).1 = RX0) (hv : (fsF V i (M 9 i 0))[k]? = some v) (hd : decode cc pc = .ok (.getfield index, 3)) (kk : Z X G A nL Q (eC V M P D) (pc + 3) lv (v :: st)) : Z X G A nL Q (eC V M P D) pc lv (.ref (V.1 9 i 0) :: st) :=
  Z_get C k (w.2.2.1 9 i 0 ⟨hi, rfl⟩) (fun f hf => hf 9 i 0 ⟨hi, rfl⟩) (by rw [w.1]; rfl) in_F hk hlk hr hv hd kk
theorem C_pF (C : zC X G A cc nL own fr lo) (w : wC G V) (hi : i < 63) (k : Nat) (hk : k < 9) (hlk : Cond.fieldLink own index RX0 (TX0 k).2.1 (TX0 k).2.2.1 ∈ zT) (hr : (TX0 k).1 = RX0) (hfin : (TX0 k).2.2.2 = false) (hn : narrow (tyX0 k) (.int x) = .int x) (hfit : fits (tyX0 k) (.int x) = true) (he : Sum.inr (0, (fsF V i (M 9 i 0)).set k (.int x)) = ce V P D 9 i 0 (upd (M 9 i 0) k x)) (hd : decode cc pc = .ok (.putfield index, 3)) (kk : Z X G A nL Q (eC V (up M 9 i 0 k x) P D) (pc + 3) lv st) : Z X G A nL Q (eC V M P D) pc lv (.int x :: .ref (V.1 9 i 0) :: st) :=
  Z_put C k tyX0 (w.2.2.1 9 i 0 ⟨hi, rfl⟩) (fun f hf => hf 9 i 0 ⟨hi, rfl⟩) (by rw [w.1]; rfl) in_F tyX0_ok nmX0 hk hlk hr hfin (tyX0_ok k hk) hn hfit hk (eC_up w ⟨hi, rfl⟩ he) hd kk
theorem C_gR (C : zC X G A cc nL own fr lo) (w : wC G V) (hi : i < 5) (k : Nat) (hk : k < 11) (hlk : Cond.fieldLink own index RX1 (TX1 k).2.1 (TX1 k).2.2.1 ∈ zT) (hr : (TX1 k).1 = RX1) (hv : (fsR V i (M 2 i 0))[k]? = some v) (hd : decode cc pc = .ok (.getfield index, 3)) (kk : Z X G A nL Q (eC V M P D) (pc + 3) lv (v :: st)) : Z X G A nL Q (eC V M P D) pc lv (.ref (V.1 2 i 0) :: st) :=
  Z_get C k (w.2.2.1 2 i 0 ⟨hi, rfl⟩) (fun f hf => hf 2 i 0 ⟨hi, rfl⟩) (by rw [w.1]; rfl) in_R hk hlk hr hv hd kk
theorem C_pR (C : zC X G A cc nL own fr lo) (w : wC G V) (hi : i < 5) (k : Nat) (hk : k < 11) (hlk : Cond.fieldLink own index RX1 (TX1 k).2.1 (TX1 k).2.2.1 ∈ zT) (hr : (TX1 k).1 = RX1) (hfin : (TX1 k).2.2.2 = false) (hn : narrow (tyX1 k) (.int x) = .int x) (hfit : fits (tyX1 k) (.int x) = true) (he : Sum.inr (1, (fsR V i (M 2 i 0)).set k (.int x)) = ce V P D 2 i 0 (upd (M 2 i 0) k x)) (hd : decode cc pc = .ok (.putfield index, 3)) (kk : Z X G A nL Q (eC V (up M 2 i 0 k x) P D) (pc + 3) lv st) : Z X G A nL Q (eC V M P D) pc lv (.int x :: .ref (V.1 2 i 0) :: st) :=
  Z_put C k tyX1 (w.2.2.1 2 i 0 ⟨hi, rfl⟩) (fun f hf => hf 2 i 0 ⟨hi, rfl⟩) (by rw [w.1]; rfl) in_R tyX1_ok nmX1 hk hlk hr hfin (tyX1_ok k hk) hn hfit hk (eC_up w ⟨hi, rfl⟩ he) hd kk
theorem C_gS (C : zC X G A cc nL own fr lo) (w : wC G V) (hi : i < 5) (hj : j < 5) (k : Nat) (hk : k < 19) (hlk : Cond.fieldLink own index RX2 (TX2 k).2.1 (TX2 k).2.2.1 ∈ zT) (hr : (TX2 k).1 = RX2) (hv : (fsS V i j (M 5 i j))[k]? = some v) (hd : decode cc pc = .ok (.getfield index, 3)) (kk : Z X G A nL Q (eC V M P D) (pc + 3) lv (v :: st)) : Z X G A nL Q (eC V M P D) pc lv (.ref (V.1 5 i j) :: st) :=
  Z_get C k (w.2.2.1 5 i j ⟨hi, hj⟩) (fun f hf => hf 5 i j ⟨hi, hj⟩) (by rw [w.1]; rfl) in_S hk hlk hr hv hd kk
theorem C_pS (C : zC X G A cc nL own fr lo) (w : wC G V) (hi : i < 5) (hj : j < 5) (k : Nat) (hk : k < 19) (hlk : Cond.fieldLink own index RX2 (TX2 k).2.1 (TX2 k).2.2.1 ∈ zT) (hr : (TX2 k).1 = RX2) (hfin : (TX2 k).2.2.2 = false) (hn : narrow (tyX2 k) (.int x) = .int x) (hfit : fits (tyX2 k) (.int x) = true) (he : Sum.inr (2, (fsS V i j (M 5 i j)).set k (.int x)) = ce V P D 5 i j (upd (M 5 i j) k x)) (hd : decode cc pc = .ok (.putfield index, 3)) (kk : Z X G A nL Q (eC V (up M 5 i j k x) P D) (pc + 3) lv st) : Z X G A nL Q (eC V M P D) pc lv (.int x :: .ref (V.1 5 i j) :: st) :=
  Z_put C k tyX2 (w.2.2.1 5 i j ⟨hi, hj⟩) (fun f hf => hf 5 i j ⟨hi, hj⟩) (by rw [w.1]; rfl) in_S tyX2_ok nmX2 hk hlk hr hfin (tyX2_ok k hk) hn hfit hk (eC_up w ⟨hi, hj⟩ he) hd kk
theorem C_gW (C : zC X G A cc nL own fr lo) (w : wC G V)  (k : Nat) (hk : k < 6) (hlk : Cond.fieldLink own index RX3 (TX3 k).2.1 (TX3 k).2.2.1 ∈ zT) (hr : (TX3 k).1 = RX3) (hv : (fsW V D (M 6 0 0))[k]? = some v) (hd : decode cc pc = .ok (.getfield index, 3)) (kk : Z X G A nL Q (eC V M P D) (pc + 3) lv (v :: st)) : Z X G A nL Q (eC V M P D) pc lv (.ref (V.1 6 0 0) :: st) :=
  Z_get C k (w.2.2.1 6 0 0 ⟨rfl, rfl⟩) (fun f hf => hf 6 0 0 ⟨rfl, rfl⟩) (by rw [w.1]; rfl) in_W hk hlk hr hv hd kk
theorem C_pW (C : zC X G A cc nL own fr lo) (w : wC G V)  (k : Nat) (hk : k < 6) (hlk : Cond.fieldLink own index RX3 (TX3 k).2.1 (TX3 k).2.2.1 ∈ zT) (hr : (TX3 k).1 = RX3) (hfin : (TX3 k).2.2.2 = false) (hn : narrow (tyX3 k) (.int x) = .int x) (hfit : fits (tyX3 k) (.int x) = true) (he : Sum.inr (3, (fsW V D (M 6 0 0)).set k (.int x)) = ce V P D 6 0 0 (upd (M 6 0 0) k x)) (hd : decode cc pc = .ok (.putfield index, 3)) (kk : Z X G A nL Q (eC V (up M 6 0 0 k x) P D) (pc + 3) lv st) : Z X G A nL Q (eC V M P D) pc lv (.int x :: .ref (V.1 6 0 0) :: st) :=
  Z_put C k tyX3 (w.2.2.1 6 0 0 ⟨rfl, rfl⟩) (fun f hf => hf 6 0 0 ⟨rfl, rfl⟩) (by rw [w.1]; rfl) in_W tyX3_ok nmX3 hk hlk hr hfin (tyX3_ok k hk) hn hfit hk (eC_up w ⟨rfl, rfl⟩ he) hd kk
theorem C_gL (C : zC X G A cc nL own fr lo) (w : wC G V)  (k : Nat) (hk : k < 3) (hlk : Cond.fieldLink own index RX4 (TX4 k).2.1 (TX4 k).2.2.1 ∈ zT) (hr : (TX4 k).1 = RX4) (hv : (fsL V)[k]? = some v) (hd : decode cc pc = .ok (.getfield index, 3)) (kk : Z X G A nL Q (eC V M P D) (pc + 3) lv (v :: st)) : Z X G A nL Q (eC V M P D) pc lv (.ref (V.1 0 0 0) :: st) :=
  Z_get C k (w.2.2.1 0 0 0 ⟨rfl, rfl⟩) (fun f hf => hf 0 0 0 ⟨rfl, rfl⟩) (by rw [w.1]; rfl) in_L hk hlk hr hv hd kk
end CR
theorem zeq {K K' : zK} (h : K = K') : ∀ f, K f → K' f := fun f q => h ▸ q
theorem eC_M {V : zV} {M M' : zM} {P : Nat → Nat} {D : Nat × Nat} (h : M = M') : eC V M P D = eC V M' P D := by rw [h]
section CC
variable {X : zX} {G : zG} {A : Nat → Prop} {nL : Nat} {Q : State → Prop} {K' : zK} {pc : Nat} {lv : List (Nat × Value)} {st rest As : List Value} {cc bytes : ByteArray} {own : String} {fr lo fr' lo' : Nat} {V : zV} {M : zM} {P : Nat → Nat} {D : Nat × Nat} {i j index n maxL : Nat} {y : MethodName} {v : Value} {ret : Option FieldType}
theorem C_cFv (C : zC X G A cc nL own fr lo) (w : wC G V) (hi : i < 63) (mi : zMi y bytes maxL ret n) (hlk : Cond.methodLink own index y ∈ zT) (hM : zF X.l y bytes maxL ret fr' lo' G (.ref (V.1 9 i 0) :: As) (eC V M P D) (some v) K') (hst : st = As.reverse ++ .ref (V.1 9 i 0) :: rest) (hy : y.cls = RX0) (hle : fr' + 1 ≤ fr ∧ 19 + maxL + lo' ≤ lo) (hn : As.length = n) (hrm : (rest.map fun v => v.category).sum ≤ 8) (hd : decode cc pc = .ok (.invokevirtual index, 3)) (k : Z X G A nL Q K' (pc + 3) lv (v :: rest)) : Z X G A nL Q (eC V M P D) pc lv st :=
  Z_callV C mi hlk hM hle (w.2.2.1 9 i 0 ⟨hi, rfl⟩) (fun f hf => hf 9 i 0 ⟨hi, rfl⟩) (by rw [w.1, hy]; rfl) hn hst hrm hd k
theorem C_cFn (C : zC X G A cc nL own fr lo) (w : wC G V) (hi : i < 63) (mi : zMi y bytes maxL ret n) (hlk : Cond.methodLink own index y ∈ zT) (hM : zF X.l y bytes maxL ret fr' lo' G (.ref (V.1 9 i 0) :: As) (eC V M P D) none K') (hst : st = As.reverse ++ .ref (V.1 9 i 0) :: rest) (hy : y.cls = RX0) (hle : fr' + 1 ≤ fr ∧ 19 + maxL + lo' ≤ lo) (hn : As.length = n) (hrm : (rest.map fun v => v.category).sum ≤ 8) (hd : decode cc pc = .ok (.invokevirtual index, 3)) (k : Z X G A nL Q K' (pc + 3) lv rest) : Z X G A nL Q (eC V M P D) pc lv st :=
  Z_callV C mi hlk hM hle (w.2.2.1 9 i 0 ⟨hi, rfl⟩) (fun f hf => hf 9 i 0 ⟨hi, rfl⟩) (by rw [w.1, hy]; rfl) hn hst hrm hd k
theorem C_cRv (C : zC X G A cc nL own fr lo) (w : wC G V) (hi : i < 5) (mi : zMi y bytes maxL ret n) (hlk : Cond.methodLink own index y ∈ zT) (hM : zF X.l y bytes maxL ret fr' lo' G (.ref (V.1 2 i 0) :: As) (eC V M P D) (some v) K') (hst : st = As.reverse ++ .ref (V.1 2 i 0) :: rest) (hy : y.cls = RX1) (hle : fr' + 1 ≤ fr ∧ 19 + maxL + lo' ≤ lo) (hn : As.length = n) (hrm : (rest.map fun v => v.category).sum ≤ 8) (hd : decode cc pc = .ok (.invokevirtual index, 3)) (k : Z X G A nL Q K' (pc + 3) lv (v :: rest)) : Z X G A nL Q (eC V M P D) pc lv st :=
  Z_callV C mi hlk hM hle (w.2.2.1 2 i 0 ⟨hi, rfl⟩) (fun f hf => hf 2 i 0 ⟨hi, rfl⟩) (by rw [w.1, hy]; rfl) hn hst hrm hd k
theorem C_cRn (C : zC X G A cc nL own fr lo) (w : wC G V) (hi : i < 5) (mi : zMi y bytes maxL ret n) (hlk : Cond.methodLink own index y ∈ zT) (hM : zF X.l y bytes maxL ret fr' lo' G (.ref (V.1 2 i 0) :: As) (eC V M P D) none K') (hst : st = As.reverse ++ .ref (V.1 2 i 0) :: rest) (hy : y.cls = RX1) (hle : fr' + 1 ≤ fr ∧ 19 + maxL + lo' ≤ lo) (hn : As.length = n) (hrm : (rest.map fun v => v.category).sum ≤ 8) (hd : decode cc pc = .ok (.invokevirtual index, 3)) (k : Z X G A nL Q K' (pc + 3) lv rest) : Z X G A nL Q (eC V M P D) pc lv st :=
  Z_callV C mi hlk hM hle (w.2.2.1 2 i 0 ⟨hi, rfl⟩) (fun f hf => hf 2 i 0 ⟨hi, rfl⟩) (by rw [w.1, hy]; rfl) hn hst hrm hd k
theorem C_cSv (C : zC X G A cc nL own fr lo) (w : wC G V) (hi : i < 5) (hj : j < 5) (mi : zMi y bytes maxL ret n) (hlk : Cond.methodLink own index y ∈ zT) (hM : zF X.l y bytes maxL ret fr' lo' G (.ref (V.1 5 i j) :: As) (eC V M P D) (some v) K') (hst : st = As.reverse ++ .ref (V.1 5 i j) :: rest) (hy : y.cls = RX2) (hle : fr' + 1 ≤ fr ∧ 19 + maxL + lo' ≤ lo) (hn : As.length = n) (hrm : (rest.map fun v => v.category).sum ≤ 8) (hd : decode cc pc = .ok (.invokevirtual index, 3)) (k : Z X G A nL Q K' (pc + 3) lv (v :: rest)) : Z X G A nL Q (eC V M P D) pc lv st :=
  Z_callV C mi hlk hM hle (w.2.2.1 5 i j ⟨hi, hj⟩) (fun f hf => hf 5 i j ⟨hi, hj⟩) (by rw [w.1, hy]; rfl) hn hst hrm hd k
theorem C_cSn (C : zC X G A cc nL own fr lo) (w : wC G V) (hi : i < 5) (hj : j < 5) (mi : zMi y bytes maxL ret n) (hlk : Cond.methodLink own index y ∈ zT) (hM : zF X.l y bytes maxL ret fr' lo' G (.ref (V.1 5 i j) :: As) (eC V M P D) none K') (hst : st = As.reverse ++ .ref (V.1 5 i j) :: rest) (hy : y.cls = RX2) (hle : fr' + 1 ≤ fr ∧ 19 + maxL + lo' ≤ lo) (hn : As.length = n) (hrm : (rest.map fun v => v.category).sum ≤ 8) (hd : decode cc pc = .ok (.invokevirtual index, 3)) (k : Z X G A nL Q K' (pc + 3) lv rest) : Z X G A nL Q (eC V M P D) pc lv st :=
  Z_callV C mi hlk hM hle (w.2.2.1 5 i j ⟨hi, hj⟩) (fun f hf => hf 5 i j ⟨hi, hj⟩) (by rw [w.1, hy]; rfl) hn hst hrm hd k
theorem C_cWv (C : zC X G A cc nL own fr lo) (w : wC G V)  (mi : zMi y bytes maxL ret n) (hlk : Cond.methodLink own index y ∈ zT) (hM : zF X.l y bytes maxL ret fr' lo' G (.ref (V.1 6 0 0) :: As) (eC V M P D) (some v) K') (hst : st = As.reverse ++ .ref (V.1 6 0 0) :: rest) (hy : y.cls = RX3) (hle : fr' + 1 ≤ fr ∧ 19 + maxL + lo' ≤ lo) (hn : As.length = n) (hrm : (rest.map fun v => v.category).sum ≤ 8) (hd : decode cc pc = .ok (.invokevirtual index, 3)) (k : Z X G A nL Q K' (pc + 3) lv (v :: rest)) : Z X G A nL Q (eC V M P D) pc lv st :=
  Z_callV C mi hlk hM hle (w.2.2.1 6 0 0 ⟨rfl, rfl⟩) (fun f hf => hf 6 0 0 ⟨rfl, rfl⟩) (by rw [w.1, hy]; rfl) hn hst hrm hd k
theorem C_cWn (C : zC X G A cc nL own fr lo) (w : wC G V)  (mi : zMi y bytes maxL ret n) (hlk : Cond.methodLink own index y ∈ zT) (hM : zF X.l y bytes maxL ret fr' lo' G (.ref (V.1 6 0 0) :: As) (eC V M P D) none K') (hst : st = As.reverse ++ .ref (V.1 6 0 0) :: rest) (hy : y.cls = RX3) (hle : fr' + 1 ≤ fr ∧ 19 + maxL + lo' ≤ lo) (hn : As.length = n) (hrm : (rest.map fun v => v.category).sum ≤ 8) (hd : decode cc pc = .ok (.invokevirtual index, 3)) (k : Z X G A nL Q K' (pc + 3) lv rest) : Z X G A nL Q (eC V M P D) pc lv st :=
  Z_callV C mi hlk hM hle (w.2.2.1 6 0 0 ⟨rfl, rfl⟩) (fun f hf => hf 6 0 0 ⟨rfl, rfl⟩) (by rw [w.1, hy]; rfl) hn hst hrm hd k
theorem C_cLv (C : zC X G A cc nL own fr lo) (w : wC G V)  (mi : zMi y bytes maxL ret n) (hlk : Cond.methodLink own index y ∈ zT) (hM : zF X.l y bytes maxL ret fr' lo' G (.ref (V.1 0 0 0) :: As) (eC V M P D) (some v) K') (hst : st = As.reverse ++ .ref (V.1 0 0 0) :: rest) (hy : y.cls = RX4) (hle : fr' + 1 ≤ fr ∧ 19 + maxL + lo' ≤ lo) (hn : As.length = n) (hrm : (rest.map fun v => v.category).sum ≤ 8) (hd : decode cc pc = .ok (.invokevirtual index, 3)) (k : Z X G A nL Q K' (pc + 3) lv (v :: rest)) : Z X G A nL Q (eC V M P D) pc lv st :=
  Z_callV C mi hlk hM hle (w.2.2.1 0 0 0 ⟨rfl, rfl⟩) (fun f hf => hf 0 0 0 ⟨rfl, rfl⟩) (by rw [w.1, hy]; rfl) hn hst hrm hd k
theorem C_cLn (C : zC X G A cc nL own fr lo) (w : wC G V)  (mi : zMi y bytes maxL ret n) (hlk : Cond.methodLink own index y ∈ zT) (hM : zF X.l y bytes maxL ret fr' lo' G (.ref (V.1 0 0 0) :: As) (eC V M P D) none K') (hst : st = As.reverse ++ .ref (V.1 0 0 0) :: rest) (hy : y.cls = RX4) (hle : fr' + 1 ≤ fr ∧ 19 + maxL + lo' ≤ lo) (hn : As.length = n) (hrm : (rest.map fun v => v.category).sum ≤ 8) (hd : decode cc pc = .ok (.invokevirtual index, 3)) (k : Z X G A nL Q K' (pc + 3) lv rest) : Z X G A nL Q (eC V M P D) pc lv st :=
  Z_callV C mi hlk hM hle (w.2.2.1 0 0 0 ⟨rfl, rfl⟩) (fun f hf => hf 0 0 0 ⟨rfl, rfl⟩) (by rw [w.1, hy]; rfl) hn hst hrm hd k
theorem C_csv {K : zK} (C : zC X G A cc nL own fr lo) (mi : zMs y bytes maxL ret n) (hlk : Cond.methodLink own index y ∈ zT) (hM : zF X.l y bytes maxL ret fr' lo' G As K (some v) K') (hst : st = As.reverse ++ rest) (hle : fr' + 1 ≤ fr ∧ 19 + maxL + lo' ≤ lo) (hn : As.length = n) (hrm : (rest.map fun v => v.category).sum ≤ 8) (hd : decode cc pc = .ok (.invokestatic index, 3)) (k : Z X G A nL Q K' (pc + 3) lv (v :: rest)) : Z X G A nL Q K pc lv st :=
  Z_callS C mi hlk hM hle hn hst hrm hd k
theorem C_csn {K : zK} (C : zC X G A cc nL own fr lo) (mi : zMs y bytes maxL ret n) (hlk : Cond.methodLink own index y ∈ zT) (hM : zF X.l y bytes maxL ret fr' lo' G As K none K') (hst : st = As.reverse ++ rest) (hle : fr' + 1 ≤ fr ∧ 19 + maxL + lo' ≤ lo) (hn : As.length = n) (hrm : (rest.map fun v => v.category).sum ≤ 8) (hd : decode cc pc = .ok (.invokestatic index, 3)) (k : Z X G A nL Q K' (pc + 3) lv rest) : Z X G A nL Q K pc lv st :=
  Z_callS C mi hlk hM hle hn hst hrm hd k
end CC
theorem mx_s : Cond.static Lib.Math.max.name ∈ zT := by decide +kernel
theorem mx_c : Cond.code Lib.Math.max.name Lib.Math.max.code 2 (some .int) ∈ zT := by decide +kernel
theorem mn_s : Cond.static Lib.Math.min.name ∈ zT := by decide +kernel
theorem mn_c : Cond.code Lib.Math.min.name Lib.Math.min.code 2 (some .int) ∈ zT := by decide +kernel
theorem ma_i : Cond.initialized "java/lang/Math" ∈ zT := by decide +kernel
def imx (a b : Int32) : Int32 := if a < b then b else a
def imn (a b : Int32) : Int32 := if b < a then b else a
/-- a row set as a whole; up is that -/
def rw4 (M : zM) (κ i j : Nat) (q : Nat → Int32) : zM := fun κ' i' j' => if κ' = κ ∧ i' = i ∧ j' = j then q else M κ' i' j'
theorem up_eq (M : zM) (κ i j k : Nat) (v : Int32) : up M κ i j k v = rw4 M κ i j (upd (M κ i j) k v) := rfl
theorem rw4_self (M : zM) (κ i j : Nat) (q : Nat → Int32) : rw4 M κ i j q κ i j = q := by simp [rw4]
theorem rw4_rw4 (M : zM) (κ i j : Nat) (q q' : Nat → Int32) : rw4 (rw4 M κ i j q) κ i j q' = rw4 M κ i j q' := by
  funext a b c
  by_cases h : a = κ ∧ b = i ∧ c = j
  · simp [rw4, h]
  · simp [rw4, h]
theorem rw4_id (M : zM) (κ i j : Nat) : rw4 M κ i j (M κ i j) = M := by
  funext a b c
  by_cases h : a = κ ∧ b = i ∧ c = j
  · obtain ⟨rfl, rfl, rfl⟩ := h
    simp [rw4]
  · simp [rw4, h]
theorem rw4_ne {M : zM} {κ i j κ' i' j' : Nat} {q : Nat → Int32} (h : ¬ (κ' = κ ∧ i' = i ∧ j' = j)) : rw4 M κ i j q κ' i' j' = M κ' i' j' := by simp [rw4, h]
section CA
variable {X : zX} {G : zG} {A : Nat → Prop} {nL : Nat} {Q : State → Prop} {pc : Nat} {lv : List (Nat × Value)} {st : List Value} {cc : ByteArray} {own : String} {fr lo : Nat} {V : zV} {M : zM} {P : Nat → Nat} {D : Nat × Nat} {i j n : Nat} {x y v : Int32}
theorem C_lenG (C : zC X G A cc nL own fr lo) (w : wC G V) (hi : i < 5) (hd : decode cc pc = .ok (.arraylength, 1)) (kk : Z X G A nL Q (eC V M P D) (pc + 1) lv (.int 10 :: st)) : Z X G A nL Q (eC V M P D) pc lv (.ref (V.1 3 i 0) :: st) :=
  Z_alen (t0 := 0) (v := 10) C (w.2.2.1 3 i 0 ⟨hi, rfl⟩) (fun f hf => hf 3 i 0 ⟨hi, rfl⟩) (by rw [w.2.1]; rfl) rfl hd kk
theorem C_ldG (C : zC X G A cc nL own fr lo) (w : wC G V) (hi : i < 5) (n : Nat) (hn : x.toNatClampNeg = n) (hin : vp_in x 10) (hd : decode cc pc = .ok (.iaload, 1)) (kk : Z X G A nL Q (eC V M P D) (pc + 1) lv (.int (M 3 i 0 n) :: st)) : Z X G A nL Q (eC V M P D) pc lv (.int x :: .ref (V.1 3 i 0) :: st) := by
  subst hn
  exact Z_iald (t0 := 0) C (w.2.2.1 3 i 0 ⟨hi, rfl⟩) (fun f hf => hf 3 i 0 ⟨hi, rfl⟩) (by rw [w.2.1]; rfl) hin hd kk
theorem C_stG (C : zC X G A cc nL own fr lo) (w : wC G V) (hi : i < 5) (n : Nat) (hn : x.toNatClampNeg = n) (hin : vp_in x 10) (hd : decode cc pc = .ok (.iastore, 1)) (kk : Z X G A nL Q (eC V (up M 3 i 0 n y) P D) (pc + 1) lv st) : Z X G A nL Q (eC V M P D) pc lv (.int y :: .int x :: .ref (V.1 3 i 0) :: st) := by
  subst hn
  exact Z_iast (t0 := 0) C (w.2.2.1 3 i 0 ⟨hi, rfl⟩) (fun f hf => hf 3 i 0 ⟨hi, rfl⟩) (by rw [w.2.1]; rfl) hin (eC_up w ⟨hi, rfl⟩ rfl) hd kk
theorem C_lenP (C : zC X G A cc nL own fr lo) (w : wC G V)  (hd : decode cc pc = .ok (.arraylength, 1)) (kk : Z X G A nL Q (eC V M P D) (pc + 1) lv (.int 16 :: st)) : Z X G A nL Q (eC V M P D) pc lv (.ref (V.1 7 0 0) :: st) :=
  Z_alen (t0 := 0) (v := 16) C (w.2.2.1 7 0 0 ⟨rfl, rfl⟩) (fun f hf => hf 7 0 0 ⟨rfl, rfl⟩) (by rw [w.2.1]; rfl) rfl hd kk
theorem C_ldP (C : zC X G A cc nL own fr lo) (w : wC G V)  (n : Nat) (hn : x.toNatClampNeg = n) (hin : vp_in x 16) (hd : decode cc pc = .ok (.iaload, 1)) (kk : Z X G A nL Q (eC V M P D) (pc + 1) lv (.int (M 7 0 0 n) :: st)) : Z X G A nL Q (eC V M P D) pc lv (.int x :: .ref (V.1 7 0 0) :: st) := by
  subst hn
  exact Z_iald (t0 := 0) C (w.2.2.1 7 0 0 ⟨rfl, rfl⟩) (fun f hf => hf 7 0 0 ⟨rfl, rfl⟩) (by rw [w.2.1]; rfl) hin hd kk
theorem C_stP (C : zC X G A cc nL own fr lo) (w : wC G V)  (n : Nat) (hn : x.toNatClampNeg = n) (hin : vp_in x 16) (hd : decode cc pc = .ok (.iastore, 1)) (kk : Z X G A nL Q (eC V (up M 7 0 0 n y) P D) (pc + 1) lv st) : Z X G A nL Q (eC V M P D) pc lv (.int y :: .int x :: .ref (V.1 7 0 0) :: st) := by
  subst hn
  exact Z_iast (t0 := 0) C (w.2.2.1 7 0 0 ⟨rfl, rfl⟩) (fun f hf => hf 7 0 0 ⟨rfl, rfl⟩) (by rw [w.2.1]; rfl) hin (eC_up w ⟨rfl, rfl⟩ rfl) hd kk
theorem C_lenB (C : zC X G A cc nL own fr lo) (w : wC G V) (hi : i < 63) (hd : decode cc pc = .ok (.arraylength, 1)) (kk : Z X G A nL Q (eC V M P D) (pc + 1) lv (.int 40 :: st)) : Z X G A nL Q (eC V M P D) pc lv (.ref (V.1 10 i 0) :: st) :=
  Z_alen (t0 := 0) (v := 40) C (w.2.2.1 10 i 0 ⟨hi, rfl⟩) (fun f hf => hf 10 i 0 ⟨hi, rfl⟩) (by rw [w.2.1]; rfl) rfl hd kk
theorem C_ldB (C : zC X G A cc nL own fr lo) (w : wC G V) (hi : i < 63) (n : Nat) (hn : x.toNatClampNeg = n) (hin : vp_in x 40) (hd : decode cc pc = .ok (.iaload, 1)) (kk : Z X G A nL Q (eC V M P D) (pc + 1) lv (.int (M 10 i 0 n) :: st)) : Z X G A nL Q (eC V M P D) pc lv (.int x :: .ref (V.1 10 i 0) :: st) := by
  subst hn
  exact Z_iald (t0 := 0) C (w.2.2.1 10 i 0 ⟨hi, rfl⟩) (fun f hf => hf 10 i 0 ⟨hi, rfl⟩) (by rw [w.2.1]; rfl) hin hd kk
theorem C_stB (C : zC X G A cc nL own fr lo) (w : wC G V) (hi : i < 63) (n : Nat) (hn : x.toNatClampNeg = n) (hin : vp_in x 40) (hd : decode cc pc = .ok (.iastore, 1)) (kk : Z X G A nL Q (eC V (up M 10 i 0 n y) P D) (pc + 1) lv st) : Z X G A nL Q (eC V M P D) pc lv (.int y :: .int x :: .ref (V.1 10 i 0) :: st) := by
  subst hn
  exact Z_iast (t0 := 0) C (w.2.2.1 10 i 0 ⟨hi, rfl⟩) (fun f hf => hf 10 i 0 ⟨hi, rfl⟩) (by rw [w.2.1]; rfl) hin (eC_up w ⟨hi, rfl⟩ rfl) hd kk
theorem C_lenY (C : zC X G A cc nL own fr lo) (w : wC G V)  (hd : decode cc pc = .ok (.arraylength, 1)) (kk : Z X G A nL Q (eC V M P D) (pc + 1) lv (.int 60 :: st)) : Z X G A nL Q (eC V M P D) pc lv (.ref (V.1 8 0 0) :: st) :=
  Z_alen (t0 := 1) (v := 60) C (w.2.2.1 8 0 0 ⟨rfl, rfl⟩) (fun f hf => hf 8 0 0 ⟨rfl, rfl⟩) (by rw [w.2.1]; rfl) rfl hd kk
theorem C_ldY (C : zC X G A cc nL own fr lo) (w : wC G V)  (n : Nat) (hn : x.toNatClampNeg = n) (hin : vp_in x 60) (hd : decode cc pc = .ok (.aaload, 1)) (kk : Z X G A nL Q (eC V M P D) (pc + 1) lv (.ref (V.1 9 (P n) 0) :: st)) : Z X G A nL Q (eC V M P D) pc lv (.int x :: .ref (V.1 8 0 0) :: st) := by
  subst hn
  exact Z_aald (t0 := 1) C (w.2.2.1 8 0 0 ⟨rfl, rfl⟩) (fun f hf => hf 8 0 0 ⟨rfl, rfl⟩) (by rw [w.2.1]; rfl) hin hd kk
theorem C_lenQ (C : zC X G A cc nL own fr lo) (w : wC G V)  (hd : decode cc pc = .ok (.arraylength, 1)) (kk : Z X G A nL Q (eC V M P D) (pc + 1) lv (.int 5 :: st)) : Z X G A nL Q (eC V M P D) pc lv (.ref (V.1 1 0 0) :: st) :=
  Z_alen (t0 := 2) (v := 5) C (w.2.2.1 1 0 0 ⟨rfl, rfl⟩) (fun f hf => hf 1 0 0 ⟨rfl, rfl⟩) (by rw [w.2.1]; rfl) rfl hd kk
theorem C_ldQ (C : zC X G A cc nL own fr lo) (w : wC G V)  (n : Nat) (hn : x.toNatClampNeg = n) (hin : vp_in x 5) (hd : decode cc pc = .ok (.aaload, 1)) (kk : Z X G A nL Q (eC V M P D) (pc + 1) lv (.ref (V.1 2 n 0) :: st)) : Z X G A nL Q (eC V M P D) pc lv (.int x :: .ref (V.1 1 0 0) :: st) := by
  subst hn
  exact Z_aald (t0 := 2) C (w.2.2.1 1 0 0 ⟨rfl, rfl⟩) (fun f hf => hf 1 0 0 ⟨rfl, rfl⟩) (by rw [w.2.1]; rfl) hin hd kk
theorem C_lenX (C : zC X G A cc nL own fr lo) (w : wC G V) (hi : i < 5) (hd : decode cc pc = .ok (.arraylength, 1)) (kk : Z X G A nL Q (eC V M P D) (pc + 1) lv (.int 5 :: st)) : Z X G A nL Q (eC V M P D) pc lv (.ref (V.1 4 i 0) :: st) :=
  Z_alen (t0 := 3) (v := 5) C (w.2.2.1 4 i 0 ⟨hi, rfl⟩) (fun f hf => hf 4 i 0 ⟨hi, rfl⟩) (by rw [w.2.1]; rfl) rfl hd kk
theorem C_ldX (C : zC X G A cc nL own fr lo) (w : wC G V) (hi : i < 5) (n : Nat) (hn : x.toNatClampNeg = n) (hin : vp_in x 5) (hd : decode cc pc = .ok (.aaload, 1)) (kk : Z X G A nL Q (eC V M P D) (pc + 1) lv (.ref (V.1 5 i n) :: st)) : Z X G A nL Q (eC V M P D) pc lv (.int x :: .ref (V.1 4 i 0) :: st) := by
  subst hn
  exact Z_aald (t0 := 3) C (w.2.2.1 4 i 0 ⟨hi, rfl⟩) (fun f hf => hf 4 i 0 ⟨hi, rfl⟩) (by rw [w.2.1]; rfl) hin hd kk
theorem C_stY {fj : Nat} (C : zC X G A cc nL own fr lo) (w : wC G V) (hfj : fj < 63) (n : Nat) (hn : x.toNatClampNeg = n) (hin : vp_in x 60) (hd : decode cc pc = .ok (.aastore, 1)) (kk : Z X G A nL Q (eC V M (va_up P n fj) D) (pc + 1) lv st) : Z X G A nL Q (eC V M P D) pc lv (.ref (V.1 9 fj 0) :: .int x :: .ref (V.1 8 0 0) :: st) := by
  subst hn
  intro f H locs ls hf hP hS hl
  obtain ⟨q0, hq⟩ := va_pl_get (X := []) (f := f) (w.2.2.1 8 0 0 ⟨rfl, rfl⟩)
  obtain ⟨q1, hq1⟩ := va_pl_get (X := []) (f := f) (w.2.2.1 9 fj 0 ⟨hfj, rfl⟩)
  have hD : va_D A (va_pl G.2.2.2 f) := zD C.2.2.1 C.2.2.2.1
  have hq0 := hq
  rw [hf 8 0 0 ⟨rfl, rfl⟩] at hq
  rw [hf 9 fj 0 ⟨hfj, rfl⟩] at hq1
  refine va_astq (r := (RX0, TX0, 9)) C.1.1 C.1.2.1 C.2.1 hP hD hS q0 1 q1 0 hq (by rw [w.2.1]; rfl) hq1 (by rw [w.1]; rfl) hin hd (fun H1 locs1 hP1 hD1 hS1 => ?_)
  have e := va_pl_set (X := []) (e := .inl (V.2.2.1, 60, .inr (.inr (.inr (.inr (va_up (fun n => some (V.1 9 (P n) 0)) x.toNatClampNeg (some (V.1 9 fj 0)))))))) hD (w.2.2.1 8 0 0 ⟨rfl, rfl⟩) hq0
  simp only [List.nil_append] at e
  rw [e] at hP1
  exact kk _ H1 locs1 ls (eC_way w f hf) hP1 hS1 hl
theorem C_pD (C : zC X G A cc nL own fr lo) (w : wC G V) {fj index : Nat} (hlk : Cond.fieldLink own index RX3 (TX3 4).2.1 (TX3 4).2.2.1 ∈ zT) (hd : decode cc pc = .ok (.putfield index, 3)) (kk : Z X G A nL Q (eC V M P (fj, D.2)) (pc + 3) lv st) : Z X G A nL Q (eC V M P D) pc lv (.ref (V.1 9 fj 0) :: .ref (V.1 6 0 0) :: st) :=
  Z_put C 4 tyX3 (w.2.2.1 6 0 0 ⟨rfl, rfl⟩) (fun f hf => hf 6 0 0 ⟨rfl, rfl⟩) (by rw [w.1]; rfl) in_W tyX3_ok nmX3 (by decide) hlk rfl rfl (tyX3_ok 4 (by decide)) rfl rfl (by show 4 < 6; decide) (eC_wire (D' := (fj, D.2)) w) hd kk
theorem C_pT (C : zC X G A cc nL own fr lo) (w : wC G V) {fj index : Nat} (hlk : Cond.fieldLink own index RX3 (TX3 5).2.1 (TX3 5).2.2.1 ∈ zT) (hd : decode cc pc = .ok (.putfield index, 3)) (kk : Z X G A nL Q (eC V M P (D.1, fj)) (pc + 3) lv st) : Z X G A nL Q (eC V M P D) pc lv (.ref (V.1 9 fj 0) :: .ref (V.1 6 0 0) :: st) :=
  Z_put C 5 tyX3 (w.2.2.1 6 0 0 ⟨rfl, rfl⟩) (fun f hf => hf 6 0 0 ⟨rfl, rfl⟩) (by rw [w.1]; rfl) in_W tyX3_ok nmX3 (by decide) hlk rfl rfl (tyX3_ok 5 (by decide)) rfl rfl (by show 5 < 6; decide) (eC_wire (D' := (D.1, fj)) w) hd kk
end CA
end
section
/-- a tableswitch: a case each, and the rest -/
theorem Z_tsw {X : zX} {G : zG} {A : Nat → Prop} {nL : Nat} {Q : State → Prop} {K : zK} {pc : Nat} {lv : List (Nat × Value)} {st : List Value} {cc : ByteArray} {own : String} {fr lo : Nat} (C : zC X G A cc nL own fr lo) {dflt l h : Int} {offs : Array Int} {len : Nat} {x : Int32} (hd : decode cc pc = .ok (.tableswitch dflt l h offs, len)) (ks : List (Int32 × Nat)) (dt : Nat)
    (h1 : ks.all (fun p => decide (l ≤ p.1.toInt) && decide (p.1.toInt ≤ h) && decide (offs[(p.1.toInt - l).toNat]? = some ((p.2 : Int) - (pc : Int)))) = true) (h2 : (List.range (h + 1 - l).toNat).all (fun n => ks.any (fun p => decide (p.1.toInt = l + n))) = true) (h3 : (pc : Int) + dflt = (dt : Int))
    (kk : ∀ p ∈ ks, x = p.1 → Z X G A nL Q K p.2 lv st) (kd : (∀ p ∈ ks, ¬ x = p.1) → Z X G A nL Q K dt lv st) : Z X G A nL Q K pc lv (.int x :: st) := by
  have hk : ∀ p ∈ ks, l ≤ p.1.toInt ∧ p.1.toInt ≤ h ∧ offs[(p.1.toInt - l).toNat]? = some ((p.2 : Int) - (pc : Int)) := fun p hp => by
    have := List.all_eq_true.mp h1 p hp
    simp only [Bool.and_eq_true, decide_eq_true_eq] at this
    exact ⟨this.1.1, this.1.2, this.2⟩
  intro f H locs ls hf hP hS hl
  by_cases a1 : x.toInt < l ∨ h < x.toInt
  · exact lv_tableOut C.1.1 C.1.2.1 hd a1 h3 (kd (fun p hp e => by have := hk p hp; rw [e] at a1; omega) f H locs ls hf hP hS hl)
  · have b1 : ¬ x.toInt < l := fun q => a1 (Or.inl q)
    have b2 : ¬ h < x.toInt := fun q => a1 (Or.inr q)
    have h4 := List.all_eq_true.mp h2 (x.toInt - l).toNat (List.mem_range.mpr (by omega))
    obtain ⟨p, hp, he⟩ := List.any_eq_true.mp h4
    have he := of_decide_eq_true he
    have hx : x = p.1 := Int32.toInt_inj.mp (by rw [he]; omega)
    obtain ⟨-, -, q3⟩ := hk p hp
    exact lv_tableIn (tgt := p.2) C.1.1 C.1.2.1 hd b1 b2 (by rw [hx]; exact q3) (by omega) (kk p hp hx f H locs ls hf hP hS hl)
theorem vp_inc {x m : Int32} {n : Nat} (h0 : ¬ x < 0) (h1 : ¬ m ≤ x) (hm : m.toInt = n) : vp_in x n := by
  rw [vp_in_iff]
  rw [Int32.lt_iff_toInt_lt, Int32.toInt_zero] at h0
  rw [Int32.le_iff_toInt_le, hm] at h1
  omega
end
section
/-! THE SESSION's METHODS: what they answer and write, over its row q of ints -/
def sSlowed (q : Nat → Int32) (p : Int32) : Int32 := if q 3 = 3 then p else imx p 100
def sPause (q : Nat → Int32) : Int32 := if q 10 = 0 then 0 else imx (sSlowed q (q 14)) (q 10)
def sTold (x : Int32) : Int32 := if x < 0 then 100000 else if x ≤ 100000 then x else 100000
def sUse (q : Nat → Int32) : Nat → Int32 := upd (upd q 14 (q 7)) 15 (q 8)
def sHurry (q : Nat → Int32) : Nat → Int32 := if sPause q = 0 ∨ q 16 = 0 ∨ sPause q < q 16 then upd q 16 (sPause q) else q
def sBegin0 (q : Nat → Int32) (tx rx m : Int32) : Nat → Int32 := upd (upd (sUse (upd (upd (upd (upd (upd (upd (upd (upd (upd (upd (upd (upd q 2 1) 3 1) 4 1) 5 0) 6 0) 7 tx) 8 rx) 9 m) 10 1) 11 0) 12 0) 13 0)) 17 0) 18 0
def sBegin (q : Nat → Int32) (tx rx m : Int32) : Nat → Int32 := upd (sBegin0 q tx rx m) 16 (sPause (sBegin0 q tx rx m))
def sWant1 (q : Nat → Int32) (tx rx : Int32) : Nat → Int32 := upd (upd q 7 tx) 8 rx
def sWant2 (q : Nat → Int32) : Nat → Int32 := if q 3 = 3 then upd (upd (upd q 13 1) 14 (imn (q 14) (q 7))) 15 (imx (q 15) (q 8)) else sUse q
def sWant (q : Nat → Int32) (tx rx : Int32) : Nat → Int32 := sHurry (sWant2 (sWant1 q tx rx))
def sShut (q : Nat → Int32) : Nat → Int32 := upd (upd (upd q 3 0) 6 7) 13 0
def sComeUp (q : Nat → Int32) : Nat → Int32 := upd (upd q 3 3) 18 (q 18 + 1)
def sFall (q : Nat → Int32) (why : Int32) : Nat → Int32 := if q 3 = 2 ∨ q 3 = 3 then upd (upd q 6 why) 3 1 else q
def sFollow (q : Nat → Int32) : Nat → Int32 := if q 3 = 0 then q else if q 4 = 0 then sFall q 3 else if q 3 = 1 then (if q 4 = 1 then upd q 3 2 else if q 4 = 2 then sComeUp q else q) else if q 3 = 2 then (if q 4 = 1 then q else sComeUp q) else if q 4 = 1 then sFall q 3 else q
def sDetect (q : Nat → Int32) : Nat → Int32 := if 0 < q 17 then (if q 17 - 1 = 0 then sFall (upd (upd q 17 (q 17 - 1)) 5 0) 1 else upd q 17 (q 17 - 1)) else q
def sFires (q : Nat → Int32) : Nat → Int32 := if 0 < q 16 then upd q 16 (q 16 - 1) else q
def sFired (q : Nat → Int32) : Int32 := if 0 < q 16 then (if q 16 - 1 = 0 then 1 else 0) else 0
def sTell (q : Nat → Int32) (x : Int32) : Int32 := if x = 0 then q 3 else if x = 1 then q 4 else if x = 2 then q 5 else if x = 3 then q 6 else if x = 4 then q 16 else if x = 5 then q 17 else if x = 6 then q 14 else if x = 7 then q 15 else if x = 8 then (if q 13 = 0 then 0 else 1) else if x = 9 then q 10 else if x = 10 then q 11 else if x = 11 then q 18 else -1
set_option maxRecDepth 100000 in
set_option maxHeartbeats 4000000 in
theorem c_S_useRates {l : Launch} {G : zG} {V : zV} (w : wC G V) (M : zM) (P : Nat → Nat) (D : Nat × Nat) (i j : Nat) (hi : i < 5) (hj : j < 5) : zF l y_S_useRates b_S_useRates 1 none 0 0 G [.ref (V.1 5 i j)] (eC V M P D) none (eC V (rw4 M 5 i j (sUse (M 5 i j))) P D) := by
  refine zF.ofZ (by decide) w.2.2.2.2 (Nat.le_of_ble_eq_true rfl) (fun X hXl hN hr C => ?_)
  subst hXl
  show Z X G (zA G) 1 _ (eC V M P D) 0 [(0, .ref (V.1 5 i j))] []
  refine Z_aload_n C 0 d_S_useRates_0 rfl rfl ?_
  refine Z_aload_n C 0 d_S_useRates_1 rfl rfl ?_
  refine C_gS C w (by assumption) (by assumption) 7 (by decide) fl_S_34 rfl rfl d_S_useRates_2 ?_
  refine C_pS C w (by assumption) (by assumption) 14 (by decide) fl_S_71 rfl rfl rfl rfl rfl d_S_useRates_5 ?_
  refine Z_aload_n C 0 d_S_useRates_8 rfl rfl ?_
  refine Z_aload_n C 0 d_S_useRates_9 rfl rfl ?_
  refine C_gS C w (by assumption) (by assumption) 8 (by decide) fl_S_37 rfl rfl d_S_useRates_10 ?_
  refine C_pS C w (by assumption) (by assumption) 15 (by decide) fl_S_80 rfl rfl rfl rfl rfl d_S_useRates_13 ?_
  exact Z_vret C hN hr d_S_useRates_16 rfl (zeq (by apply eC_M; simp only [up_eq, rw4_rw4, rw4_self, rw4_id, sUse]; rfl))
set_option maxRecDepth 100000 in
set_option maxHeartbeats 4000000 in
theorem c_S_slowed {l : Launch} {G : zG} {V : zV} (w : wC G V) (M : zM) (P : Nat → Nat) (D : Nat × Nat) (i j : Nat) (hi : i < 5) (hj : j < 5) (p : Int32) : zF l y_S_slowed b_S_slowed 2 (some .int) 1 21 G [.ref (V.1 5 i j), .int p] (eC V M P D) (some (.int (sSlowed (M 5 i j) p))) (eC V M P D) := by
  refine zF.ofZ (by decide) w.2.2.2.2 (Nat.le_of_ble_eq_true rfl) (fun X hXl hN hr C => ?_)
  subst hXl
  show Z X G (zA G) 2 _ (eC V M P D) 0 [(0, .ref (V.1 5 i j)), (1, .int p)] []
  refine Z_aload_n C 0 d_S_slowed_0 rfl rfl ?_
  refine C_gS C w (by assumption) (by assumption) 3 (by decide) fl_S_22 rfl rfl d_S_slowed_1 ?_
  refine Z_iconst (v := 3) C d_S_slowed_4 (by decide) ?_
  refine Z_icmp_ne (tgt := 12) C d_S_slowed_5 (by decide) (fun c5 => ?_) (fun c5 => ?_)
  · skip
    refine Z_iload_n C 1 d_S_slowed_12 rfl rfl ?_
    refine Z_bipush (v := 100) C d_S_slowed_13 (by decide) ?_
    refine Z_mmax C ml_S_83 mx_s ma_i mx_c ⟨Nat.le_of_ble_eq_true rfl, Nat.le_of_ble_eq_true rfl⟩ d_S_slowed_15 ?_
    exact Z_iret C hN hr d_S_slowed_18 (by simp [sSlowed, imx, c5]) (zeq (rfl))
  · skip
    refine Z_iload_n C 1 d_S_slowed_8 rfl rfl ?_
    refine Z_goto (tgt := 18) C d_S_slowed_9 (by decide) ?_
    exact Z_iret C hN hr d_S_slowed_18 (by simp [sSlowed, imx, c5]) (zeq (rfl))
set_option maxRecDepth 100000 in
set_option maxHeartbeats 4000000 in
theorem c_S_sendPause {l : Launch} {G : zG} {V : zV} (w : wC G V) (M : zM) (P : Nat → Nat) (D : Nat × Nat) (i j : Nat) (hi : i < 5) (hj : j < 5) : zF l y_S_sendPause b_S_sendPause 1 (some .int) 2 42 G [.ref (V.1 5 i j)] (eC V M P D) (some (.int (sPause (M 5 i j)))) (eC V M P D) := by
  refine zF.ofZ (by decide) w.2.2.2.2 (Nat.le_of_ble_eq_true rfl) (fun X hXl hN hr C => ?_)
  subst hXl
  show Z X G (zA G) 1 _ (eC V M P D) 0 [(0, .ref (V.1 5 i j))] []
  refine Z_aload_n C 0 d_S_sendPause_0 rfl rfl ?_
  refine C_gS C w (by assumption) (by assumption) 10 (by decide) fl_S_43 rfl rfl d_S_sendPause_1 ?_
  refine Z_if_ne (tgt := 11) C d_S_sendPause_4 (by decide) (fun c4 => ?_) (fun c4 => ?_)
  · skip
    refine Z_aload_n C 0 d_S_sendPause_11 rfl rfl ?_
    refine Z_aload_n C 0 d_S_sendPause_12 rfl rfl ?_
    refine C_gS C w (by assumption) (by assumption) 14 (by decide) fl_S_71 rfl rfl d_S_sendPause_13 ?_
    refine C_cSv C w (by assumption) (by assumption) mi_S_slowed ml_S_89 (c_S_slowed w _ _ _ _ _ (by assumption) (by assumption) _) rfl rfl (by decide) rfl (Nat.le_of_ble_eq_true rfl) d_S_sendPause_16 ?_
    refine Z_aload_n C 0 d_S_sendPause_19 rfl rfl ?_
    refine C_gS C w (by assumption) (by assumption) 10 (by decide) fl_S_43 rfl rfl d_S_sendPause_20 ?_
    refine Z_mmax C ml_S_83 mx_s ma_i mx_c ⟨Nat.le_of_ble_eq_true rfl, Nat.le_of_ble_eq_true rfl⟩ d_S_sendPause_23 ?_
    exact Z_iret C hN hr d_S_sendPause_26 (by simp [sPause, imx, c4]) (zeq (rfl))
  · skip
    refine Z_iconst (v := 0) C d_S_sendPause_7 (by decide) ?_
    refine Z_goto (tgt := 26) C d_S_sendPause_8 (by decide) ?_
    exact Z_iret C hN hr d_S_sendPause_26 (by simp [sPause, imx, c4]) (zeq (rfl))
set_option maxRecDepth 100000 in
set_option maxHeartbeats 4000000 in
theorem c_S_told {l : Launch} {G : zG} {V : zV} (w : wC G V) (M : zM) (P : Nat → Nat) (D : Nat × Nat) (x : Int32) : zF l y_S_told b_S_told 1 (some .int) 0 0 G [.int x] (eC V M P D) (some (.int (sTold x))) (eC V M P D) := by
  refine zF.ofZ (by decide) w.2.2.2.2 (Nat.le_of_ble_eq_true rfl) (fun X hXl hN hr C => ?_)
  subst hXl
  show Z X G (zA G) 1 _ (eC V M P D) 0 [(0, .int x)] []
  refine Z_iload_n C 0 d_S_told_0 rfl rfl ?_
  refine Z_if_lt (tgt := 10) C d_S_told_1 (by decide) (fun c1 => ?_) (fun c1 => ?_)
  · skip
    refine Z_ldc C co_S_108 d_S_told_10 ?_
    refine Z_goto (tgt := 16) C d_S_told_12 (by decide) ?_
    exact Z_iret C hN hr d_S_told_16 (by simp [sTold, c1]) (zeq (rfl))
  · skip
    refine Z_iload_n C 0 d_S_told_4 rfl rfl ?_
    refine Z_ldc C co_S_108 d_S_told_5 ?_
    refine Z_icmp_le (tgt := 15) C d_S_told_7 (by decide) (fun c7 => ?_) (fun c7 => ?_)
    · skip
      refine Z_iload_n C 0 d_S_told_15 rfl rfl ?_
      exact Z_iret C hN hr d_S_told_16 (by simp [sTold, c1, c7]) (zeq (rfl))
    · skip
      refine Z_ldc C co_S_108 d_S_told_10 ?_
      refine Z_goto (tgt := 16) C d_S_told_12 (by decide) ?_
      exact Z_iret C hN hr d_S_told_16 (by simp [sTold, c1, c7]) (zeq (rfl))
set_option maxRecDepth 100000 in
set_option maxHeartbeats 4000000 in
theorem c_S_hurrySend {l : Launch} {G : zG} {V : zV} (w : wC G V) (M : zM) (P : Nat → Nat) (D : Nat × Nat) (i j : Nat) (hi : i < 5) (hj : j < 5) : zF l y_S_hurrySend b_S_hurrySend 2 none 3 62 G [.ref (V.1 5 i j)] (eC V M P D) none (eC V (rw4 M 5 i j (sHurry (M 5 i j))) P D) := by
  refine zF.ofZ (by decide) w.2.2.2.2 (Nat.le_of_ble_eq_true rfl) (fun X hXl hN hr C => ?_)
  subst hXl
  show Z X G (zA G) 2 _ (eC V M P D) 0 [(0, .ref (V.1 5 i j))] []
  refine Z_aload_n C 0 d_S_hurrySend_0 rfl rfl ?_
  refine C_cSv C w (by assumption) (by assumption) mi_S_sendPause ml_S_64 (c_S_sendPause w _ _ _ _ _ (by assumption) (by assumption)) rfl rfl (by decide) rfl (Nat.le_of_ble_eq_true rfl) d_S_hurrySend_1 ?_
  refine Z_istore_n C d_S_hurrySend_4 rfl (by decide) rfl ?_
  refine Z_iload_n C 0 d_S_hurrySend_5 rfl rfl ?_
  refine Z_if_eq (tgt := 24) C d_S_hurrySend_6 (by decide) (fun c6 => ?_) (fun c6 => ?_)
  · skip
    refine Z_aload_n C 1 d_S_hurrySend_24 rfl rfl ?_
    refine Z_iload_n C 0 d_S_hurrySend_25 rfl rfl ?_
    refine C_pS C w (by assumption) (by assumption) 16 (by decide) fl_S_68 rfl rfl rfl rfl rfl d_S_hurrySend_26 ?_
    exact Z_vret C hN hr d_S_hurrySend_29 rfl (zeq (by apply eC_M; simp [up_eq, rw4_rw4, rw4_self, rw4_id, sHurry, ← Int32.not_le, c6]))
  · skip
    refine Z_aload_n C 1 d_S_hurrySend_9 rfl rfl ?_
    refine C_gS C w (by assumption) (by assumption) 16 (by decide) fl_S_68 rfl rfl d_S_hurrySend_10 ?_
    refine Z_if_eq (tgt := 24) C d_S_hurrySend_13 (by decide) (fun c13 => ?_) (fun c13 => ?_)
    · skip
      refine Z_aload_n C 1 d_S_hurrySend_24 rfl rfl ?_
      refine Z_iload_n C 0 d_S_hurrySend_25 rfl rfl ?_
      refine C_pS C w (by assumption) (by assumption) 16 (by decide) fl_S_68 rfl rfl rfl rfl rfl d_S_hurrySend_26 ?_
      exact Z_vret C hN hr d_S_hurrySend_29 rfl (zeq (by apply eC_M; simp [up_eq, rw4_rw4, rw4_self, rw4_id, sHurry, ← Int32.not_le, c6, c13]))
    · skip
      refine Z_aload_n C 1 d_S_hurrySend_16 rfl rfl ?_
      refine C_gS C w (by assumption) (by assumption) 16 (by decide) fl_S_68 rfl rfl d_S_hurrySend_17 ?_
      refine Z_iload_n C 0 d_S_hurrySend_20 rfl rfl ?_
      refine Z_icmp_le (tgt := 29) C d_S_hurrySend_21 (by decide) (fun c21 => ?_) (fun c21 => ?_)
      · skip
        exact Z_vret C hN hr d_S_hurrySend_29 rfl (zeq (by apply eC_M; simp [up_eq, rw4_rw4, rw4_self, rw4_id, sHurry, ← Int32.not_le, c6, c13, c21]))
      · skip
        refine Z_aload_n C 1 d_S_hurrySend_24 rfl rfl ?_
        refine Z_iload_n C 0 d_S_hurrySend_25 rfl rfl ?_
        refine C_pS C w (by assumption) (by assumption) 16 (by decide) fl_S_68 rfl rfl rfl rfl rfl d_S_hurrySend_26 ?_
        exact Z_vret C hN hr d_S_hurrySend_29 rfl (zeq (by apply eC_M; simp [up_eq, rw4_rw4, rw4_self, rw4_id, sHurry, ← Int32.not_le, c6, c13, c21]))
set_option maxRecDepth 100000 in
set_option maxHeartbeats 4000000 in
theorem c_S_begin {l : Launch} {G : zG} {V : zV} (w : wC G V) (M : zM) (P : Nat → Nat) (D : Nat × Nat) (i j : Nat) (hi : i < 5) (hj : j < 5) (tx rx m : Int32) : zF l y_S_begin b_S_begin 4 none 3 62 G [.ref (V.1 5 i j), .int tx, .int rx, .int m] (eC V M P D) none (eC V (rw4 M 5 i j (sBegin (M 5 i j) tx rx m)) P D) := by
  refine zF.ofZ (by decide) w.2.2.2.2 (Nat.le_of_ble_eq_true rfl) (fun X hXl hN hr C => ?_)
  subst hXl
  show Z X G (zA G) 4 _ (eC V M P D) 0 [(0, .ref (V.1 5 i j)), (1, .int tx), (2, .int rx), (3, .int m)] []
  refine Z_aload_n C 0 d_S_begin_0 rfl rfl ?_
  refine Z_iconst (v := 1) C d_S_begin_1 (by decide) ?_
  refine C_pS C w (by assumption) (by assumption) 2 (by decide) fl_S_18 rfl rfl rfl rfl rfl d_S_begin_2 ?_
  refine Z_aload_n C 0 d_S_begin_5 rfl rfl ?_
  refine Z_iconst (v := 1) C d_S_begin_6 (by decide) ?_
  refine C_pS C w (by assumption) (by assumption) 3 (by decide) fl_S_22 rfl rfl rfl rfl rfl d_S_begin_7 ?_
  refine Z_aload_n C 0 d_S_begin_10 rfl rfl ?_
  refine Z_iconst (v := 1) C d_S_begin_11 (by decide) ?_
  refine C_pS C w (by assumption) (by assumption) 4 (by decide) fl_S_25 rfl rfl rfl rfl rfl d_S_begin_12 ?_
  refine Z_aload_n C 0 d_S_begin_15 rfl rfl ?_
  refine Z_iconst (v := 0) C d_S_begin_16 (by decide) ?_
  refine C_pS C w (by assumption) (by assumption) 5 (by decide) fl_S_28 rfl rfl rfl rfl rfl d_S_begin_17 ?_
  refine Z_aload_n C 0 d_S_begin_20 rfl rfl ?_
  refine Z_iconst (v := 0) C d_S_begin_21 (by decide) ?_
  refine C_pS C w (by assumption) (by assumption) 6 (by decide) fl_S_31 rfl rfl rfl rfl rfl d_S_begin_22 ?_
  refine Z_aload_n C 0 d_S_begin_25 rfl rfl ?_
  refine Z_iload_n C 1 d_S_begin_26 rfl rfl ?_
  refine C_pS C w (by assumption) (by assumption) 7 (by decide) fl_S_34 rfl rfl rfl rfl rfl d_S_begin_27 ?_
  refine Z_aload_n C 0 d_S_begin_30 rfl rfl ?_
  refine Z_iload_n C 2 d_S_begin_31 rfl rfl ?_
  refine C_pS C w (by assumption) (by assumption) 8 (by decide) fl_S_37 rfl rfl rfl rfl rfl d_S_begin_32 ?_
  refine Z_aload_n C 0 d_S_begin_35 rfl rfl ?_
  refine Z_iload_n C 3 d_S_begin_36 rfl rfl ?_
  refine C_pS C w (by assumption) (by assumption) 9 (by decide) fl_S_40 rfl rfl rfl rfl rfl d_S_begin_37 ?_
  refine Z_aload_n C 0 d_S_begin_40 rfl rfl ?_
  refine Z_iconst (v := 1) C d_S_begin_41 (by decide) ?_
  refine C_pS C w (by assumption) (by assumption) 10 (by decide) fl_S_43 rfl rfl rfl rfl rfl d_S_begin_42 ?_
  refine Z_aload_n C 0 d_S_begin_45 rfl rfl ?_
  refine Z_iconst (v := 0) C d_S_begin_46 (by decide) ?_
  refine C_pS C w (by assumption) (by assumption) 11 (by decide) fl_S_46 rfl rfl rfl rfl rfl d_S_begin_47 ?_
  refine Z_aload_n C 0 d_S_begin_50 rfl rfl ?_
  refine Z_iconst (v := 0) C d_S_begin_51 (by decide) ?_
  refine C_pS C w (by assumption) (by assumption) 12 (by decide) fl_S_49 rfl rfl rfl rfl rfl d_S_begin_52 ?_
  refine Z_aload_n C 0 d_S_begin_55 rfl rfl ?_
  refine Z_iconst (v := 0) C d_S_begin_56 (by decide) ?_
  refine C_pS C w (by assumption) (by assumption) 13 (by decide) fl_S_52 rfl rfl rfl rfl rfl d_S_begin_57 ?_
  refine Z_aload_n C 0 d_S_begin_60 rfl rfl ?_
  refine C_cSn C w (by assumption) (by assumption) mi_S_useRates ml_S_55 (c_S_useRates w _ _ _ _ _ (by assumption) (by assumption)) rfl rfl (by decide) rfl (Nat.le_of_ble_eq_true rfl) d_S_begin_61 ?_
  refine Z_aload_n C 0 d_S_begin_64 rfl rfl ?_
  refine Z_iconst (v := 0) C d_S_begin_65 (by decide) ?_
  refine C_pS C w (by assumption) (by assumption) 17 (by decide) fl_S_58 rfl rfl rfl rfl rfl d_S_begin_66 ?_
  refine Z_aload_n C 0 d_S_begin_69 rfl rfl ?_
  refine Z_iconst (v := 0) C d_S_begin_70 (by decide) ?_
  refine C_pS C w (by assumption) (by assumption) 18 (by decide) fl_S_61 rfl rfl rfl rfl rfl d_S_begin_71 ?_
  refine Z_aload_n C 0 d_S_begin_74 rfl rfl ?_
  refine Z_aload_n C 0 d_S_begin_75 rfl rfl ?_
  refine C_cSv C w (by assumption) (by assumption) mi_S_sendPause ml_S_64 (c_S_sendPause w _ _ _ _ _ (by assumption) (by assumption)) rfl rfl (by decide) rfl (Nat.le_of_ble_eq_true rfl) d_S_begin_76 ?_
  refine C_pS C w (by assumption) (by assumption) 16 (by decide) fl_S_68 rfl rfl rfl rfl rfl d_S_begin_79 ?_
  exact Z_vret C hN hr d_S_begin_82 rfl (zeq (by apply eC_M; simp only [up_eq, rw4_rw4, rw4_self, rw4_id, sBegin, sBegin0]))
set_option maxRecDepth 100000 in
set_option maxHeartbeats 4000000 in
theorem c_S_wantRates {l : Launch} {G : zG} {V : zV} (w : wC G V) (M : zM) (P : Nat → Nat) (D : Nat × Nat) (i j : Nat) (hi : i < 5) (hj : j < 5) (tx rx : Int32) : zF l y_S_wantRates b_S_wantRates 3 none 4 83 G [.ref (V.1 5 i j), .int tx, .int rx] (eC V M P D) none (eC V (rw4 M 5 i j (sWant (M 5 i j) tx rx)) P D) := by
  refine zF.ofZ (by decide) w.2.2.2.2 (Nat.le_of_ble_eq_true rfl) (fun X hXl hN hr C => ?_)
  subst hXl
  show Z X G (zA G) 3 _ (eC V M P D) 0 [(0, .ref (V.1 5 i j)), (1, .int tx), (2, .int rx)] []
  refine Z_aload_n C 0 d_S_wantRates_0 rfl rfl ?_
  refine Z_iload_n C 1 d_S_wantRates_1 rfl rfl ?_
  refine C_pS C w (by assumption) (by assumption) 7 (by decide) fl_S_34 rfl rfl rfl rfl rfl d_S_wantRates_2 ?_
  refine Z_aload_n C 0 d_S_wantRates_5 rfl rfl ?_
  refine Z_iload_n C 2 d_S_wantRates_6 rfl rfl ?_
  refine C_pS C w (by assumption) (by assumption) 8 (by decide) fl_S_37 rfl rfl rfl rfl rfl d_S_wantRates_7 ?_
  refine Z_aload_n C 0 d_S_wantRates_10 rfl rfl ?_
  refine C_gS C w (by assumption) (by assumption) 3 (by decide) fl_S_22 rfl rfl d_S_wantRates_11 ?_
  refine Z_iconst (v := 3) C d_S_wantRates_14 (by decide) ?_
  refine Z_icmp_eq (tgt := 25) C d_S_wantRates_15 (by decide) (fun c15 => ?_) (fun c15 => ?_)
  · simp [up_eq, rw4_rw4, rw4_self, rw4_id, upd] at c15
    refine Z_aload_n C 0 d_S_wantRates_25 rfl rfl ?_
    refine Z_iconst (v := 1) C d_S_wantRates_26 (by decide) ?_
    refine C_pS C w (by assumption) (by assumption) 13 (by decide) fl_S_52 rfl rfl rfl rfl rfl d_S_wantRates_27 ?_
    refine Z_aload_n C 0 d_S_wantRates_30 rfl rfl ?_
    refine Z_aload_n C 0 d_S_wantRates_31 rfl rfl ?_
    refine C_gS C w (by assumption) (by assumption) 14 (by decide) fl_S_71 rfl rfl d_S_wantRates_32 ?_
    refine Z_aload_n C 0 d_S_wantRates_35 rfl rfl ?_
    refine C_gS C w (by assumption) (by assumption) 7 (by decide) fl_S_34 rfl rfl d_S_wantRates_36 ?_
    refine Z_mmin C ml_S_74 mn_s ma_i mn_c ⟨Nat.le_of_ble_eq_true rfl, Nat.le_of_ble_eq_true rfl⟩ d_S_wantRates_39 ?_
    refine C_pS C w (by assumption) (by assumption) 14 (by decide) fl_S_71 rfl rfl rfl rfl rfl d_S_wantRates_42 ?_
    refine Z_aload_n C 0 d_S_wantRates_45 rfl rfl ?_
    refine Z_aload_n C 0 d_S_wantRates_46 rfl rfl ?_
    refine C_gS C w (by assumption) (by assumption) 15 (by decide) fl_S_80 rfl rfl d_S_wantRates_47 ?_
    refine Z_aload_n C 0 d_S_wantRates_50 rfl rfl ?_
    refine C_gS C w (by assumption) (by assumption) 8 (by decide) fl_S_37 rfl rfl d_S_wantRates_51 ?_
    refine Z_mmax C ml_S_83 mx_s ma_i mx_c ⟨Nat.le_of_ble_eq_true rfl, Nat.le_of_ble_eq_true rfl⟩ d_S_wantRates_54 ?_
    refine C_pS C w (by assumption) (by assumption) 15 (by decide) fl_S_80 rfl rfl rfl rfl rfl d_S_wantRates_57 ?_
    refine Z_aload_n C 0 d_S_wantRates_60 rfl rfl ?_
    refine C_cSn C w (by assumption) (by assumption) mi_S_hurrySend ml_S_86 (c_S_hurrySend w _ _ _ _ _ (by assumption) (by assumption)) rfl rfl (by decide) rfl (Nat.le_of_ble_eq_true rfl) d_S_wantRates_61 ?_
    exact Z_vret C hN hr d_S_wantRates_64 rfl (zeq (by apply eC_M; simp only [up_eq, rw4_rw4, rw4_self, rw4_id, sWant]; congr 1; unfold sWant2 sWant1; simp [c15, imn, imx, sUse, upd]))
  · simp [up_eq, rw4_rw4, rw4_self, rw4_id, upd] at c15
    refine Z_aload_n C 0 d_S_wantRates_18 rfl rfl ?_
    refine C_cSn C w (by assumption) (by assumption) mi_S_useRates ml_S_55 (c_S_useRates w _ _ _ _ _ (by assumption) (by assumption)) rfl rfl (by decide) rfl (Nat.le_of_ble_eq_true rfl) d_S_wantRates_19 ?_
    refine Z_goto (tgt := 60) C d_S_wantRates_22 (by decide) ?_
    refine Z_aload_n C 0 d_S_wantRates_60 rfl rfl ?_
    refine C_cSn C w (by assumption) (by assumption) mi_S_hurrySend ml_S_86 (c_S_hurrySend w _ _ _ _ _ (by assumption) (by assumption)) rfl rfl (by decide) rfl (Nat.le_of_ble_eq_true rfl) d_S_wantRates_61 ?_
    exact Z_vret C hN hr d_S_wantRates_64 rfl (zeq (by apply eC_M; simp only [up_eq, rw4_rw4, rw4_self, rw4_id, sWant]; congr 1; unfold sWant2 sWant1; simp [c15, imn, imx, sUse, upd]))
set_option maxRecDepth 100000 in
set_option maxHeartbeats 4000000 in
theorem c_S_shut {l : Launch} {G : zG} {V : zV} (w : wC G V) (M : zM) (P : Nat → Nat) (D : Nat × Nat) (i j : Nat) (hi : i < 5) (hj : j < 5) : zF l y_S_shut b_S_shut 1 none 0 0 G [.ref (V.1 5 i j)] (eC V M P D) none (eC V (rw4 M 5 i j (sShut (M 5 i j))) P D) := by
  refine zF.ofZ (by decide) w.2.2.2.2 (Nat.le_of_ble_eq_true rfl) (fun X hXl hN hr C => ?_)
  subst hXl
  show Z X G (zA G) 1 _ (eC V M P D) 0 [(0, .ref (V.1 5 i j))] []
  refine Z_aload_n C 0 d_S_shut_0 rfl rfl ?_
  refine Z_iconst (v := 0) C d_S_shut_1 (by decide) ?_
  refine C_pS C w (by assumption) (by assumption) 3 (by decide) fl_S_22 rfl rfl rfl rfl rfl d_S_shut_2 ?_
  refine Z_aload_n C 0 d_S_shut_5 rfl rfl ?_
  refine Z_bipush (v := 7) C d_S_shut_6 (by decide) ?_
  refine C_pS C w (by assumption) (by assumption) 6 (by decide) fl_S_31 rfl rfl rfl rfl rfl d_S_shut_8 ?_
  refine Z_aload_n C 0 d_S_shut_11 rfl rfl ?_
  refine Z_iconst (v := 0) C d_S_shut_12 (by decide) ?_
  refine C_pS C w (by assumption) (by assumption) 13 (by decide) fl_S_52 rfl rfl rfl rfl rfl d_S_shut_13 ?_
  exact Z_vret C hN hr d_S_shut_16 rfl (zeq (by apply eC_M; simp only [up_eq, rw4_rw4, rw4_self, rw4_id, sShut]))
set_option maxRecDepth 100000 in
set_option maxHeartbeats 4000000 in
theorem c_S_comeUp {l : Launch} {G : zG} {V : zV} (w : wC G V) (M : zM) (P : Nat → Nat) (D : Nat × Nat) (i j : Nat) (hi : i < 5) (hj : j < 5) : zF l y_S_comeUp b_S_comeUp 1 none 0 0 G [.ref (V.1 5 i j)] (eC V M P D) none (eC V (rw4 M 5 i j (sComeUp (M 5 i j))) P D) := by
  refine zF.ofZ (by decide) w.2.2.2.2 (Nat.le_of_ble_eq_true rfl) (fun X hXl hN hr C => ?_)
  subst hXl
  show Z X G (zA G) 1 _ (eC V M P D) 0 [(0, .ref (V.1 5 i j))] []
  refine Z_aload_n C 0 d_S_comeUp_0 rfl rfl ?_
  refine Z_iconst (v := 3) C d_S_comeUp_1 (by decide) ?_
  refine C_pS C w (by assumption) (by assumption) 3 (by decide) fl_S_22 rfl rfl rfl rfl rfl d_S_comeUp_2 ?_
  refine Z_aload_n C 0 d_S_comeUp_5 rfl rfl ?_
  refine Z_dup C d_S_comeUp_6 rfl ?_
  refine C_gS C w (by assumption) (by assumption) 18 (by decide) fl_S_61 rfl rfl d_S_comeUp_7 ?_
  refine Z_iconst (v := 1) C d_S_comeUp_10 (by decide) ?_
  refine Z_iadd C d_S_comeUp_11 ?_
  refine C_pS C w (by assumption) (by assumption) 18 (by decide) fl_S_61 rfl rfl rfl rfl rfl d_S_comeUp_12 ?_
  exact Z_vret C hN hr d_S_comeUp_15 rfl (zeq (by apply eC_M; simp only [up_eq, rw4_rw4, rw4_self, rw4_id, sComeUp]; rfl))
set_option maxRecDepth 100000 in
set_option maxHeartbeats 4000000 in
theorem c_S_fall {l : Launch} {G : zG} {V : zV} (w : wC G V) (M : zM) (P : Nat → Nat) (D : Nat × Nat) (i j : Nat) (hi : i < 5) (hj : j < 5) (why : Int32) : zF l y_S_fall b_S_fall 2 none 0 0 G [.ref (V.1 5 i j), .int why] (eC V M P D) none (eC V (rw4 M 5 i j (sFall (M 5 i j) why)) P D) := by
  refine zF.ofZ (by decide) w.2.2.2.2 (Nat.le_of_ble_eq_true rfl) (fun X hXl hN hr C => ?_)
  subst hXl
  show Z X G (zA G) 2 _ (eC V M P D) 0 [(0, .ref (V.1 5 i j)), (1, .int why)] []
  refine Z_aload_n C 0 d_S_fall_0 rfl rfl ?_
  refine C_gS C w (by assumption) (by assumption) 3 (by decide) fl_S_22 rfl rfl d_S_fall_1 ?_
  refine Z_iconst (v := 2) C d_S_fall_4 (by decide) ?_
  refine Z_icmp_eq (tgt := 16) C d_S_fall_5 (by decide) (fun c5 => ?_) (fun c5 => ?_)
  · skip
    refine Z_aload_n C 0 d_S_fall_16 rfl rfl ?_
    refine Z_iload_n C 1 d_S_fall_17 rfl rfl ?_
    refine C_pS C w (by assumption) (by assumption) 6 (by decide) fl_S_31 rfl rfl rfl rfl rfl d_S_fall_18 ?_
    refine Z_aload_n C 0 d_S_fall_21 rfl rfl ?_
    refine Z_iconst (v := 1) C d_S_fall_22 (by decide) ?_
    refine C_pS C w (by assumption) (by assumption) 3 (by decide) fl_S_22 rfl rfl rfl rfl rfl d_S_fall_23 ?_
    exact Z_vret C hN hr d_S_fall_26 rfl (zeq (by apply eC_M; simp [up_eq, rw4_rw4, rw4_self, rw4_id, sFall, c5]))
  · skip
    refine Z_aload_n C 0 d_S_fall_8 rfl rfl ?_
    refine C_gS C w (by assumption) (by assumption) 3 (by decide) fl_S_22 rfl rfl d_S_fall_9 ?_
    refine Z_iconst (v := 3) C d_S_fall_12 (by decide) ?_
    refine Z_icmp_ne (tgt := 26) C d_S_fall_13 (by decide) (fun c13 => ?_) (fun c13 => ?_)
    · skip
      exact Z_vret C hN hr d_S_fall_26 rfl (zeq (by apply eC_M; simp [up_eq, rw4_rw4, rw4_self, rw4_id, sFall, c5, c13]))
    · skip
      refine Z_aload_n C 0 d_S_fall_16 rfl rfl ?_
      refine Z_iload_n C 1 d_S_fall_17 rfl rfl ?_
      refine C_pS C w (by assumption) (by assumption) 6 (by decide) fl_S_31 rfl rfl rfl rfl rfl d_S_fall_18 ?_
      refine Z_aload_n C 0 d_S_fall_21 rfl rfl ?_
      refine Z_iconst (v := 1) C d_S_fall_22 (by decide) ?_
      refine C_pS C w (by assumption) (by assumption) 3 (by decide) fl_S_22 rfl rfl rfl rfl rfl d_S_fall_23 ?_
      exact Z_vret C hN hr d_S_fall_26 rfl (zeq (by apply eC_M; simp [up_eq, rw4_rw4, rw4_self, rw4_id, sFall, c5, c13]))
set_option maxRecDepth 100000 in
set_option maxHeartbeats 4000000 in
theorem c_S_follow {l : Launch} {G : zG} {V : zV} (w : wC G V) (M : zM) (P : Nat → Nat) (D : Nat × Nat) (i j : Nat) (hi : i < 5) (hj : j < 5) : zF l y_S_follow b_S_follow 1 none 1 21 G [.ref (V.1 5 i j)] (eC V M P D) none (eC V (rw4 M 5 i j (sFollow (M 5 i j))) P D) := by
  refine zF.ofZ (by decide) w.2.2.2.2 (Nat.le_of_ble_eq_true rfl) (fun X hXl hN hr C => ?_)
  subst hXl
  show Z X G (zA G) 1 _ (eC V M P D) 0 [(0, .ref (V.1 5 i j))] []
  refine Z_aload_n C 0 d_S_follow_0 rfl rfl ?_
  refine C_gS C w (by assumption) (by assumption) 3 (by decide) fl_S_22 rfl rfl d_S_follow_1 ?_
  refine Z_if_ne (tgt := 8) C d_S_follow_4 (by decide) (fun c4 => ?_) (fun c4 => ?_)
  · skip
    refine Z_aload_n C 0 d_S_follow_8 rfl rfl ?_
    refine C_gS C w (by assumption) (by assumption) 4 (by decide) fl_S_25 rfl rfl d_S_follow_9 ?_
    refine Z_if_ne (tgt := 23) C d_S_follow_12 (by decide) (fun c12 => ?_) (fun c12 => ?_)
    · skip
      refine Z_aload_n C 0 d_S_follow_23 rfl rfl ?_
      refine C_gS C w (by assumption) (by assumption) 3 (by decide) fl_S_22 rfl rfl d_S_follow_24 ?_
      refine Z_iconst (v := 1) C d_S_follow_27 (by decide) ?_
      refine Z_icmp_ne (tgt := 62) C d_S_follow_28 (by decide) (fun c28 => ?_) (fun c28 => ?_)
      · skip
        refine Z_aload_n C 0 d_S_follow_62 rfl rfl ?_
        refine C_gS C w (by assumption) (by assumption) 3 (by decide) fl_S_22 rfl rfl d_S_follow_63 ?_
        refine Z_iconst (v := 2) C d_S_follow_66 (by decide) ?_
        refine Z_icmp_ne (tgt := 85) C d_S_follow_67 (by decide) (fun c67 => ?_) (fun c67 => ?_)
        · skip
          refine Z_aload_n C 0 d_S_follow_85 rfl rfl ?_
          refine C_gS C w (by assumption) (by assumption) 4 (by decide) fl_S_25 rfl rfl d_S_follow_86 ?_
          refine Z_iconst (v := 1) C d_S_follow_89 (by decide) ?_
          refine Z_icmp_ne (tgt := 98) C d_S_follow_90 (by decide) (fun c90 => ?_) (fun c90 => ?_)
          · skip
            exact Z_vret C hN hr d_S_follow_98 rfl (zeq (by apply eC_M; simp [up_eq, rw4_rw4, rw4_self, rw4_id, sFollow, c4, c12, c28, c67, c90]))
          · skip
            refine Z_aload_n C 0 d_S_follow_93 rfl rfl ?_
            refine Z_iconst (v := 3) C d_S_follow_94 (by decide) ?_
            refine C_cSn C w (by assumption) (by assumption) mi_S_fall ml_S_109 (c_S_fall w _ _ _ _ _ (by assumption) (by assumption) _) rfl rfl (by decide) rfl (Nat.le_of_ble_eq_true rfl) d_S_follow_95 ?_
            exact Z_vret C hN hr d_S_follow_98 rfl (zeq (by apply eC_M; simp [up_eq, rw4_rw4, rw4_self, rw4_id, sFollow, c4, c12, c28, c67, c90]))
        · skip
          refine Z_aload_n C 0 d_S_follow_70 rfl rfl ?_
          refine C_gS C w (by assumption) (by assumption) 4 (by decide) fl_S_25 rfl rfl d_S_follow_71 ?_
          refine Z_iconst (v := 1) C d_S_follow_74 (by decide) ?_
          refine Z_icmp_eq (tgt := 98) C d_S_follow_75 (by decide) (fun c75 => ?_) (fun c75 => ?_)
          · skip
            exact Z_vret C hN hr d_S_follow_98 rfl (zeq (by apply eC_M; simp [up_eq, rw4_rw4, rw4_self, rw4_id, sFollow, c4, c12, c28, c67, c75]))
          · skip
            refine Z_aload_n C 0 d_S_follow_78 rfl rfl ?_
            refine C_cSn C w (by assumption) (by assumption) mi_S_comeUp ml_S_113 (c_S_comeUp w _ _ _ _ _ (by assumption) (by assumption)) rfl rfl (by decide) rfl (Nat.le_of_ble_eq_true rfl) d_S_follow_79 ?_
            refine Z_goto (tgt := 98) C d_S_follow_82 (by decide) ?_
            exact Z_vret C hN hr d_S_follow_98 rfl (zeq (by apply eC_M; simp [up_eq, rw4_rw4, rw4_self, rw4_id, sFollow, c4, c12, c28, c67, c75]))
      · skip
        refine Z_aload_n C 0 d_S_follow_31 rfl rfl ?_
        refine C_gS C w (by assumption) (by assumption) 4 (by decide) fl_S_25 rfl rfl d_S_follow_32 ?_
        refine Z_iconst (v := 1) C d_S_follow_35 (by decide) ?_
        refine Z_icmp_ne (tgt := 47) C d_S_follow_36 (by decide) (fun c36 => ?_) (fun c36 => ?_)
        · skip
          refine Z_aload_n C 0 d_S_follow_47 rfl rfl ?_
          refine C_gS C w (by assumption) (by assumption) 4 (by decide) fl_S_25 rfl rfl d_S_follow_48 ?_
          refine Z_iconst (v := 2) C d_S_follow_51 (by decide) ?_
          refine Z_icmp_ne (tgt := 98) C d_S_follow_52 (by decide) (fun c52 => ?_) (fun c52 => ?_)
          · skip
            exact Z_vret C hN hr d_S_follow_98 rfl (zeq (by apply eC_M; simp [up_eq, rw4_rw4, rw4_self, rw4_id, sFollow, c4, c12, c28, c36, c52]))
          · skip
            refine Z_aload_n C 0 d_S_follow_55 rfl rfl ?_
            refine C_cSn C w (by assumption) (by assumption) mi_S_comeUp ml_S_113 (c_S_comeUp w _ _ _ _ _ (by assumption) (by assumption)) rfl rfl (by decide) rfl (Nat.le_of_ble_eq_true rfl) d_S_follow_56 ?_
            refine Z_goto (tgt := 98) C d_S_follow_59 (by decide) ?_
            exact Z_vret C hN hr d_S_follow_98 rfl (zeq (by apply eC_M; simp [up_eq, rw4_rw4, rw4_self, rw4_id, sFollow, c4, c12, c28, c36, c52]))
        · skip
          refine Z_aload_n C 0 d_S_follow_39 rfl rfl ?_
          refine Z_iconst (v := 2) C d_S_follow_40 (by decide) ?_
          refine C_pS C w (by assumption) (by assumption) 3 (by decide) fl_S_22 rfl rfl rfl rfl rfl d_S_follow_41 ?_
          refine Z_goto (tgt := 98) C d_S_follow_44 (by decide) ?_
          exact Z_vret C hN hr d_S_follow_98 rfl (zeq (by apply eC_M; simp [up_eq, rw4_rw4, rw4_self, rw4_id, sFollow, c4, c12, c28, c36]))
    · skip
      refine Z_aload_n C 0 d_S_follow_15 rfl rfl ?_
      refine Z_iconst (v := 3) C d_S_follow_16 (by decide) ?_
      refine C_cSn C w (by assumption) (by assumption) mi_S_fall ml_S_109 (c_S_fall w _ _ _ _ _ (by assumption) (by assumption) _) rfl rfl (by decide) rfl (Nat.le_of_ble_eq_true rfl) d_S_follow_17 ?_
      refine Z_goto (tgt := 98) C d_S_follow_20 (by decide) ?_
      exact Z_vret C hN hr d_S_follow_98 rfl (zeq (by apply eC_M; simp [up_eq, rw4_rw4, rw4_self, rw4_id, sFollow, c4, c12]))
  · skip
    exact Z_vret C hN hr d_S_follow_7 rfl (zeq (by apply eC_M; simp [up_eq, rw4_rw4, rw4_self, rw4_id, sFollow, c4]))
set_option maxRecDepth 100000 in
set_option maxHeartbeats 4000000 in
theorem c_S_runDetect {l : Launch} {G : zG} {V : zV} (w : wC G V) (M : zM) (P : Nat → Nat) (D : Nat × Nat) (i j : Nat) (hi : i < 5) (hj : j < 5) : zF l y_S_runDetect b_S_runDetect 1 none 1 21 G [.ref (V.1 5 i j)] (eC V M P D) none (eC V (rw4 M 5 i j (sDetect (M 5 i j))) P D) := by
  refine zF.ofZ (by decide) w.2.2.2.2 (Nat.le_of_ble_eq_true rfl) (fun X hXl hN hr C => ?_)
  subst hXl
  show Z X G (zA G) 1 _ (eC V M P D) 0 [(0, .ref (V.1 5 i j))] []
  refine Z_aload_n C 0 d_S_runDetect_0 rfl rfl ?_
  refine C_gS C w (by assumption) (by assumption) 17 (by decide) fl_S_58 rfl rfl d_S_runDetect_1 ?_
  refine Z_if_le (tgt := 34) C d_S_runDetect_4 (by decide) (fun c4 => ?_) (fun c4 => ?_)
  · try simp [up_eq, rw4_rw4, rw4_self, rw4_id, upd] at c4
    exact Z_vret C hN hr d_S_runDetect_34 rfl (zeq (by apply eC_M; simp [up_eq, rw4_rw4, rw4_self, rw4_id, sDetect, ← Int32.not_le, c4]))
  · try simp [up_eq, rw4_rw4, rw4_self, rw4_id, upd] at c4
    refine Z_aload_n C 0 d_S_runDetect_7 rfl rfl ?_
    refine Z_dup C d_S_runDetect_8 rfl ?_
    refine C_gS C w (by assumption) (by assumption) 17 (by decide) fl_S_58 rfl rfl d_S_runDetect_9 ?_
    refine Z_iconst (v := 1) C d_S_runDetect_12 (by decide) ?_
    refine Z_isub C d_S_runDetect_13 ?_
    refine C_pS C w (by assumption) (by assumption) 17 (by decide) fl_S_58 rfl rfl rfl rfl rfl d_S_runDetect_14 ?_
    refine Z_aload_n C 0 d_S_runDetect_17 rfl rfl ?_
    refine C_gS C w (by assumption) (by assumption) 17 (by decide) fl_S_58 rfl rfl d_S_runDetect_18 ?_
    refine Z_if_ne (tgt := 34) C d_S_runDetect_21 (by decide) (fun c21 => ?_) (fun c21 => ?_)
    · try simp [up_eq, rw4_rw4, rw4_self, rw4_id, upd] at c21
      exact Z_vret C hN hr d_S_runDetect_34 rfl (zeq (by apply eC_M; simp [up_eq, rw4_rw4, rw4_self, rw4_id, sDetect, ← Int32.not_le, c4, c21]))
    · try simp [up_eq, rw4_rw4, rw4_self, rw4_id, upd] at c21
      refine Z_aload_n C 0 d_S_runDetect_24 rfl rfl ?_
      refine Z_iconst (v := 0) C d_S_runDetect_25 (by decide) ?_
      refine C_pS C w (by assumption) (by assumption) 5 (by decide) fl_S_28 rfl rfl rfl rfl rfl d_S_runDetect_26 ?_
      refine Z_aload_n C 0 d_S_runDetect_29 rfl rfl ?_
      refine Z_iconst (v := 1) C d_S_runDetect_30 (by decide) ?_
      refine C_cSn C w (by assumption) (by assumption) mi_S_fall ml_S_109 (c_S_fall w _ _ _ _ _ (by assumption) (by assumption) _) rfl rfl (by decide) rfl (Nat.le_of_ble_eq_true rfl) d_S_runDetect_31 ?_
      exact Z_vret C hN hr d_S_runDetect_34 rfl (zeq (by apply eC_M; simp [up_eq, rw4_rw4, rw4_self, rw4_id, sDetect, ← Int32.not_le, c4, c21]))
set_option maxRecDepth 100000 in
set_option maxHeartbeats 4000000 in
theorem c_S_sendFires {l : Launch} {G : zG} {V : zV} (w : wC G V) (M : zM) (P : Nat → Nat) (D : Nat × Nat) (i j : Nat) (hi : i < 5) (hj : j < 5) : zF l y_S_sendFires b_S_sendFires 1 (some .boolean) 0 0 G [.ref (V.1 5 i j)] (eC V M P D) (some (.int (sFired (M 5 i j)))) (eC V (rw4 M 5 i j (sFires (M 5 i j))) P D) := by
  refine zF.ofZ (by decide) w.2.2.2.2 (Nat.le_of_ble_eq_true rfl) (fun X hXl hN hr C => ?_)
  subst hXl
  show Z X G (zA G) 1 _ (eC V M P D) 0 [(0, .ref (V.1 5 i j))] []
  refine Z_aload_n C 0 d_S_sendFires_0 rfl rfl ?_
  refine C_gS C w (by assumption) (by assumption) 16 (by decide) fl_S_68 rfl rfl d_S_sendFires_1 ?_
  refine Z_if_le (tgt := 30) C d_S_sendFires_4 (by decide) (fun c4 => ?_) (fun c4 => ?_)
  · try simp [up_eq, rw4_rw4, rw4_self, rw4_id, upd] at c4
    refine Z_iconst (v := 0) C d_S_sendFires_30 (by decide) ?_
    exact Z_zret C hN hr (by decide) d_S_sendFires_31 (by simp [sFired, ← Int32.not_le, c4]) (zeq (by apply eC_M; simp [up_eq, rw4_rw4, rw4_self, rw4_id, sFires, ← Int32.not_le, c4]))
  · try simp [up_eq, rw4_rw4, rw4_self, rw4_id, upd] at c4
    refine Z_aload_n C 0 d_S_sendFires_7 rfl rfl ?_
    refine Z_dup C d_S_sendFires_8 rfl ?_
    refine C_gS C w (by assumption) (by assumption) 16 (by decide) fl_S_68 rfl rfl d_S_sendFires_9 ?_
    refine Z_iconst (v := 1) C d_S_sendFires_12 (by decide) ?_
    refine Z_isub C d_S_sendFires_13 ?_
    refine C_pS C w (by assumption) (by assumption) 16 (by decide) fl_S_68 rfl rfl rfl rfl rfl d_S_sendFires_14 ?_
    refine Z_aload_n C 0 d_S_sendFires_17 rfl rfl ?_
    refine C_gS C w (by assumption) (by assumption) 16 (by decide) fl_S_68 rfl rfl d_S_sendFires_18 ?_
    refine Z_if_ne (tgt := 28) C d_S_sendFires_21 (by decide) (fun c21 => ?_) (fun c21 => ?_)
    · try simp [up_eq, rw4_rw4, rw4_self, rw4_id, upd] at c21
      refine Z_iconst (v := 0) C d_S_sendFires_28 (by decide) ?_
      exact Z_zret C hN hr (by decide) d_S_sendFires_29 (by simp [sFired, ← Int32.not_le, c4, c21]) (zeq (by apply eC_M; simp [up_eq, rw4_rw4, rw4_self, rw4_id, sFires, ← Int32.not_le, c4, c21]))
    · try simp [up_eq, rw4_rw4, rw4_self, rw4_id, upd] at c21
      refine Z_iconst (v := 1) C d_S_sendFires_24 (by decide) ?_
      refine Z_goto (tgt := 29) C d_S_sendFires_25 (by decide) ?_
      exact Z_zret C hN hr (by decide) d_S_sendFires_29 (by simp [sFired, ← Int32.not_le, c4, c21]) (zeq (by apply eC_M; simp [up_eq, rw4_rw4, rw4_self, rw4_id, sFires, ← Int32.not_le, c4, c21]))
end
section
/-! frames: their bytes -/
def fByte (q b : Nat → Int32) (x : Int32) : Int32 := if x < 0 then -1 else if q 1 ≤ x then -1 else if 40 ≤ x then -1 else b x.toNatClampNeg
def fTwo (q b : Nat → Int32) (x : Int32) : Int32 := fByte q b x <<< ((8 : Int32) &&& 31) ||| fByte q b (x + 1)
def fFour (q b : Nat → Int32) (x : Int32) : Int32 := fByte q b x <<< ((24 : Int32) &&& 31) ||| fByte q b (x + 1) <<< ((16 : Int32) &&& 31) ||| fByte q b (x + 2) <<< ((8 : Int32) &&& 31) ||| fByte q b (x + 3)
abbrev ush (x : Int32) (n : Int32) : Int32 := (x.toUInt32 >>> (n.toUInt32 &&& Int32.toUInt32 31)).toInt32
/-- a byte is put behind the frame's bytes -/
def fPut (M : zM) (k : Nat) (v : Int32) : zM := if M 9 k 0 1 < 0 then M else if 40 ≤ M 9 k 0 1 then M else up (up M 10 k 0 (M 9 k 0 1).toNatClampNeg (v &&& 255)) 9 k 0 1 (M 9 k 0 1 + 1)
def fPut2 (M : zM) (k : Nat) (v : Int32) : zM := fPut (fPut M k (ush v 8)) k v
def fPut4 (M : zM) (k : Nat) (v : Int32) : zM := fPut (fPut (fPut (fPut M k (ush v 24)) k (ush v 16)) k (ush v 8)) k v
set_option maxRecDepth 100000 in
set_option maxHeartbeats 4000000 in
theorem c_F_byteAt {l : Launch} {G : zG} {V : zV} (w : wC G V) (M : zM) (P : Nat → Nat) (D : Nat × Nat) (k : Nat) (hk : k < 63) (x : Int32) : zF l y_F_byteAt b_F_byteAt 2 (some .int) 0 0 G [.ref (V.1 9 k 0), .int x] (eC V M P D) (some (.int (fByte (M 9 k 0) (M 10 k 0) x))) (eC V M P D) := by
  refine zF.ofZ (by decide) w.2.2.2.2 (Nat.le_of_ble_eq_true rfl) (fun X hXl hN hr C => ?_)
  subst hXl
  show Z X G (zA G) 2 _ (eC V M P D) 0 [(0, .ref (V.1 9 k 0)), (1, .int x)] []
  refine Z_iload_n C 1 d_F_byteAt_0 rfl rfl ?_
  refine Z_if_lt (tgt := 30) C d_F_byteAt_1 (by decide) (fun c1 => ?_) (fun c1 => ?_)
  · skip
    refine Z_iconst (v := (-1)) C d_F_byteAt_30 (by decide) ?_
    exact Z_iret C hN hr d_F_byteAt_31 (by simp [fByte, c1]) (zeq (rfl))
  · skip
    refine Z_iload_n C 1 d_F_byteAt_4 rfl rfl ?_
    refine Z_aload_n C 0 d_F_byteAt_5 rfl rfl ?_
    refine C_gF C w (by assumption) 1 (by decide) fl_F_15 rfl rfl d_F_byteAt_6 ?_
    refine Z_icmp_ge (tgt := 30) C d_F_byteAt_9 (by decide) (fun c9 => ?_) (fun c9 => ?_)
    · skip
      refine Z_iconst (v := (-1)) C d_F_byteAt_30 (by decide) ?_
      exact Z_iret C hN hr d_F_byteAt_31 (by simp [fByte, c1, c9]) (zeq (rfl))
    · skip
      refine Z_iload_n C 1 d_F_byteAt_12 rfl rfl ?_
      refine Z_aload_n C 0 d_F_byteAt_13 rfl rfl ?_
      refine C_gF C w (by assumption) 0 (by decide) fl_F_9 rfl rfl d_F_byteAt_14 ?_
      refine C_lenB C w (by assumption) d_F_byteAt_17 ?_
      refine Z_icmp_ge (tgt := 30) C d_F_byteAt_18 (by decide) (fun c18 => ?_) (fun c18 => ?_)
      · skip
        refine Z_iconst (v := (-1)) C d_F_byteAt_30 (by decide) ?_
        exact Z_iret C hN hr d_F_byteAt_31 (by simp [fByte, c1, c9, c18]) (zeq (rfl))
      · skip
        refine Z_aload_n C 0 d_F_byteAt_21 rfl rfl ?_
        refine C_gF C w (by assumption) 0 (by decide) fl_F_9 rfl rfl d_F_byteAt_22 ?_
        refine Z_iload_n C 1 d_F_byteAt_25 rfl rfl ?_
        refine C_ldB C w (by assumption) _ rfl (vp_inc c1 c18 rfl) d_F_byteAt_26 ?_
        refine Z_goto (tgt := 31) C d_F_byteAt_27 (by decide) ?_
        exact Z_iret C hN hr d_F_byteAt_31 (by simp [fByte, c1, c9, c18]) (zeq (rfl))
set_option maxRecDepth 100000 in
set_option maxHeartbeats 4000000 in
theorem c_F_twoAt {l : Launch} {G : zG} {V : zV} (w : wC G V) (M : zM) (P : Nat → Nat) (D : Nat × Nat) (k : Nat) (hk : k < 63) (x : Int32) : zF l y_F_twoAt b_F_twoAt 2 (some .int) 1 21 G [.ref (V.1 9 k 0), .int x] (eC V M P D) (some (.int (fTwo (M 9 k 0) (M 10 k 0) x))) (eC V M P D) := by
  refine zF.ofZ (by decide) w.2.2.2.2 (Nat.le_of_ble_eq_true rfl) (fun X hXl hN hr C => ?_)
  subst hXl
  show Z X G (zA G) 2 _ (eC V M P D) 0 [(0, .ref (V.1 9 k 0)), (1, .int x)] []
  refine Z_aload_n C 0 d_F_twoAt_0 rfl rfl ?_
  refine Z_iload_n C 1 d_F_twoAt_1 rfl rfl ?_
  refine C_cFv C w (by assumption) mi_F_byteAt ml_F_23 (c_F_byteAt w _ _ _ _ (by assumption) _) rfl rfl (by decide) rfl (Nat.le_of_ble_eq_true rfl) d_F_twoAt_2 ?_
  refine Z_bipush (v := 8) C d_F_twoAt_5 (by decide) ?_
  refine Z_ishl C d_F_twoAt_7 ?_
  refine Z_aload_n C 0 d_F_twoAt_8 rfl rfl ?_
  refine Z_iload_n C 1 d_F_twoAt_9 rfl rfl ?_
  refine Z_iconst (v := 1) C d_F_twoAt_10 (by decide) ?_
  refine Z_iadd C d_F_twoAt_11 ?_
  refine C_cFv C w (by assumption) mi_F_byteAt ml_F_23 (c_F_byteAt w _ _ _ _ (by assumption) _) rfl rfl (by decide) rfl (Nat.le_of_ble_eq_true rfl) d_F_twoAt_12 ?_
  refine Z_ior C d_F_twoAt_15 ?_
  exact Z_iret C hN hr d_F_twoAt_16 (rfl) (zeq (rfl))
set_option maxRecDepth 100000 in
set_option maxHeartbeats 4000000 in
theorem c_F_fourAt {l : Launch} {G : zG} {V : zV} (w : wC G V) (M : zM) (P : Nat → Nat) (D : Nat × Nat) (k : Nat) (hk : k < 63) (x : Int32) : zF l y_F_fourAt b_F_fourAt 2 (some .int) 1 21 G [.ref (V.1 9 k 0), .int x] (eC V M P D) (some (.int (fFour (M 9 k 0) (M 10 k 0) x))) (eC V M P D) := by
  refine zF.ofZ (by decide) w.2.2.2.2 (Nat.le_of_ble_eq_true rfl) (fun X hXl hN hr C => ?_)
  subst hXl
  show Z X G (zA G) 2 _ (eC V M P D) 0 [(0, .ref (V.1 9 k 0)), (1, .int x)] []
  refine Z_aload_n C 0 d_F_fourAt_0 rfl rfl ?_
  refine Z_iload_n C 1 d_F_fourAt_1 rfl rfl ?_
  refine C_cFv C w (by assumption) mi_F_byteAt ml_F_23 (c_F_byteAt w _ _ _ _ (by assumption) _) rfl rfl (by decide) rfl (Nat.le_of_ble_eq_true rfl) d_F_fourAt_2 ?_
  refine Z_bipush (v := 24) C d_F_fourAt_5 (by decide) ?_
  refine Z_ishl C d_F_fourAt_7 ?_
  refine Z_aload_n C 0 d_F_fourAt_8 rfl rfl ?_
  refine Z_iload_n C 1 d_F_fourAt_9 rfl rfl ?_
  refine Z_iconst (v := 1) C d_F_fourAt_10 (by decide) ?_
  refine Z_iadd C d_F_fourAt_11 ?_
  refine C_cFv C w (by assumption) mi_F_byteAt ml_F_23 (c_F_byteAt w _ _ _ _ (by assumption) _) rfl rfl (by decide) rfl (Nat.le_of_ble_eq_true rfl) d_F_fourAt_12 ?_
  refine Z_bipush (v := 16) C d_F_fourAt_15 (by decide) ?_
  refine Z_ishl C d_F_fourAt_17 ?_
  refine Z_ior C d_F_fourAt_18 ?_
  refine Z_aload_n C 0 d_F_fourAt_19 rfl rfl ?_
  refine Z_iload_n C 1 d_F_fourAt_20 rfl rfl ?_
  refine Z_iconst (v := 2) C d_F_fourAt_21 (by decide) ?_
  refine Z_iadd C d_F_fourAt_22 ?_
  refine C_cFv C w (by assumption) mi_F_byteAt ml_F_23 (c_F_byteAt w _ _ _ _ (by assumption) _) rfl rfl (by decide) rfl (Nat.le_of_ble_eq_true rfl) d_F_fourAt_23 ?_
  refine Z_bipush (v := 8) C d_F_fourAt_26 (by decide) ?_
  refine Z_ishl C d_F_fourAt_28 ?_
  refine Z_ior C d_F_fourAt_29 ?_
  refine Z_aload_n C 0 d_F_fourAt_30 rfl rfl ?_
  refine Z_iload_n C 1 d_F_fourAt_31 rfl rfl ?_
  refine Z_iconst (v := 3) C d_F_fourAt_32 (by decide) ?_
  refine Z_iadd C d_F_fourAt_33 ?_
  refine C_cFv C w (by assumption) mi_F_byteAt ml_F_23 (c_F_byteAt w _ _ _ _ (by assumption) _) rfl rfl (by decide) rfl (Nat.le_of_ble_eq_true rfl) d_F_fourAt_34 ?_
  refine Z_ior C d_F_fourAt_37 ?_
  exact Z_iret C hN hr d_F_fourAt_38 (rfl) (zeq (rfl))
set_option maxRecDepth 100000 in
set_option maxHeartbeats 4000000 in
theorem c_F_put {l : Launch} {G : zG} {V : zV} (w : wC G V) (M : zM) (P : Nat → Nat) (D : Nat × Nat) (k : Nat) (hk : k < 63) (v : Int32) : zF l y_F_put b_F_put 2 none 0 0 G [.ref (V.1 9 k 0), .int v] (eC V M P D) none (eC V (fPut M k v) P D) := by
  refine zF.ofZ (by decide) w.2.2.2.2 (Nat.le_of_ble_eq_true rfl) (fun X hXl hN hr C => ?_)
  subst hXl
  show Z X G (zA G) 2 _ (eC V M P D) 0 [(0, .ref (V.1 9 k 0)), (1, .int v)] []
  refine Z_aload_n C 0 d_F_put_0 rfl rfl ?_
  refine C_gF C w (by assumption) 1 (by decide) fl_F_15 rfl rfl d_F_put_1 ?_
  refine Z_if_lt (tgt := 43) C d_F_put_4 (by decide) (fun c4 => ?_) (fun c4 => ?_)
  · skip
    exact Z_vret C hN hr d_F_put_43 rfl (zeq (by apply eC_M; simp [fPut, c4]; try rfl))
  · skip
    refine Z_aload_n C 0 d_F_put_7 rfl rfl ?_
    refine C_gF C w (by assumption) 1 (by decide) fl_F_15 rfl rfl d_F_put_8 ?_
    refine Z_aload_n C 0 d_F_put_11 rfl rfl ?_
    refine C_gF C w (by assumption) 0 (by decide) fl_F_9 rfl rfl d_F_put_12 ?_
    refine C_lenB C w (by assumption) d_F_put_15 ?_
    refine Z_icmp_ge (tgt := 43) C d_F_put_16 (by decide) (fun c16 => ?_) (fun c16 => ?_)
    · skip
      exact Z_vret C hN hr d_F_put_43 rfl (zeq (by apply eC_M; simp [fPut, c4, c16]; try rfl))
    · skip
      refine Z_aload_n C 0 d_F_put_19 rfl rfl ?_
      refine C_gF C w (by assumption) 0 (by decide) fl_F_9 rfl rfl d_F_put_20 ?_
      refine Z_aload_n C 0 d_F_put_23 rfl rfl ?_
      refine C_gF C w (by assumption) 1 (by decide) fl_F_15 rfl rfl d_F_put_24 ?_
      refine Z_iload_n C 1 d_F_put_27 rfl rfl ?_
      refine Z_sipush (v := 255) C d_F_put_28 (by decide) ?_
      refine Z_iand C d_F_put_31 ?_
      refine C_stB C w (by assumption) _ rfl (vp_inc c4 c16 rfl) d_F_put_32 ?_
      refine Z_aload_n C 0 d_F_put_33 rfl rfl ?_
      refine Z_dup C d_F_put_34 rfl ?_
      refine C_gF C w (by assumption) 1 (by decide) fl_F_15 rfl rfl d_F_put_35 ?_
      refine Z_iconst (v := 1) C d_F_put_38 (by decide) ?_
      refine Z_iadd C d_F_put_39 ?_
      refine C_pF C w (by assumption) 1 (by decide) fl_F_15 rfl rfl rfl rfl rfl d_F_put_40 ?_
      exact Z_vret C hN hr d_F_put_43 rfl (zeq (by apply eC_M; simp [fPut, c4, c16]; try rfl))
set_option maxRecDepth 100000 in
set_option maxHeartbeats 4000000 in
theorem c_F_putTwo {l : Launch} {G : zG} {V : zV} (w : wC G V) (M : zM) (P : Nat → Nat) (D : Nat × Nat) (k : Nat) (hk : k < 63) (v : Int32) : zF l y_F_putTwo b_F_putTwo 2 none 1 21 G [.ref (V.1 9 k 0), .int v] (eC V M P D) none (eC V (fPut2 M k v) P D) := by
  refine zF.ofZ (by decide) w.2.2.2.2 (Nat.le_of_ble_eq_true rfl) (fun X hXl hN hr C => ?_)
  subst hXl
  show Z X G (zA G) 2 _ (eC V M P D) 0 [(0, .ref (V.1 9 k 0)), (1, .int v)] []
  refine Z_aload_n C 0 d_F_putTwo_0 rfl rfl ?_
  refine Z_iload_n C 1 d_F_putTwo_1 rfl rfl ?_
  refine Z_bipush (v := 8) C d_F_putTwo_2 (by decide) ?_
  refine Z_iushr C d_F_putTwo_4 ?_
  refine C_cFn C w (by assumption) mi_F_put ml_F_19 (c_F_put w _ _ _ _ (by assumption) _) rfl rfl (by decide) rfl (Nat.le_of_ble_eq_true rfl) d_F_putTwo_5 ?_
  refine Z_aload_n C 0 d_F_putTwo_8 rfl rfl ?_
  refine Z_iload_n C 1 d_F_putTwo_9 rfl rfl ?_
  refine C_cFn C w (by assumption) mi_F_put ml_F_19 (c_F_put w _ _ _ _ (by assumption) _) rfl rfl (by decide) rfl (Nat.le_of_ble_eq_true rfl) d_F_putTwo_10 ?_
  exact Z_vret C hN hr d_F_putTwo_13 rfl (zeq (rfl))
set_option maxRecDepth 100000 in
set_option maxHeartbeats 4000000 in
theorem c_F_putFour {l : Launch} {G : zG} {V : zV} (w : wC G V) (M : zM) (P : Nat → Nat) (D : Nat × Nat) (k : Nat) (hk : k < 63) (v : Int32) : zF l y_F_putFour b_F_putFour 2 none 1 21 G [.ref (V.1 9 k 0), .int v] (eC V M P D) none (eC V (fPut4 M k v) P D) := by
  refine zF.ofZ (by decide) w.2.2.2.2 (Nat.le_of_ble_eq_true rfl) (fun X hXl hN hr C => ?_)
  subst hXl
  show Z X G (zA G) 2 _ (eC V M P D) 0 [(0, .ref (V.1 9 k 0)), (1, .int v)] []
  refine Z_aload_n C 0 d_F_putFour_0 rfl rfl ?_
  refine Z_iload_n C 1 d_F_putFour_1 rfl rfl ?_
  refine Z_bipush (v := 24) C d_F_putFour_2 (by decide) ?_
  refine Z_iushr C d_F_putFour_4 ?_
  refine C_cFn C w (by assumption) mi_F_put ml_F_19 (c_F_put w _ _ _ _ (by assumption) _) rfl rfl (by decide) rfl (Nat.le_of_ble_eq_true rfl) d_F_putFour_5 ?_
  refine Z_aload_n C 0 d_F_putFour_8 rfl rfl ?_
  refine Z_iload_n C 1 d_F_putFour_9 rfl rfl ?_
  refine Z_bipush (v := 16) C d_F_putFour_10 (by decide) ?_
  refine Z_iushr C d_F_putFour_12 ?_
  refine C_cFn C w (by assumption) mi_F_put ml_F_19 (c_F_put w _ _ _ _ (by assumption) _) rfl rfl (by decide) rfl (Nat.le_of_ble_eq_true rfl) d_F_putFour_13 ?_
  refine Z_aload_n C 0 d_F_putFour_16 rfl rfl ?_
  refine Z_iload_n C 1 d_F_putFour_17 rfl rfl ?_
  refine Z_bipush (v := 8) C d_F_putFour_18 (by decide) ?_
  refine Z_iushr C d_F_putFour_20 ?_
  refine C_cFn C w (by assumption) mi_F_put ml_F_19 (c_F_put w _ _ _ _ (by assumption) _) rfl rfl (by decide) rfl (Nat.le_of_ble_eq_true rfl) d_F_putFour_21 ?_
  refine Z_aload_n C 0 d_F_putFour_24 rfl rfl ?_
  refine Z_iload_n C 1 d_F_putFour_25 rfl rfl ?_
  refine C_cFn C w (by assumption) mi_F_put ml_F_19 (c_F_put w _ _ _ _ (by assumption) _) rfl rfl (by decide) rfl (Nat.le_of_ble_eq_true rfl) d_F_putFour_26 ?_
  exact Z_vret C hN hr d_F_putFour_29 rfl (zeq (rfl))
set_option maxRecDepth 100000 in
set_option maxHeartbeats 4000000 in
theorem c_S_tell {l : Launch} {G : zG} {V : zV} (w : wC G V) (M : zM) (P : Nat → Nat) (D : Nat × Nat) (i j : Nat) (hi : i < 5) (hj : j < 5) (x : Int32) : zF l y_S_tell b_S_tell 2 (some .int) 0 0 G [.ref (V.1 5 i j), .int x] (eC V M P D) (some (.int (sTell (M 5 i j) x))) (eC V M P D) := by
  refine zF.ofZ (by decide) w.2.2.2.2 (Nat.le_of_ble_eq_true rfl) (fun X hXl hN hr C => ?_)
  subst hXl
  show Z X G (zA G) 2 _ (eC V M P D) 0 [(0, .ref (V.1 5 i j)), (1, .int x)] []
  refine Z_iload_n C 1 d_S_tell_0 rfl rfl ?_
  refine Z_tsw C d_S_tell_1 [(0, 64), (1, 69), (2, 74), (3, 79), (4, 84), (5, 89), (6, 94), (7, 99), (8, 104), (9, 117), (10, 122), (11, 127)] 132 (by decide +kernel) (by decide +kernel) (by decide) ?_ ?_
  · simp only [List.forall_mem_cons]
    refine ⟨fun c1 => ?_, fun c1 => ?_, fun c1 => ?_, fun c1 => ?_, fun c1 => ?_, fun c1 => ?_, fun c1 => ?_, fun c1 => ?_, fun c1 => ?_, fun c1 => ?_, fun c1 => ?_, fun c1 => ?_, fun _ h => absurd h List.not_mem_nil⟩
    · skip
      refine Z_aload_n C 0 d_S_tell_64 rfl rfl ?_
      refine C_gS C w (by assumption) (by assumption) 3 (by decide) fl_S_22 rfl rfl d_S_tell_65 ?_
      exact Z_iret C hN hr d_S_tell_68 (by simp [sTell, c1]) (zeq (rfl))
    · skip
      refine Z_aload_n C 0 d_S_tell_69 rfl rfl ?_
      refine C_gS C w (by assumption) (by assumption) 4 (by decide) fl_S_25 rfl rfl d_S_tell_70 ?_
      exact Z_iret C hN hr d_S_tell_73 (by simp [sTell, c1]) (zeq (rfl))
    · skip
      refine Z_aload_n C 0 d_S_tell_74 rfl rfl ?_
      refine C_gS C w (by assumption) (by assumption) 5 (by decide) fl_S_28 rfl rfl d_S_tell_75 ?_
      exact Z_iret C hN hr d_S_tell_78 (by simp [sTell, c1]) (zeq (rfl))
    · skip
      refine Z_aload_n C 0 d_S_tell_79 rfl rfl ?_
      refine C_gS C w (by assumption) (by assumption) 6 (by decide) fl_S_31 rfl rfl d_S_tell_80 ?_
      exact Z_iret C hN hr d_S_tell_83 (by simp [sTell, c1]) (zeq (rfl))
    · skip
      refine Z_aload_n C 0 d_S_tell_84 rfl rfl ?_
      refine C_gS C w (by assumption) (by assumption) 16 (by decide) fl_S_68 rfl rfl d_S_tell_85 ?_
      exact Z_iret C hN hr d_S_tell_88 (by simp [sTell, c1]) (zeq (rfl))
    · skip
      refine Z_aload_n C 0 d_S_tell_89 rfl rfl ?_
      refine C_gS C w (by assumption) (by assumption) 17 (by decide) fl_S_58 rfl rfl d_S_tell_90 ?_
      exact Z_iret C hN hr d_S_tell_93 (by simp [sTell, c1]) (zeq (rfl))
    · skip
      refine Z_aload_n C 0 d_S_tell_94 rfl rfl ?_
      refine C_gS C w (by assumption) (by assumption) 14 (by decide) fl_S_71 rfl rfl d_S_tell_95 ?_
      exact Z_iret C hN hr d_S_tell_98 (by simp [sTell, c1]) (zeq (rfl))
    · skip
      refine Z_aload_n C 0 d_S_tell_99 rfl rfl ?_
      refine C_gS C w (by assumption) (by assumption) 15 (by decide) fl_S_80 rfl rfl d_S_tell_100 ?_
      exact Z_iret C hN hr d_S_tell_103 (by simp [sTell, c1]) (zeq (rfl))
    · skip
      refine Z_aload_n C 0 d_S_tell_104 rfl rfl ?_
      refine C_gS C w (by assumption) (by assumption) 13 (by decide) fl_S_52 rfl rfl d_S_tell_105 ?_
      refine Z_if_eq (tgt := 115) C d_S_tell_108 (by decide) (fun c108 => ?_) (fun c108 => ?_)
      · skip
        refine Z_iconst (v := 0) C d_S_tell_115 (by decide) ?_
        exact Z_iret C hN hr d_S_tell_116 (by simp [sTell, c1, c108]) (zeq (rfl))
      · skip
        refine Z_iconst (v := 1) C d_S_tell_111 (by decide) ?_
        refine Z_goto (tgt := 116) C d_S_tell_112 (by decide) ?_
        exact Z_iret C hN hr d_S_tell_116 (by simp [sTell, c1, c108]) (zeq (rfl))
    · skip
      refine Z_aload_n C 0 d_S_tell_117 rfl rfl ?_
      refine C_gS C w (by assumption) (by assumption) 10 (by decide) fl_S_43 rfl rfl d_S_tell_118 ?_
      exact Z_iret C hN hr d_S_tell_121 (by simp [sTell, c1]) (zeq (rfl))
    · skip
      refine Z_aload_n C 0 d_S_tell_122 rfl rfl ?_
      refine C_gS C w (by assumption) (by assumption) 11 (by decide) fl_S_46 rfl rfl d_S_tell_123 ?_
      exact Z_iret C hN hr d_S_tell_126 (by simp [sTell, c1]) (zeq (rfl))
    · skip
      refine Z_aload_n C 0 d_S_tell_127 rfl rfl ?_
      refine C_gS C w (by assumption) (by assumption) 18 (by decide) fl_S_61 rfl rfl d_S_tell_128 ?_
      exact Z_iret C hN hr d_S_tell_131 (by simp [sTell, c1]) (zeq (rfl))
  · intro c1
    simp only [List.forall_mem_cons] at c1
    refine Z_iconst (v := (-1)) C d_S_tell_132 (by decide) ?_
    exact Z_iret C hN hr d_S_tell_133 (by simp [sTell, c1]) (zeq (rfl))
end
section
theorem i1_toInt {x : Int32} (h : x.toInt < 1000) (h0 : ¬ x < 0) : (x + 1).toInt = x.toInt + 1 := by
  rw [Int32.lt_iff_toInt_lt, Int32.toInt_zero] at h0
  obtain ⟨j, hj, rfl⟩ := nI_of (x := x) (by rw [Int32.lt_iff_toInt_lt, Int32.toInt_zero]; exact h0)
  rw [nI_1, nI_toInt (by rw [nI_toInt hj] at h; omega), nI_toInt hj]
  omega
theorem zv0 {x : Int32} (h : x.toInt < 1000) (h0 : ¬ x < 0) (h1 : ¬ (40 : Int32) ≤ x + 1) : vp_in x 40 := by
  have e := i1_toInt h h0
  rw [Int32.le_iff_toInt_le, e, show (40 : Int32).toInt = 40 from rfl] at h1
  rw [Int32.lt_iff_toInt_lt, Int32.toInt_zero] at h0
  rw [vp_in_iff]
  omega
theorem zv1 {x : Int32} (h : x.toInt < 1000) (h0 : ¬ x < 0) (h1 : ¬ (40 : Int32) ≤ x + 1) : vp_in (x + 1) 40 := by
  have e := i1_toInt h h0
  rw [Int32.le_iff_toInt_le, e, show (40 : Int32).toInt = 40 from rfl] at h1
  rw [Int32.lt_iff_toInt_lt, Int32.toInt_zero] at h0
  rw [vp_in_iff, e]
  omega
/-! loops: the sum, weighed, the frames that are due -/
theorem nlt_of {a b : Nat} (ha : a < 2 ^ 31) (h : ¬ nI b ≤ nI a) : a < b := by
  rcases Nat.lt_or_ge a b with q | q
  · exact q
  · exact absurd (nI_le q ha) h
theorem le_of {a b : Nat} (ha : a < 2 ^ 31) (hb : b < 2 ^ 31) (h : nI b ≤ nI a) : b ≤ a := (nI_leI hb ha).mp h
def fS (q b : Nat → Int32) : Nat → Nat → Int32 → Int32
  | 0, _, a => a
  | n + 1, i, a => if q 1 ≤ nI (i + 1) then a else if 40 ≤ nI (i + 1) then a else fS q b n (i + 2) (a + (b i * 256 + b (i + 1)))
def fFold : Nat → Int32 → Int32
  | 0, a => a
  | n + 1, a => if a ≤ 65535 then a else fFold n (a / 65536 + (a - a / 65536 * 65536))
def fS0 (q : Nat → Int32) : Int32 := ush (q 5) 16 + (q 5 &&& 65535) + 57344 + 18 + 112 + 12
def fSum (q b : Nat → Int32) : Int32 := fFold 4 (fS q b 20 0 (fS0 q))
set_option maxRecDepth 100000 in
set_option maxHeartbeats 4000000 in
theorem c_F_sum {l : Launch} {G : zG} {V : zV} (w : wC G V) (M : zM) (P : Nat → Nat) (D : Nat × Nat) (k : Nat) (hk : k < 63) : zF l y_F_sum b_F_sum 3 (some .int) 0 0 G [.ref (V.1 9 k 0)] (eC V M P D) (some (.int (fSum (M 9 k 0) (M 10 k 0)))) (eC V M P D) := by
  refine zF.ofZ (by decide) w.2.2.2.2 (Nat.le_of_ble_eq_true rfl) (fun X hXl hN hr C => ?_)
  subst hXl
  show Z X G (zA G) 3 _ (eC V M P D) 0 [(0, .ref (V.1 9 k 0))] []
  refine Z_aload_n C 0 d_F_sum_0 rfl rfl ?_
  refine C_gF C w (by assumption) 5 (by decide) fl_F_27 rfl rfl d_F_sum_1 ?_
  refine Z_bipush (v := 16) C d_F_sum_4 (by decide) ?_
  refine Z_iushr C d_F_sum_6 ?_
  refine Z_aload_n C 0 d_F_sum_7 rfl rfl ?_
  refine C_gF C w (by assumption) 5 (by decide) fl_F_27 rfl rfl d_F_sum_8 ?_
  refine Z_ldc C co_F_30 d_F_sum_11 ?_
  refine Z_iand C d_F_sum_13 ?_
  refine Z_iadd C d_F_sum_14 ?_
  refine Z_ldc C co_F_31 d_F_sum_15 ?_
  refine Z_iadd C d_F_sum_17 ?_
  refine Z_bipush (v := 18) C d_F_sum_18 (by decide) ?_
  refine Z_iadd C d_F_sum_20 ?_
  refine Z_bipush (v := 112) C d_F_sum_21 (by decide) ?_
  refine Z_iadd C d_F_sum_23 ?_
  refine Z_bipush (v := 12) C d_F_sum_24 (by decide) ?_
  refine Z_iadd C d_F_sum_26 ?_
  refine Z_istore_n C d_F_sum_27 rfl (by decide) rfl ?_
  refine Z_iconst (v := 0) C d_F_sum_28 (by decide) ?_
  refine Z_istore_n C d_F_sum_29 rfl (by decide) rfl ?_
  have hx : ∀ (a x2 : Int32), a = fS (M 9 k 0) (M 10 k 0) 20 0 (fS0 (M 9 k 0)) → Z X G (zA G) 3 (zQ X G (some (.int (fSum (M 9 k 0) (M 10 k 0)))) (eC V M P D)) (eC V M P D) 79 [(2, .int x2), (1, .int a), (0, .ref (V.1 9 k 0))] [] := by
    intro a x2 ha
    refine Z_iconst (v := 0) C d_F_sum_79 (by decide) ?_
    refine Z_istore_n C d_F_sum_80 rfl (by decide) rfl ?_
    have hlp : ∀ (n r : Nat) (a : Int32), r + n = 4 → fFold n a = fSum (M 9 k 0) (M 10 k 0) → Z X G (zA G) 3 (zQ X G (some (.int (fSum (M 9 k 0) (M 10 k 0)))) (eC V M P D)) (eC V M P D) 81 [(2, .int (nI r)), (1, .int a), (0, .ref (V.1 9 k 0))] [] := by
      intro n
      induction n with
      | zero =>
        intro r a h1 h2
        refine Z_iload_n C 0 d_F_sum_81 rfl rfl ?_
        refine Z_iconst (v := 4) C d_F_sum_82 (by decide) ?_
        refine Z_icmp_ge (tgt := 108) C d_F_sum_83 (by decide) (fun c83 => ?_) (fun c83 => ?_)
        · skip
          refine Z_iload_n C 1 d_F_sum_108 rfl rfl ?_
          exact Z_iret C hN hr d_F_sum_109 (by rw [← h2]; rfl) (zeq (rfl))
        · exact absurd (nI_le (a := 4) (b := r) (by omega) (by omega)) c83 --stop
      | succ n ih =>
        intro r a h1 h2
        refine Z_iload_n C 0 d_F_sum_81 rfl rfl ?_
        refine Z_iconst (v := 4) C d_F_sum_82 (by decide) ?_
        refine Z_icmp_ge (tgt := 108) C d_F_sum_83 (by decide) (fun c83 => ?_) (fun c83 => ?_)
        · exact absurd c83 (nI_ge (a := r) (b := 4) (by omega) (by decide)) --stop
        · skip
          refine Z_iload_n C 1 d_F_sum_86 rfl rfl ?_
          refine Z_ldc C co_F_30 d_F_sum_87 ?_
          refine Z_icmp_le (tgt := 108) C d_F_sum_89 (by decide) (fun c89 => ?_) (fun c89 => ?_)
          · skip
            refine Z_iload_n C 1 d_F_sum_108 rfl rfl ?_
            exact Z_iret C hN hr d_F_sum_109 (by rw [← h2]; simp [fFold, c89]) (zeq (rfl))
          · skip
            refine Z_iload_n C 1 d_F_sum_92 rfl rfl ?_
            refine Z_ldc C co_F_32 d_F_sum_93 ?_
            refine Z_idiv C d_F_sum_95 (by decide) ?_
            refine Z_iload_n C 1 d_F_sum_96 rfl rfl ?_
            refine Z_ldc C co_F_32 d_F_sum_97 ?_
            refine Z_irem C d_F_sum_99 (by decide) ?_
            refine Z_iadd C d_F_sum_100 ?_
            refine Z_istore_n C d_F_sum_101 rfl (by decide) rfl ?_
            refine Z_iinc 1 C d_F_sum_102 rfl (nI_1 r) (by decide) rfl ?_
            refine Z_goto (tgt := 81) C d_F_sum_105 (by decide) ?_
            exact ih (r + 1) _ (by omega) (by rw [← h2]; simp [fFold, c89])
    exact hlp 4 0 _ rfl (by rw [ha]; rfl)
  have hlp : ∀ (n i : Nat) (a : Int32), i + 2 * n = 40 → fS (M 9 k 0) (M 10 k 0) n i a = fS (M 9 k 0) (M 10 k 0) 20 0 (fS0 (M 9 k 0)) → Z X G (zA G) 3 (zQ X G (some (.int (fSum (M 9 k 0) (M 10 k 0)))) (eC V M P D)) (eC V M P D) 30 [(2, .int (nI i)), (1, .int a), (0, .ref (V.1 9 k 0))] [] := by
    intro n
    induction n with
    | zero =>
      intro i a h1 h2
      refine Z_iload_n C 0 d_F_sum_30 rfl rfl ?_
      refine Z_iconst (v := 1) C d_F_sum_31 (by decide) ?_
      refine Z_iadd C d_F_sum_32 ?_
      refine Z_aload_n C 2 d_F_sum_33 rfl rfl ?_
      refine C_gF C w (by assumption) 1 (by decide) fl_F_15 rfl rfl d_F_sum_34 ?_
      refine Z_icmp_ge (tgt := 79) C d_F_sum_37 (by decide) (fun c37 => ?_) (fun c37 => ?_)
      · rw [nI_1] at c37
        exact hx _ _ h2
      · rw [nI_1] at c37
        refine Z_iload_n C 0 d_F_sum_40 rfl rfl ?_
        refine Z_iconst (v := 1) C d_F_sum_41 (by decide) ?_
        refine Z_iadd C d_F_sum_42 ?_
        refine Z_aload_n C 2 d_F_sum_43 rfl rfl ?_
        refine C_gF C w (by assumption) 0 (by decide) fl_F_9 rfl rfl d_F_sum_44 ?_
        refine C_lenB C w (by assumption) d_F_sum_47 ?_
        refine Z_icmp_ge (tgt := 79) C d_F_sum_48 (by decide) (fun c48 => ?_) (fun c48 => ?_)
        · rw [nI_1] at c48
          exact hx _ _ h2
        · rw [nI_1] at c48
          exact absurd (nI_le (a := 40) (b := i + 1) (by omega) (by omega)) c48 --stop
    | succ n ih =>
      intro i a h1 h2
      refine Z_iload_n C 0 d_F_sum_30 rfl rfl ?_
      refine Z_iconst (v := 1) C d_F_sum_31 (by decide) ?_
      refine Z_iadd C d_F_sum_32 ?_
      refine Z_aload_n C 2 d_F_sum_33 rfl rfl ?_
      refine C_gF C w (by assumption) 1 (by decide) fl_F_15 rfl rfl d_F_sum_34 ?_
      refine Z_icmp_ge (tgt := 79) C d_F_sum_37 (by decide) (fun c37 => ?_) (fun c37 => ?_)
      · rw [nI_1] at c37
        exact hx _ _ (by rw [← h2]; unfold fS; first | rw [if_pos c37] | rw [if_neg c37, if_pos c48])
      · rw [nI_1] at c37
        refine Z_iload_n C 0 d_F_sum_40 rfl rfl ?_
        refine Z_iconst (v := 1) C d_F_sum_41 (by decide) ?_
        refine Z_iadd C d_F_sum_42 ?_
        refine Z_aload_n C 2 d_F_sum_43 rfl rfl ?_
        refine C_gF C w (by assumption) 0 (by decide) fl_F_9 rfl rfl d_F_sum_44 ?_
        refine C_lenB C w (by assumption) d_F_sum_47 ?_
        refine Z_icmp_ge (tgt := 79) C d_F_sum_48 (by decide) (fun c48 => ?_) (fun c48 => ?_)
        · rw [nI_1] at c48
          exact hx _ _ (by rw [← h2]; unfold fS; first | rw [if_pos c37] | rw [if_neg c37, if_pos c48])
        · rw [nI_1] at c48
          have hlt : i + 1 < 40 := nlt_of (by omega) c48
          refine Z_iload_n C 1 d_F_sum_51 rfl rfl ?_
          refine Z_aload_n C 2 d_F_sum_52 rfl rfl ?_
          refine C_gF C w (by assumption) 0 (by decide) fl_F_9 rfl rfl d_F_sum_53 ?_
          refine Z_iload_n C 0 d_F_sum_56 rfl rfl ?_
          refine C_ldB C w (by assumption) i (nI_clamp (by omega)) (vp_in_nI (by omega) (by decide)) d_F_sum_57 ?_
          refine Z_sipush (v := 256) C d_F_sum_58 (by decide) ?_
          refine Z_imul C d_F_sum_61 ?_
          refine Z_aload_n C 2 d_F_sum_62 rfl rfl ?_
          refine C_gF C w (by assumption) 0 (by decide) fl_F_9 rfl rfl d_F_sum_63 ?_
          refine Z_iload_n C 0 d_F_sum_66 rfl rfl ?_
          refine Z_iconst (v := 1) C d_F_sum_67 (by decide) ?_
          refine Z_iadd C d_F_sum_68 ?_
          refine C_ldB C w (by assumption) (i + 1) (by rw [nI_1]; exact nI_clamp (by omega)) (by rw [nI_1]; exact vp_in_nI (by omega) (by decide)) d_F_sum_69 ?_
          refine Z_iadd C d_F_sum_70 ?_
          refine Z_iadd C d_F_sum_71 ?_
          refine Z_istore_n C d_F_sum_72 rfl (by decide) rfl ?_
          refine Z_iinc 1 C d_F_sum_73 rfl (nI_add i 2) (by decide) rfl ?_
          refine Z_goto (tgt := 30) C d_F_sum_76 (by decide) ?_
          exact ih (i + 2) _ (by omega) (by rw [← h2]; conv => rhs; unfold fS; rw [if_neg c37, if_neg c48])
  exact hlp 20 0 _ rfl rfl
/-- the CHECK is laid at two places -/
def fCheck (M : zM) (k : Nat) (x : Int32) : zM := if x < 0 then M else if M 9 k 0 1 ≤ x + 1 then M else if 40 ≤ x + 1 then M else up (up M 10 k 0 x.toNatClampNeg (ush (65535 - fSum (M 9 k 0) (M 10 k 0)) 8)) 10 k 0 (x + 1).toNatClampNeg ((65535 - fSum (M 9 k 0) (M 10 k 0)) &&& 255)
set_option maxRecDepth 100000 in
set_option maxHeartbeats 4000000 in
theorem c_F_putCheckAt {l : Launch} {G : zG} {V : zV} (w : wC G V) (M : zM) (P : Nat → Nat) (D : Nat × Nat) (k : Nat) (hk : k < 63) (x : Int32) (hx0 : x.toInt < 1000) : zF l y_F_putCheckAt b_F_putCheckAt 3 none 1 22 G [.ref (V.1 9 k 0), .int x] (eC V M P D) none (eC V (fCheck M k x) P D) := by
  refine zF.ofZ (by decide) w.2.2.2.2 (Nat.le_of_ble_eq_true rfl) (fun X hXl hN hr C => ?_)
  subst hXl
  show Z X G (zA G) 3 _ (eC V M P D) 0 [(0, .ref (V.1 9 k 0)), (1, .int x)] []
  refine Z_ldc C co_F_30 d_F_putCheckAt_0 ?_
  refine Z_aload_n C 0 d_F_putCheckAt_2 rfl rfl ?_
  refine C_cFv C w (by assumption) mi_F_sum ml_F_33 (c_F_sum w _ _ _ _ (by assumption)) rfl rfl (by decide) rfl (Nat.le_of_ble_eq_true rfl) d_F_putCheckAt_3 ?_
  refine Z_isub C d_F_putCheckAt_6 ?_
  refine Z_istore_n C d_F_putCheckAt_7 rfl (by decide) rfl ?_
  refine Z_iload_n C 2 d_F_putCheckAt_8 rfl rfl ?_
  refine Z_if_lt (tgt := 56) C d_F_putCheckAt_9 (by decide) (fun c9 => ?_) (fun c9 => ?_)
  · skip
    exact Z_vret C hN hr d_F_putCheckAt_56 rfl (zeq (by apply eC_M; simp [fCheck, c9]; try rfl))
  · skip
    refine Z_iload_n C 2 d_F_putCheckAt_12 rfl rfl ?_
    refine Z_iconst (v := 1) C d_F_putCheckAt_13 (by decide) ?_
    refine Z_iadd C d_F_putCheckAt_14 ?_
    refine Z_aload_n C 1 d_F_putCheckAt_15 rfl rfl ?_
    refine C_gF C w (by assumption) 1 (by decide) fl_F_15 rfl rfl d_F_putCheckAt_16 ?_
    refine Z_icmp_ge (tgt := 56) C d_F_putCheckAt_19 (by decide) (fun c19 => ?_) (fun c19 => ?_)
    · skip
      exact Z_vret C hN hr d_F_putCheckAt_56 rfl (zeq (by apply eC_M; simp [fCheck, c9, c19]; try rfl))
    · skip
      refine Z_iload_n C 2 d_F_putCheckAt_22 rfl rfl ?_
      refine Z_iconst (v := 1) C d_F_putCheckAt_23 (by decide) ?_
      refine Z_iadd C d_F_putCheckAt_24 ?_
      refine Z_aload_n C 1 d_F_putCheckAt_25 rfl rfl ?_
      refine C_gF C w (by assumption) 0 (by decide) fl_F_9 rfl rfl d_F_putCheckAt_26 ?_
      refine C_lenB C w (by assumption) d_F_putCheckAt_29 ?_
      refine Z_icmp_ge (tgt := 56) C d_F_putCheckAt_30 (by decide) (fun c30 => ?_) (fun c30 => ?_)
      · skip
        exact Z_vret C hN hr d_F_putCheckAt_56 rfl (zeq (by apply eC_M; simp [fCheck, c9, c19, c30]; try rfl))
      · have hv0 : vp_in x 40 := zv0 hx0 c9 c30
        have hv1 : vp_in (x + 1) 40 := zv1 hx0 c9 c30
        refine Z_aload_n C 1 d_F_putCheckAt_33 rfl rfl ?_
        refine C_gF C w (by assumption) 0 (by decide) fl_F_9 rfl rfl d_F_putCheckAt_34 ?_
        refine Z_iload_n C 2 d_F_putCheckAt_37 rfl rfl ?_
        refine Z_iload_n C 0 d_F_putCheckAt_38 rfl rfl ?_
        refine Z_bipush (v := 8) C d_F_putCheckAt_39 (by decide) ?_
        refine Z_iushr C d_F_putCheckAt_41 ?_
        refine C_stB C w (by assumption) _ rfl hv0 d_F_putCheckAt_42 ?_
        refine Z_aload_n C 1 d_F_putCheckAt_43 rfl rfl ?_
        refine C_gF C w (by assumption) 0 (by decide) fl_F_9 rfl rfl d_F_putCheckAt_44 ?_
        refine Z_iload_n C 2 d_F_putCheckAt_47 rfl rfl ?_
        refine Z_iconst (v := 1) C d_F_putCheckAt_48 (by decide) ?_
        refine Z_iadd C d_F_putCheckAt_49 ?_
        refine Z_iload_n C 0 d_F_putCheckAt_50 rfl rfl ?_
        refine Z_sipush (v := 255) C d_F_putCheckAt_51 (by decide) ?_
        refine Z_iand C d_F_putCheckAt_54 ?_
        refine C_stB C w (by assumption) _ rfl hv1 d_F_putCheckAt_55 ?_
        exact Z_vret C hN hr d_F_putCheckAt_56 rfl (zeq (by apply eC_M; simp [fCheck, c9, c19, c30]; try rfl))
end
section
theorem zst {X : zX} {G : zG} {A : Nat → Prop} {nL : Nat} {Q : State → Prop} {K : zK} {pc : Nat} {lv : List (Nat × Value)} {st st' : List Value} (h : st = st') (k : Z X G A nL Q K pc lv st') : Z X G A nL Q K pc lv st := h ▸ k
theorem zlv {X : zX} {G : zG} {A : Nat → Prop} {nL : Nat} {Q : State → Prop} {K : zK} {pc : Nat} {lv lv' : List (Nat × Value)} {st : List Value} (ks : List Nat) (h : lv_pick lv ks = lv') (k : Z X G A nL Q K pc lv' st) : Z X G A nL Q K pc lv st := fun f H locs ls hf hP hS hl => k f H locs ls hf hP hS (lv_sub hl ks h)
/-! weighed; the wire -/
def wStep (M : zM) (i s : Nat) (p : Int32) : Int32 := if (M 3 i 0 9 >>> (nI s &&& 31)) &&& 1 = 0 then p else if M 5 i s 2 = 0 then p else if M 5 i s 3 = 3 then p else p - M 3 i 0 8
def wgh (M : zM) (i : Nat) : Nat → Nat → Int32 → Int32
  | 0, _, p => p
  | n + 1, s, p => wgh M i n (s + 1) (wStep M i s p)
def rWeighed (M : zM) (i : Nat) : Int32 := if M 3 i 0 0 = 255 then M 3 i 0 0 else if 1 ≤ wgh M i 5 0 (M 3 i 0 0) then wgh M i 5 0 (M 3 i 0 0) else 1
set_option maxRecDepth 100000 in
set_option maxHeartbeats 4000000 in
theorem c_R_weighed {l : Launch} {G : zG} {V : zV} (w : wC G V) (M : zM) (P : Nat → Nat) (D : Nat × Nat) (i : Nat) (hi : i < 5) : zF l y_R_weighed b_R_weighed 3 (some .int) 0 0 G [.ref (V.1 2 i 0)] (eC V M P D) (some (.int (rWeighed M i))) (eC V M P D) := by
  refine zF.ofZ (by decide) w.2.2.2.2 (Nat.le_of_ble_eq_true rfl) (fun X hXl hN hr C => ?_)
  subst hXl
  show Z X G (zA G) 3 _ (eC V M P D) 0 [(0, .ref (V.1 2 i 0))] []
  refine Z_aload_n C 0 d_R_weighed_0 rfl rfl ?_
  refine C_gR C w (by assumption) 2 (by decide) fl_R_21 rfl rfl d_R_weighed_1 ?_
  refine Z_iconst (v := 0) C d_R_weighed_4 (by decide) ?_
  refine C_ldG C w (by assumption) 0 (by decide) (by unfold vp_in; decide) d_R_weighed_5 ?_
  refine Z_istore_n C d_R_weighed_6 rfl (by decide) rfl ?_
  refine Z_iload_n C 0 d_R_weighed_7 rfl rfl ?_
  refine Z_sipush (v := 255) C d_R_weighed_8 (by decide) ?_
  refine Z_icmp_ne (tgt := 16) C d_R_weighed_11 (by decide) (fun c11 => ?_) (fun c11 => ?_)
  · skip
    refine Z_iconst (v := 0) C d_R_weighed_16 (by decide) ?_
    refine Z_istore_n C d_R_weighed_17 rfl (by decide) rfl ?_
    have hlp : ∀ (n s : Nat) (p : Int32), s + n = 5 → wgh M i n s p = wgh M i 5 0 (M 3 i 0 0) → Z X G (zA G) 3 (zQ X G (some (.int (rWeighed M i))) (eC V M P D)) (eC V M P D) 18 [(2, .int (nI s)), (1, .int p), (0, .ref (V.1 2 i 0))] [] := by
      intro n
      induction n with
      | zero =>
        intro s p h1 h2
        refine Z_iload_n C 0 d_R_weighed_18 rfl rfl ?_
        refine Z_iconst (v := 5) C d_R_weighed_19 (by decide) ?_
        refine Z_icmp_ge (tgt := 78) C d_R_weighed_20 (by decide) (fun c20 => ?_) (fun c20 => ?_)
        · skip
          refine Z_iload_n C 1 d_R_weighed_78 rfl rfl ?_
          refine Z_iconst (v := 1) C d_R_weighed_79 (by decide) ?_
          refine Z_icmp_ge (tgt := 87) C d_R_weighed_80 (by decide) (fun c80 => ?_) (fun c80 => ?_)
          · skip
            refine Z_iload_n C 1 d_R_weighed_87 rfl rfl ?_
            exact Z_iret C hN hr d_R_weighed_88 (by unfold rWeighed; rw [if_neg c11, ← h2]; simp [wgh, c80]) (zeq (rfl))
          · skip
            refine Z_iconst (v := 1) C d_R_weighed_83 (by decide) ?_
            refine Z_goto (tgt := 88) C d_R_weighed_84 (by decide) ?_
            exact Z_iret C hN hr d_R_weighed_88 (by unfold rWeighed; rw [if_neg c11, ← h2]; simp [wgh, c80]) (zeq (rfl))
        · exact absurd (nI_le (a := 5) (b := s) (by omega) (by omega)) c20 --stop
      | succ n ih =>
        intro s p h1 h2
        have hs : s < 5 := by omega
        refine Z_iload_n C 0 d_R_weighed_18 rfl rfl ?_
        refine Z_iconst (v := 5) C d_R_weighed_19 (by decide) ?_
        refine Z_icmp_ge (tgt := 78) C d_R_weighed_20 (by decide) (fun c20 => ?_) (fun c20 => ?_)
        · exact absurd c20 (nI_ge (a := s) (b := 5) (by omega) (by decide)) --stop
        · skip
          refine Z_aload_n C 2 d_R_weighed_23 rfl rfl ?_
          refine C_gR C w (by assumption) 2 (by decide) fl_R_21 rfl rfl d_R_weighed_24 ?_
          refine Z_bipush (v := 9) C d_R_weighed_27 (by decide) ?_
          refine C_ldG C w (by assumption) 9 (by decide) (by unfold vp_in; decide) d_R_weighed_29 ?_
          refine Z_iload_n C 0 d_R_weighed_30 rfl rfl ?_
          refine Z_ishr C d_R_weighed_31 ?_
          refine Z_iconst (v := 1) C d_R_weighed_32 (by decide) ?_
          refine Z_iand C d_R_weighed_33 ?_
          refine Z_if_eq (tgt := 72) C d_R_weighed_34 (by decide) (fun c34 => ?_) (fun c34 => ?_)
          · skip
            refine Z_iinc 0 C d_R_weighed_72 rfl (nI_1 s) (by decide) rfl ?_
            refine Z_goto (tgt := 18) C d_R_weighed_75 (by decide) ?_
            exact ih (s + 1) _ (by omega) (by rw [← h2]; show _ = wgh M i n (s + 1) (wStep M i s p); congr 1; simp [wStep, c34])
          · skip
            refine Z_aload_n C 2 d_R_weighed_37 rfl rfl ?_
            refine C_gR C w (by assumption) 3 (by decide) fl_R_27 rfl rfl d_R_weighed_38 ?_
            refine Z_iload_n C 0 d_R_weighed_41 rfl rfl ?_
            refine C_ldX C w (by assumption) s (nI_clamp (by omega)) (vp_in_nI (by omega) (by decide)) d_R_weighed_42 ?_
            refine C_gS C w (by assumption) (by assumption) 2 (by decide) fl_R_69 rfl rfl d_R_weighed_43 ?_
            refine Z_if_eq (tgt := 72) C d_R_weighed_46 (by decide) (fun c46 => ?_) (fun c46 => ?_)
            · skip
              refine Z_iinc 0 C d_R_weighed_72 rfl (nI_1 s) (by decide) rfl ?_
              refine Z_goto (tgt := 18) C d_R_weighed_75 (by decide) ?_
              exact ih (s + 1) _ (by omega) (by rw [← h2]; show _ = wgh M i n (s + 1) (wStep M i s p); congr 1; simp [wStep, c34, c46])
            · skip
              refine Z_aload_n C 2 d_R_weighed_49 rfl rfl ?_
              refine C_gR C w (by assumption) 3 (by decide) fl_R_27 rfl rfl d_R_weighed_50 ?_
              refine Z_iload_n C 0 d_R_weighed_53 rfl rfl ?_
              refine C_ldX C w (by assumption) s (nI_clamp (by omega)) (vp_in_nI (by omega) (by decide)) d_R_weighed_54 ?_
              refine C_gS C w (by assumption) (by assumption) 3 (by decide) fl_R_73 rfl rfl d_R_weighed_55 ?_
              refine Z_iconst (v := 3) C d_R_weighed_58 (by decide) ?_
              refine Z_icmp_eq (tgt := 72) C d_R_weighed_59 (by decide) (fun c59 => ?_) (fun c59 => ?_)
              · skip
                refine Z_iinc 0 C d_R_weighed_72 rfl (nI_1 s) (by decide) rfl ?_
                refine Z_goto (tgt := 18) C d_R_weighed_75 (by decide) ?_
                exact ih (s + 1) _ (by omega) (by rw [← h2]; show _ = wgh M i n (s + 1) (wStep M i s p); congr 1; simp [wStep, c34, c46, c59])
              · skip
                refine Z_iload_n C 1 d_R_weighed_62 rfl rfl ?_
                refine Z_aload_n C 2 d_R_weighed_63 rfl rfl ?_
                refine C_gR C w (by assumption) 2 (by decide) fl_R_21 rfl rfl d_R_weighed_64 ?_
                refine Z_bipush (v := 8) C d_R_weighed_67 (by decide) ?_
                refine C_ldG C w (by assumption) 8 (by decide) (by unfold vp_in; decide) d_R_weighed_69 ?_
                refine Z_isub C d_R_weighed_70 ?_
                refine Z_istore_n C d_R_weighed_71 rfl (by decide) rfl ?_
                refine Z_iinc 1 C d_R_weighed_72 rfl (nI_1 s) (by decide) rfl ?_
                refine Z_goto (tgt := 18) C d_R_weighed_75 (by decide) ?_
                exact ih (s + 1) _ (by omega) (by rw [← h2]; show _ = wgh M i n (s + 1) (wStep M i s p); congr 1; simp [wStep, c34, c46, c59])
    exact hlp 5 0 _ rfl rfl
  · skip
    refine Z_iload_n C 0 d_R_weighed_14 rfl rfl ?_
    exact Z_iret C hN hr d_R_weighed_15 (by simp [rWeighed, c11]) (zeq (rfl))
def wPlace (M : zM) (x : Int32) : Int32 := if x < 0 then -1 else if 16 ≤ x then -1 else M 7 0 0 x.toNatClampNeg
def cDue (M : zM) (P : Nat → Nat) : Nat → Nat → Int32 → Int32
  | 0, _, a => a
  | n + 1, i, a => if M 6 0 0 2 ≤ nI i then a else if 60 ≤ nI i then a else cDue M P n (i + 1) (if M 9 (P i) 0 8 ≤ M 6 0 0 3 then a + 1 else a)
set_option maxRecDepth 100000 in
set_option maxHeartbeats 4000000 in
theorem c_W_placeOf {l : Launch} {G : zG} {V : zV} (w : wC G V) (M : zM) (P : Nat → Nat) (D : Nat × Nat) (x : Int32) : zF l y_W_placeOf b_W_placeOf 2 (some .int) 0 0 G [.ref (V.1 6 0 0), .int x] (eC V M P D) (some (.int (wPlace M x))) (eC V M P D) := by
  refine zF.ofZ (by decide) w.2.2.2.2 (Nat.le_of_ble_eq_true rfl) (fun X hXl hN hr C => ?_)
  subst hXl
  show Z X G (zA G) 2 _ (eC V M P D) 0 [(0, .ref (V.1 6 0 0)), (1, .int x)] []
  refine Z_iload_n C 1 d_W_placeOf_0 rfl rfl ?_
  refine Z_if_lt (tgt := 22) C d_W_placeOf_1 (by decide) (fun c1 => ?_) (fun c1 => ?_)
  · skip
    refine Z_iconst (v := (-1)) C d_W_placeOf_22 (by decide) ?_
    exact Z_iret C hN hr d_W_placeOf_23 (by simp [wPlace, c1]) (zeq (rfl))
  · skip
    refine Z_iload_n C 1 d_W_placeOf_4 rfl rfl ?_
    refine Z_aload_n C 0 d_W_placeOf_5 rfl rfl ?_
    refine C_gW C w 0 (by decide) fl_W_9 rfl rfl d_W_placeOf_6 ?_
    refine C_lenP C w d_W_placeOf_9 ?_
    refine Z_icmp_ge (tgt := 22) C d_W_placeOf_10 (by decide) (fun c10 => ?_) (fun c10 => ?_)
    · skip
      refine Z_iconst (v := (-1)) C d_W_placeOf_22 (by decide) ?_
      exact Z_iret C hN hr d_W_placeOf_23 (by simp [wPlace, c1, c10]) (zeq (rfl))
    · skip
      refine Z_aload_n C 0 d_W_placeOf_13 rfl rfl ?_
      refine C_gW C w 0 (by decide) fl_W_9 rfl rfl d_W_placeOf_14 ?_
      refine Z_iload_n C 1 d_W_placeOf_17 rfl rfl ?_
      refine C_ldP C w _ rfl (vp_inc c1 c10 rfl) d_W_placeOf_18 ?_
      refine Z_goto (tgt := 23) C d_W_placeOf_19 (by decide) ?_
      exact Z_iret C hN hr d_W_placeOf_23 (by simp [wPlace, c1, c10]) (zeq (rfl))
set_option maxRecDepth 100000 in
set_option maxHeartbeats 4000000 in
theorem c_W_countDue {l : Launch} {G : zG} {V : zV} (w : wC G V) (M : zM) (P : Nat → Nat) (D : Nat × Nat) (hPP : ∀ n, n < 60 → P n < 63) : zF l y_W_countDue b_W_countDue 3 (some .int) 0 0 G [.ref (V.1 6 0 0)] (eC V M P D) (some (.int (cDue M P 60 0 0))) (eC V M P D) := by
  refine zF.ofZ (by decide) w.2.2.2.2 (Nat.le_of_ble_eq_true rfl) (fun X hXl hN hr C => ?_)
  subst hXl
  show Z X G (zA G) 3 _ (eC V M P D) 0 [(0, .ref (V.1 6 0 0))] []
  refine Z_iconst (v := 0) C d_W_countDue_0 (by decide) ?_
  refine Z_istore_n C d_W_countDue_1 rfl (by decide) rfl ?_
  refine Z_iconst (v := 0) C d_W_countDue_2 (by decide) ?_
  refine Z_istore_n C d_W_countDue_3 rfl (by decide) rfl ?_
  have hlp : ∀ (n i : Nat) (a : Int32), i + n = 60 → cDue M P n i a = cDue M P 60 0 0 → Z X G (zA G) 3 (zQ X G (some (.int (cDue M P 60 0 0))) (eC V M P D)) (eC V M P D) 4 [(2, .int (nI i)), (1, .int a), (0, .ref (V.1 6 0 0))] [] := by
    intro n
    induction n with
    | zero =>
      intro i a h1 h2
      refine Z_iload_n C 0 d_W_countDue_4 rfl rfl ?_
      refine Z_aload_n C 2 d_W_countDue_5 rfl rfl ?_
      refine C_gW C w 2 (by decide) fl_W_29 rfl rfl d_W_countDue_6 ?_
      refine Z_icmp_ge (tgt := 46) C d_W_countDue_9 (by decide) (fun c9 => ?_) (fun c9 => ?_)
      · skip
        refine Z_iload_n C 1 d_W_countDue_46 rfl rfl ?_
        exact Z_iret C hN hr d_W_countDue_47 (by rw [← h2]; rfl) (zeq (rfl))
      · skip
        refine Z_iload_n C 0 d_W_countDue_12 rfl rfl ?_
        refine Z_aload_n C 2 d_W_countDue_13 rfl rfl ?_
        refine C_gW C w 1 (by decide) fl_W_17 rfl rfl d_W_countDue_14 ?_
        refine C_lenY C w d_W_countDue_17 ?_
        refine Z_icmp_ge (tgt := 46) C d_W_countDue_18 (by decide) (fun c18 => ?_) (fun c18 => ?_)
        · skip
          refine Z_iload_n C 1 d_W_countDue_46 rfl rfl ?_
          exact Z_iret C hN hr d_W_countDue_47 (by rw [← h2]; rfl) (zeq (rfl))
        · exact absurd (nI_le (a := 60) (b := i) (by omega) (by omega)) c18 --stop
    | succ n ih =>
      intro i a h1 h2
      have hpi : P i < 63 := hPP i (by omega)
      refine Z_iload_n C 0 d_W_countDue_4 rfl rfl ?_
      refine Z_aload_n C 2 d_W_countDue_5 rfl rfl ?_
      refine C_gW C w 2 (by decide) fl_W_29 rfl rfl d_W_countDue_6 ?_
      refine Z_icmp_ge (tgt := 46) C d_W_countDue_9 (by decide) (fun c9 => ?_) (fun c9 => ?_)
      · skip
        refine Z_iload_n C 1 d_W_countDue_46 rfl rfl ?_
        exact Z_iret C hN hr d_W_countDue_47 (by rw [← h2]; simp [cDue, c9]) (zeq (rfl))
      · skip
        refine Z_iload_n C 0 d_W_countDue_12 rfl rfl ?_
        refine Z_aload_n C 2 d_W_countDue_13 rfl rfl ?_
        refine C_gW C w 1 (by decide) fl_W_17 rfl rfl d_W_countDue_14 ?_
        refine C_lenY C w d_W_countDue_17 ?_
        refine Z_icmp_ge (tgt := 46) C d_W_countDue_18 (by decide) (fun c18 => ?_) (fun c18 => ?_)
        · skip
          refine Z_iload_n C 1 d_W_countDue_46 rfl rfl ?_
          exact Z_iret C hN hr d_W_countDue_47 (by rw [← h2]; simp [cDue, c9, c18]) (zeq (rfl))
        · skip
          refine Z_aload_n C 2 d_W_countDue_21 rfl rfl ?_
          refine C_gW C w 1 (by decide) fl_W_17 rfl rfl d_W_countDue_22 ?_
          refine Z_iload_n C 0 d_W_countDue_25 rfl rfl ?_
          refine C_ldY C w i (nI_clamp (by omega)) (vp_in_nI (by omega) (by decide)) d_W_countDue_26 ?_
          refine C_gF C w (by assumption) 8 (by decide) fl_W_33 rfl rfl d_W_countDue_27 ?_
          refine Z_aload_n C 2 d_W_countDue_30 rfl rfl ?_
          refine C_gW C w 3 (by decide) fl_W_36 rfl rfl d_W_countDue_31 ?_
          refine Z_icmp_gt (tgt := 40) C d_W_countDue_34 (by decide) (fun c34 => ?_) (fun c34 => ?_)
          · skip
            refine Z_iinc 0 C d_W_countDue_40 rfl (nI_1 i) (by decide) rfl ?_
            refine Z_goto (tgt := 4) C d_W_countDue_43 (by decide) ?_
            first | exact ih (i + 1) _ (by omega) (by rw [← h2]; (conv => rhs; unfold cDue; rw [if_neg c9, if_neg c18, if_pos (Int32.not_lt.mp c34)]); first | done | rfl) | exact ih (i + 1) _ (by omega) (by rw [← h2]; conv => rhs; unfold cDue; rw [if_neg c9, if_neg c18, if_neg (Int32.not_le.mpr c34)])
          · skip
            refine Z_iinc 1 C d_W_countDue_37 rfl rfl (by decide) rfl ?_
            refine zlv (lv' := [(2, _), (1, _), (0, .ref (V.1 6 0 0))]) [1, 0, 2] rfl ?_
            refine Z_iinc 0 C d_W_countDue_40 rfl (nI_1 i) (by decide) rfl ?_
            refine Z_goto (tgt := 4) C d_W_countDue_43 (by decide) ?_
            first | exact ih (i + 1) _ (by omega) (by rw [← h2]; (conv => rhs; unfold cDue; rw [if_neg c9, if_neg c18, if_pos (Int32.not_lt.mp c34)]); first | done | rfl) | exact ih (i + 1) _ (by omega) (by rw [← h2]; conv => rhs; unfold cDue; rw [if_neg c9, if_neg c18, if_neg (Int32.not_le.mpr c34)])
  exact hlp 60 0 _ rfl rfl
def wNew (M : zM) (d : Nat) (kind from_ to address : Int32) : zM := up (up (up (up (up (up M 9 d 0 1 0) 9 d 0 2 kind) 9 d 0 3 from_) 9 d 0 4 to) 9 d 0 5 address) 9 d 0 6 255
set_option maxRecDepth 100000 in
set_option maxHeartbeats 4000000 in
theorem c_W_newDraft {l : Launch} {G : zG} {V : zV} (w : wC G V) (M : zM) (P : Nat → Nat) (D : Nat × Nat) (hD : D.1 < 63) (kind from_ to address : Int32) : zF l y_W_newDraft b_W_newDraft 5 (some (.object "StandInLan$Frame")) 0 0 G [.ref (V.1 6 0 0), .int kind, .int from_, .int to, .int address] (eC V M P D) (some (.ref (V.1 9 D.1 0))) (eC V (wNew M D.1 kind from_ to address) P D) := by
  refine zF.ofZ (by decide) w.2.2.2.2 (Nat.le_of_ble_eq_true rfl) (fun X hXl hN hr C => ?_)
  subst hXl
  show Z X G (zA G) 5 _ (eC V M P D) 0 [(0, .ref (V.1 6 0 0)), (1, .int kind), (2, .int from_), (3, .int to), (4, .int address)] []
  refine Z_aload_n C 0 d_W_newDraft_0 rfl rfl ?_
  refine C_gW C w 4 (by decide) fl_W_22 rfl rfl d_W_newDraft_1 ?_
  refine Z_iconst (v := 0) C d_W_newDraft_4 (by decide) ?_
  refine C_pF C w (by assumption) 1 (by decide) fl_W_39 rfl rfl rfl rfl rfl d_W_newDraft_5 ?_
  refine Z_aload_n C 0 d_W_newDraft_8 rfl rfl ?_
  refine C_gW C w 4 (by decide) fl_W_22 rfl rfl d_W_newDraft_9 ?_
  refine Z_iload_n C 1 d_W_newDraft_12 rfl rfl ?_
  refine C_pF C w (by assumption) 2 (by decide) fl_W_42 rfl rfl rfl rfl rfl d_W_newDraft_13 ?_
  refine Z_aload_n C 0 d_W_newDraft_16 rfl rfl ?_
  refine C_gW C w 4 (by decide) fl_W_22 rfl rfl d_W_newDraft_17 ?_
  refine Z_iload_n C 2 d_W_newDraft_20 rfl rfl ?_
  refine C_pF C w (by assumption) 3 (by decide) fl_W_45 rfl rfl rfl rfl rfl d_W_newDraft_21 ?_
  refine Z_aload_n C 0 d_W_newDraft_24 rfl rfl ?_
  refine C_gW C w 4 (by decide) fl_W_22 rfl rfl d_W_newDraft_25 ?_
  refine Z_iload_n C 3 d_W_newDraft_28 rfl rfl ?_
  refine C_pF C w (by assumption) 4 (by decide) fl_W_48 rfl rfl rfl rfl rfl d_W_newDraft_29 ?_
  refine Z_aload_n C 0 d_W_newDraft_32 rfl rfl ?_
  refine C_gW C w 4 (by decide) fl_W_22 rfl rfl d_W_newDraft_33 ?_
  refine Z_iload C 4 d_W_newDraft_36 rfl ?_
  refine C_pF C w (by assumption) 5 (by decide) fl_W_51 rfl rfl rfl rfl rfl d_W_newDraft_38 ?_
  refine Z_aload_n C 0 d_W_newDraft_41 rfl rfl ?_
  refine C_gW C w 4 (by decide) fl_W_22 rfl rfl d_W_newDraft_42 ?_
  refine Z_sipush (v := 255) C d_W_newDraft_45 (by decide) ?_
  refine C_pF C w (by assumption) 6 (by decide) fl_W_54 rfl rfl rfl rfl rfl d_W_newDraft_48 ?_
  refine Z_aload_n C 0 d_W_newDraft_51 rfl rfl ?_
  refine C_gW C w 4 (by decide) fl_W_22 rfl rfl d_W_newDraft_52 ?_
  exact Z_aret C hN hr (Or.inl ⟨_, rfl⟩) (Or.inr ⟨_, rfl⟩) d_W_newDraft_55 (rfl) (zeq (rfl))
/-- the first frame that is due, from place i on -/
def kDue (M : zM) (P : Nat → Nat) (c : Nat) : Nat → Nat → Nat
  | 0, i => i
  | n + 1, i => if M 9 (P i) 0 8 ≤ M 6 0 0 3 then i else kDue M P c n (i + 1)
theorem kDue_le (M : zM) (P : Nat → Nat) (c : Nat) : ∀ n i, i ≤ kDue M P c n i ∧ kDue M P c n i ≤ i + n := by
  intro n
  induction n with
  | zero => intro i; exact ⟨Nat.le_refl _, Nat.le_refl _⟩
  | succ n ih =>
    intro i
    unfold kDue
    split
    · omega
    · have := ih (i + 1); omega
/-- the places behind k move up, as far as place m -/
def pShift (P : Nat → Nat) (k m : Nat) : Nat → Nat := fun n => if k ≤ n ∧ n + 1 < m then P (n + 1) else P n
theorem pShift_0 (P : Nat → Nat) (k : Nat) : pShift P k (k + 1) = P := by
  funext n
  unfold pShift
  rw [if_neg (by omega)]
theorem pShift_s (P : Nat → Nat) (k m : Nat) (h : k < m) : va_up (pShift P k m) (m - 1) (pShift P k m m) = pShift P k (m + 1) := by
  funext n
  by_cases hn : n = m - 1
  · subst hn
    rw [va_up_self]
    unfold pShift
    rw [if_neg (by omega), if_pos (by omega)]
    congr 1
    omega
  · rw [va_up_ne _ _ hn]
    unfold pShift
    by_cases h1 : k ≤ n ∧ n + 1 < m
    · rw [if_pos h1, if_pos (by omega)]
    · rw [if_neg h1, if_neg (by omega)]
def tkM (M : zM) (P : Nat → Nat) (c : Nat) : zM := if kDue M P c c 0 < c then up M 6 0 0 2 (nI (c - 1)) else M
def tkP (M : zM) (P : Nat → Nat) (D : Nat × Nat) (c : Nat) : Nat → Nat := if kDue M P c c 0 < c then va_up (pShift P (kDue M P c c 0) c) (c - 1) D.2 else P
def tkD (M : zM) (P : Nat → Nat) (D : Nat × Nat) (c : Nat) : Nat × Nat := if kDue M P c c 0 < c then (D.1, P (kDue M P c c 0)) else D

set_option maxRecDepth 100000 in
set_option maxHeartbeats 4000000 in
theorem c_W_takeDue {l : Launch} {G : zG} {V : zV} (w : wC G V) (M : zM) (P : Nat → Nat) (D : Nat × Nat) (c : Nat) (hc : M 6 0 0 2 = nI c) (hc60 : c ≤ 60) (hPP : ∀ n, n < 60 → P n < 63) (hD2 : D.2 < 63) : zF l y_W_takeDue b_W_takeDue 4 (some (.object "StandInLan$Frame")) 0 0 G [.ref (V.1 6 0 0)] (eC V M P D) (some (.ref (V.1 9 (tkD M P D c).2 0))) (eC V (tkM M P c) (tkP M P D c) (tkD M P D c)) := by
  refine zF.ofZ (by decide) w.2.2.2.2 (Nat.le_of_ble_eq_true rfl) (fun X hXl hN hr C => ?_)
  subst hXl
  show Z X G (zA G) 4 _ (eC V M P D) 0 [(0, .ref (V.1 6 0 0))] []
  refine Z_iconst (v := 0) C d_W_takeDue_0 (by decide) ?_
  refine Z_istore_n C d_W_takeDue_1 rfl (by decide) rfl ?_
  have hkd := kDue_le M P c c 0
  have hx : ∀ (k : Nat), k = kDue M P c c 0 → Z X G (zA G) 4 (zQ X G (some (.ref (V.1 9 (tkD M P D c).2 0))) (eC V (tkM M P c) (tkP M P D c) (tkD M P D c))) (eC V M P D) 41 [(1, .int (nI k)), (0, .ref (V.1 6 0 0))] [] := by
    intro k hk
    have hkc : k ≤ c := by omega
    refine Z_iload_n C 0 d_W_takeDue_41 rfl rfl ?_
    refine Z_aload_n C 1 d_W_takeDue_42 rfl rfl ?_
    refine C_gW C w 2 (by decide) fl_W_29 rfl rfl d_W_takeDue_43 ?_
    refine Z_icmp_ge (tgt := 128) C d_W_takeDue_46 (by decide) (fun c46 => ?_) (fun c46 => ?_)
    · rw [hc] at c46
      refine Z_aload_n C 1 d_W_takeDue_128 rfl rfl ?_
      refine C_gW C w 5 (by decide) fl_W_26 rfl rfl d_W_takeDue_129 ?_
      exact Z_aret C hN hr (Or.inl ⟨_, rfl⟩) (Or.inr ⟨_, rfl⟩) d_W_takeDue_132 (by unfold tkD; rw [if_neg (by have := le_of (by omega) (by omega) c46; omega)]) (zeq (by unfold tkM tkP tkD; rw [if_neg (by have := le_of (by omega) (by omega) c46; omega), if_neg (by have := le_of (by omega) (by omega) c46; omega), if_neg (by have := le_of (by omega) (by omega) c46; omega)]))
    · rw [hc] at c46
      have hlt : k < c := nlt_of (by omega) c46
      have hpk : P k < 63 := hPP k (by omega)
      refine Z_aload_n C 1 d_W_takeDue_49 rfl rfl ?_
      refine C_gW C w 2 (by decide) fl_W_29 rfl rfl d_W_takeDue_50 ?_
      refine Z_aload_n C 1 d_W_takeDue_53 rfl rfl ?_
      refine C_gW C w 1 (by decide) fl_W_17 rfl rfl d_W_takeDue_54 ?_
      refine C_lenY C w d_W_takeDue_57 ?_
      refine Z_icmp_gt (tgt := 128) C d_W_takeDue_58 (by decide) (fun c58 => ?_) (fun c58 => ?_)
      · rw [hc] at c58
        exact absurd c58 (nI_nlt (a := 60) (b := c) (by omega) (by omega)) --stop
      · skip
        refine Z_aload_n C 1 d_W_takeDue_61 rfl rfl ?_
        refine C_gW C w 1 (by decide) fl_W_17 rfl rfl d_W_takeDue_62 ?_
        refine Z_iload_n C 0 d_W_takeDue_65 rfl rfl ?_
        refine C_ldY C w k (nI_clamp (by omega)) (vp_in_nI (by omega) (by decide)) d_W_takeDue_66 ?_
        refine Z_astore_n C d_W_takeDue_67 rfl (by decide) rfl ?_
        refine Z_iload_n C 1 d_W_takeDue_68 rfl rfl ?_
        refine Z_iconst (v := 1) C d_W_takeDue_69 (by decide) ?_
        refine Z_iadd C d_W_takeDue_70 ?_
        refine Z_istore_n C d_W_takeDue_71 rfl (by decide) rfl ?_
        have hy : Z X G (zA G) 4 (zQ X G (some (.ref (V.1 9 (tkD M P D c).2 0))) (eC V (tkM M P c) (tkP M P D c) (tkD M P D c))) (eC V M (pShift P k c) D) 100 [(3, .int (nI c)), (2, .ref (V.1 9 (P k) 0)), (1, .int (nI k)), (0, .ref (V.1 6 0 0))] [] := by
          have hc1 : nI c - 1 = nI (c - 1) := by obtain ⟨z, rfl⟩ : ∃ z, c = z + 1 := ⟨c - 1, by omega⟩; rw [nI_pred]; rfl
          refine Z_aload_n C 3 d_W_takeDue_100 rfl rfl ?_
          refine Z_dup C d_W_takeDue_101 rfl ?_
          refine C_gW C w 2 (by decide) fl_W_29 rfl rfl d_W_takeDue_102 ?_
          refine Z_iconst (v := 1) C d_W_takeDue_105 (by decide) ?_
          refine Z_isub C d_W_takeDue_106 ?_
          refine C_pW C w 2 (by decide) fl_W_29 rfl rfl rfl rfl rfl d_W_takeDue_107 ?_
          refine Z_aload_n C 3 d_W_takeDue_110 rfl rfl ?_
          refine C_gW C w 1 (by decide) fl_W_17 rfl rfl d_W_takeDue_111 ?_
          refine Z_aload_n C 3 d_W_takeDue_114 rfl rfl ?_
          refine C_gW C w 2 (by decide) fl_W_29 rfl rfl d_W_takeDue_115 ?_
          refine Z_aload_n C 3 d_W_takeDue_118 rfl rfl ?_
          refine C_gW C w 5 (by decide) fl_W_26 rfl rfl d_W_takeDue_119 ?_
          refine C_stY C w (by assumption) (c - 1) (by show (M 6 0 0 2 - 1).toNatClampNeg = c - 1; rw [hc, hc1]; exact nI_clamp (by omega)) (by show vp_in (M 6 0 0 2 - 1) 60; rw [hc, hc1]; exact vp_in_nI (by omega) (by decide)) d_W_takeDue_122 ?_
          refine Z_aload_n C 3 d_W_takeDue_123 rfl rfl ?_
          refine Z_aload_n C 1 d_W_takeDue_124 rfl rfl ?_
          refine C_pT C w fl_W_26 d_W_takeDue_125 ?_
          refine Z_aload_n C 3 d_W_takeDue_128 rfl rfl ?_
          refine C_gW C w 5 (by decide) fl_W_26 rfl rfl d_W_takeDue_129 ?_
          exact Z_aret C hN hr (Or.inl ⟨_, rfl⟩) (Or.inr ⟨_, rfl⟩) d_W_takeDue_132 (by unfold tkD; rw [if_pos (by omega), ← hk]) (zeq (by unfold tkM tkP tkD; rw [if_pos (by omega), if_pos (by omega), if_pos (by omega), ← hk, ← hc1, ← hc]))
        have hlp : ∀ (n m : Nat), m + n = c → k < m → Z X G (zA G) 4 (zQ X G (some (.ref (V.1 9 (tkD M P D c).2 0))) (eC V (tkM M P c) (tkP M P D c) (tkD M P D c))) (eC V M (pShift P k m) D) 72 [(3, .int (nI m)), (2, .ref (V.1 9 (P k) 0)), (1, .int (nI k)), (0, .ref (V.1 6 0 0))] [] := by
          intro n
          induction n with
          | zero =>
            intro m h1 h2
            obtain rfl : m = c := by omega
            refine Z_iload_n C 0 d_W_takeDue_72 rfl rfl ?_
            refine Z_aload_n C 3 d_W_takeDue_73 rfl rfl ?_
            refine C_gW C w 2 (by decide) fl_W_29 rfl rfl d_W_takeDue_74 ?_
            refine Z_icmp_ge (tgt := 100) C d_W_takeDue_77 (by decide) (fun c77 => ?_) (fun c77 => ?_)
            · skip
              exact hy
            · rw [hc] at c77
              exact absurd (nI_le (Nat.le_refl _) (by omega)) c77 --stop
          | succ n ih =>
            intro m h1 h2
            have hpm : pShift P k m m < 63 := by unfold pShift; rw [if_neg (by omega)]; exact hPP m (by omega)
            have hm1 : nI m - 1 = nI (m - 1) := by obtain ⟨z, rfl⟩ : ∃ z, m = z + 1 := ⟨m - 1, by omega⟩; rw [nI_pred]; rfl
            refine Z_iload_n C 0 d_W_takeDue_72 rfl rfl ?_
            refine Z_aload_n C 3 d_W_takeDue_73 rfl rfl ?_
            refine C_gW C w 2 (by decide) fl_W_29 rfl rfl d_W_takeDue_74 ?_
            refine Z_icmp_ge (tgt := 100) C d_W_takeDue_77 (by decide) (fun c77 => ?_) (fun c77 => ?_)
            · rw [hc] at c77
              exact absurd c77 (nI_ge (a := m) (b := c) (by omega) (by omega)) --stop
            · skip
              refine Z_aload_n C 3 d_W_takeDue_80 rfl rfl ?_
              refine C_gW C w 1 (by decide) fl_W_17 rfl rfl d_W_takeDue_81 ?_
              refine Z_iload_n C 0 d_W_takeDue_84 rfl rfl ?_
              refine Z_iconst (v := 1) C d_W_takeDue_85 (by decide) ?_
              refine Z_isub C d_W_takeDue_86 ?_
              refine Z_aload_n C 3 d_W_takeDue_87 rfl rfl ?_
              refine C_gW C w 1 (by decide) fl_W_17 rfl rfl d_W_takeDue_88 ?_
              refine Z_iload_n C 0 d_W_takeDue_91 rfl rfl ?_
              refine C_ldY C w m (nI_clamp (by omega)) (vp_in_nI (by omega) (by decide)) d_W_takeDue_92 ?_
              refine C_stY C w (by assumption) (m - 1) (by rw [hm1]; exact nI_clamp (by omega)) (by rw [hm1]; exact vp_in_nI (by omega) (by decide)) d_W_takeDue_93 ?_
              refine Z_iinc 0 C d_W_takeDue_94 rfl (nI_1 m) (by decide) rfl ?_
              refine Z_goto (tgt := 72) C d_W_takeDue_97 (by decide) ?_
              have := ih (m + 1) (by omega) (by omega)
              rw [← pShift_s P k m h2] at this
              exact this
        have := hlp (c - (k + 1)) (k + 1) (by omega) (by omega)
        rw [pShift_0, ← nI_1] at this
        exact this
  have hlp : ∀ (n i : Nat), i + n = c → kDue M P c n i = kDue M P c c 0 → Z X G (zA G) 4 (zQ X G (some (.ref (V.1 9 (tkD M P D c).2 0))) (eC V (tkM M P c) (tkP M P D c) (tkD M P D c))) (eC V M P D) 2 [(1, .int (nI i)), (0, .ref (V.1 6 0 0))] [] := by
    intro n
    induction n with
    | zero =>
      intro i h1 h2
      refine Z_iload_n C 0 d_W_takeDue_2 rfl rfl ?_
      refine Z_aload_n C 1 d_W_takeDue_3 rfl rfl ?_
      refine C_gW C w 2 (by decide) fl_W_29 rfl rfl d_W_takeDue_4 ?_
      refine Z_icmp_ge (tgt := 41) C d_W_takeDue_7 (by decide) (fun c7 => ?_) (fun c7 => ?_)
      · skip
        exact hx i h2
      · rw [hc] at c7
        exact absurd (nI_le (by omega) (by omega)) c7 --stop
    | succ n ih =>
      intro i h1 h2
      have hpi : P i < 63 := hPP i (by omega)
      refine Z_iload_n C 0 d_W_takeDue_2 rfl rfl ?_
      refine Z_aload_n C 1 d_W_takeDue_3 rfl rfl ?_
      refine C_gW C w 2 (by decide) fl_W_29 rfl rfl d_W_takeDue_4 ?_
      refine Z_icmp_ge (tgt := 41) C d_W_takeDue_7 (by decide) (fun c7 => ?_) (fun c7 => ?_)
      · rw [hc] at c7
        exact absurd c7 (nI_ge (a := i) (b := c) (by omega) (by omega)) --stop
      · skip
        refine Z_iload_n C 0 d_W_takeDue_10 rfl rfl ?_
        refine Z_aload_n C 1 d_W_takeDue_11 rfl rfl ?_
        refine C_gW C w 1 (by decide) fl_W_17 rfl rfl d_W_takeDue_12 ?_
        refine C_lenY C w d_W_takeDue_15 ?_
        refine Z_icmp_ge (tgt := 41) C d_W_takeDue_16 (by decide) (fun c16 => ?_) (fun c16 => ?_)
        · exact absurd c16 (nI_ge (a := i) (b := 60) (by omega) (by decide)) --stop
        · skip
          refine Z_aload_n C 1 d_W_takeDue_19 rfl rfl ?_
          refine C_gW C w 1 (by decide) fl_W_17 rfl rfl d_W_takeDue_20 ?_
          refine Z_iload_n C 0 d_W_takeDue_23 rfl rfl ?_
          refine C_ldY C w i (nI_clamp (by omega)) (vp_in_nI (by omega) (by decide)) d_W_takeDue_24 ?_
          refine C_gF C w (by assumption) 8 (by decide) fl_W_33 rfl rfl d_W_takeDue_25 ?_
          refine Z_aload_n C 1 d_W_takeDue_28 rfl rfl ?_
          refine C_gW C w 3 (by decide) fl_W_36 rfl rfl d_W_takeDue_29 ?_
          refine Z_icmp_le (tgt := 41) C d_W_takeDue_32 (by decide) (fun c32 => ?_) (fun c32 => ?_)
          · skip
            exact hx i (by rw [← h2]; unfold kDue; rw [if_pos c32])
          · skip
            refine Z_iinc 0 C d_W_takeDue_35 rfl (nI_1 i) (by decide) rfl ?_
            refine Z_goto (tgt := 2) C d_W_takeDue_38 (by decide) ?_
            exact ih (i + 1) (by omega) (by rw [← h2]; conv => rhs; unfold kDue; rw [if_neg c32])
  exact hlp c 0 (by omega) rfl
/-- the draft goes over the switch, by a port, from a known station -/
def cyKnown (M : zM) (x : Int32) : Int32 := if x < 0 then 0 else if 16 ≤ x then 0 else if M 7 0 0 x.toNatClampNeg = -1 then 0 else 1
def cyPorts (M : zM) (x port : Int32) : Int32 := (if cyKnown M x = 0 then 31 else (1 : Int32) <<< (M 7 0 0 x.toNatClampNeg &&& 31)) &&& (((1 : Int32) <<< (port &&& 31)) ^^^ (-1))
def cyM (M : zM) (d c s : Nat) (port delay : Int32) : zM := if c = 60 then up M 7 0 0 s port else up (up (up (up M 7 0 0 s port) 9 d 0 7 (cyPorts (up M 7 0 0 s port) (M 9 d 0 4) port)) 9 d 0 8 (M 6 0 0 3 + delay)) 6 0 0 2 (nI (c + 1))
def cyP (P : Nat → Nat) (D : Nat × Nat) (c : Nat) : Nat → Nat := if c = 60 then P else va_up P c D.1
def cyD (P : Nat → Nat) (D : Nat × Nat) (c : Nat) : Nat × Nat := if c = 60 then D else (P c, D.2)
theorem cyKnown_in {M : zM} {x : Int32} (h : ¬ cyKnown M x = 0) : vp_in x 16 := by
  unfold cyKnown at h
  by_cases h1 : x < 0
  · rw [if_pos h1] at h; exact absurd rfl h
  · by_cases h2 : (16 : Int32) ≤ x
    · rw [if_neg h1, if_pos h2] at h; exact absurd rfl h
    · exact vp_inc h1 h2 rfl
theorem lt60 {x : Int32} {c : Nat} (hc : x = nI c) (h : c ≤ 60) (h1 : x < 60) : c < 60 := by
  rcases Nat.lt_or_ge c 60 with q | q
  · exact q
  · rw [hc] at h1
    exact absurd h1 (nI_nlt (a := c) (b := 60) q (by omega))
theorem ge60 {x : Int32} {c : Nat} (hc : x = nI c) (h : c ≤ 60) (h1 : ¬ x < 60) : c = 60 := by
  rcases Nat.lt_or_ge c 60 with q | q
  · rw [hc] at h1
    exact absurd (nI_lt (a := c) (b := 60) q (by omega)) h1
  · omega
set_option maxRecDepth 100000 in
set_option maxHeartbeats 4000000 in
theorem c_W_carryDraft {l : Launch} {G : zG} {V : zV} (w : wC G V) (M : zM) (P : Nat → Nat) (D : Nat × Nat) (port delay : Int32) (c s : Nat) (hc : M 6 0 0 2 = nI c) (hc60 : c ≤ 60) (hD1 : D.1 < 63) (hPP : ∀ n, n < 60 → P n < 63) (hs : M 9 D.1 0 3 = nI s) (hs16 : s < 16) : zF l y_W_carryDraft b_W_carryDraft 6 none 0 0 G [.ref (V.1 6 0 0), .int port, .int delay] (eC V M P D) none (eC V (cyM M D.1 c s port delay) (cyP P D c) (cyD P D c)) := by
  refine zF.ofZ (by decide) w.2.2.2.2 (Nat.le_of_ble_eq_true rfl) (fun X hXl hN hr C => ?_)
  subst hXl
  show Z X G (zA G) 6 _ (eC V M P D) 0 [(0, .ref (V.1 6 0 0)), (1, .int port), (2, .int delay)] []
  refine Z_aload_n C 0 d_W_carryDraft_0 rfl rfl ?_
  refine C_gW C w 4 (by decide) fl_W_22 rfl rfl d_W_carryDraft_1 ?_
  refine C_gF C w (by assumption) 3 (by decide) fl_W_45 rfl rfl d_W_carryDraft_4 ?_
  refine Z_if_lt (tgt := 38) C d_W_carryDraft_7 (by decide) (fun c7 => ?_) (fun c7 => ?_)
  · exact absurd (show nI s < 0 from by rw [← hs]; exact c7) (nI_pos (by omega)) --stop
  · skip
    refine Z_aload_n C 0 d_W_carryDraft_10 rfl rfl ?_
    refine C_gW C w 4 (by decide) fl_W_22 rfl rfl d_W_carryDraft_11 ?_
    refine C_gF C w (by assumption) 3 (by decide) fl_W_45 rfl rfl d_W_carryDraft_14 ?_
    refine Z_aload_n C 0 d_W_carryDraft_17 rfl rfl ?_
    refine C_gW C w 0 (by decide) fl_W_9 rfl rfl d_W_carryDraft_18 ?_
    refine C_lenP C w d_W_carryDraft_21 ?_
    refine Z_icmp_ge (tgt := 38) C d_W_carryDraft_22 (by decide) (fun c22 => ?_) (fun c22 => ?_)
    · exact absurd (show nI 16 ≤ nI s from by rw [← hs]; exact c22) (nI_ge (by omega) (by omega)) --stop
    · skip
      refine Z_aload_n C 0 d_W_carryDraft_25 rfl rfl ?_
      refine C_gW C w 0 (by decide) fl_W_9 rfl rfl d_W_carryDraft_26 ?_
      refine Z_aload_n C 0 d_W_carryDraft_29 rfl rfl ?_
      refine C_gW C w 4 (by decide) fl_W_22 rfl rfl d_W_carryDraft_30 ?_
      refine C_gF C w (by assumption) 3 (by decide) fl_W_45 rfl rfl d_W_carryDraft_33 ?_
      refine Z_iload_n C 1 d_W_carryDraft_36 rfl rfl ?_
      refine C_stP C w s (by show (M 9 D.1 0 3).toNatClampNeg = s; rw [hs]; exact nI_clamp (by omega)) (by show vp_in (M 9 D.1 0 3) 16; rw [hs]; exact vp_in_nI hs16 (by decide)) d_W_carryDraft_37 ?_
      refine Z_aload_n C 0 d_W_carryDraft_38 rfl rfl ?_
      refine C_gW C w 2 (by decide) fl_W_29 rfl rfl d_W_carryDraft_39 ?_
      refine Z_if_lt (tgt := 57) C d_W_carryDraft_42 (by decide) (fun c42 => ?_) (fun c42 => ?_)
      · exact absurd (show nI c < 0 from by rw [← hc]; exact c42) (nI_pos (by omega)) --stop
      · skip
        refine Z_aload_n C 0 d_W_carryDraft_45 rfl rfl ?_
        refine C_gW C w 2 (by decide) fl_W_29 rfl rfl d_W_carryDraft_46 ?_
        refine Z_aload_n C 0 d_W_carryDraft_49 rfl rfl ?_
        refine C_gW C w 1 (by decide) fl_W_17 rfl rfl d_W_carryDraft_50 ?_
        refine C_lenY C w d_W_carryDraft_53 ?_
        refine Z_icmp_lt (tgt := 58) C d_W_carryDraft_54 (by decide) (fun c54 => ?_) (fun c54 => ?_)
        · have hlt : c < 60 := lt60 hc hc60 c54
          refine Z_aload_n C 0 d_W_carryDraft_58 rfl rfl ?_
          refine C_gW C w 4 (by decide) fl_W_22 rfl rfl d_W_carryDraft_59 ?_
          refine C_gF C w (by assumption) 4 (by decide) fl_W_48 rfl rfl d_W_carryDraft_62 ?_
          refine Z_if_lt (tgt := 103) C d_W_carryDraft_65 (by decide) (fun c65 => ?_) (fun c65 => ?_)
          · have c65 : M 9 D.1 0 4 < 0 := c65
            refine Z_iconst (v := 0) C d_W_carryDraft_103 (by decide) ?_
            refine zst (st' := [.int (cyKnown (up M 7 0 0 s port) (M 9 D.1 0 4))]) (by unfold cyKnown; simp [c65]) ?_
            refine Z_istore_n C d_W_carryDraft_104 rfl (by decide) rfl ?_
            refine Z_iload_n C 0 d_W_carryDraft_105 rfl rfl ?_
            refine Z_if_eq (tgt := 126) C d_W_carryDraft_106 (by decide) (fun c106 => ?_) (fun c106 => ?_)
            · skip
              refine Z_bipush (v := 31) C d_W_carryDraft_126 (by decide) ?_
              refine zst (st' := [.int (if cyKnown (up M 7 0 0 s port) (M 9 D.1 0 4) = 0 then 31 else (1 : Int32) <<< ((up M 7 0 0 s port) 7 0 0 (M 9 D.1 0 4).toNatClampNeg &&& 31))]) (by first | (rw [if_pos c106]; done) | (rw [if_neg c106]; done) | (rw [if_neg c106]; rfl)) ?_
              refine Z_istore C d_W_carryDraft_128 (by decide) rfl ?_
              refine Z_aload_n C 2 d_W_carryDraft_130 rfl rfl ?_
              refine C_gW C w 4 (by decide) fl_W_22 rfl rfl d_W_carryDraft_131 ?_
              refine Z_iload C 0 d_W_carryDraft_134 rfl ?_
              refine Z_iconst (v := 1) C d_W_carryDraft_136 (by decide) ?_
              refine Z_iload_n C 3 d_W_carryDraft_137 rfl rfl ?_
              refine Z_ishl C d_W_carryDraft_138 ?_
              refine Z_iconst (v := (-1)) C d_W_carryDraft_139 (by decide) ?_
              refine Z_ixor C d_W_carryDraft_140 ?_
              refine Z_iand C d_W_carryDraft_141 ?_
              refine C_pF C w (by assumption) 7 (by decide) fl_W_57 rfl rfl rfl rfl rfl d_W_carryDraft_142 ?_
              refine Z_aload_n C 2 d_W_carryDraft_145 rfl rfl ?_
              refine C_gW C w 4 (by decide) fl_W_22 rfl rfl d_W_carryDraft_146 ?_
              refine Z_aload_n C 2 d_W_carryDraft_149 rfl rfl ?_
              refine C_gW C w 3 (by decide) fl_W_36 rfl rfl d_W_carryDraft_150 ?_
              refine Z_iload_n C 4 d_W_carryDraft_153 rfl rfl ?_
              refine Z_iadd C d_W_carryDraft_154 ?_
              refine C_pF C w (by assumption) 8 (by decide) fl_W_33 rfl rfl rfl rfl rfl d_W_carryDraft_155 ?_
              refine Z_aload_n C 2 d_W_carryDraft_158 rfl rfl ?_
              refine C_gW C w 1 (by decide) fl_W_17 rfl rfl d_W_carryDraft_159 ?_
              refine Z_aload_n C 2 d_W_carryDraft_162 rfl rfl ?_
              refine C_gW C w 2 (by decide) fl_W_29 rfl rfl d_W_carryDraft_163 ?_
              refine C_ldY C w c (by show (M 6 0 0 2).toNatClampNeg = c; rw [hc]; exact nI_clamp (by omega)) (by show vp_in (M 6 0 0 2) 60; rw [hc]; exact vp_in_nI (by omega) (by decide)) d_W_carryDraft_166 ?_
              refine Z_astore C d_W_carryDraft_167 (by decide) rfl ?_
              refine Z_aload_n C 3 d_W_carryDraft_169 rfl rfl ?_
              refine C_gW C w 1 (by decide) fl_W_17 rfl rfl d_W_carryDraft_170 ?_
              refine Z_aload_n C 3 d_W_carryDraft_173 rfl rfl ?_
              refine C_gW C w 2 (by decide) fl_W_29 rfl rfl d_W_carryDraft_174 ?_
              refine Z_aload_n C 3 d_W_carryDraft_177 rfl rfl ?_
              refine C_gW C w 4 (by decide) fl_W_22 rfl rfl d_W_carryDraft_178 ?_
              refine C_stY C w (by assumption) c (by show (M 6 0 0 2).toNatClampNeg = c; rw [hc]; exact nI_clamp (by omega)) (by show vp_in (M 6 0 0 2) 60; rw [hc]; exact vp_in_nI (by omega) (by decide)) d_W_carryDraft_181 ?_
              refine Z_aload_n C 3 d_W_carryDraft_182 rfl rfl ?_
              refine Z_dup C d_W_carryDraft_183 rfl ?_
              refine C_gW C w 2 (by decide) fl_W_29 rfl rfl d_W_carryDraft_184 ?_
              refine Z_iconst (v := 1) C d_W_carryDraft_187 (by decide) ?_
              refine Z_iadd C d_W_carryDraft_188 ?_
              refine C_pW C w 2 (by decide) fl_W_29 rfl rfl rfl rfl rfl d_W_carryDraft_189 ?_
              refine Z_aload_n C 3 d_W_carryDraft_192 rfl rfl ?_
              refine Z_aload C 0 d_W_carryDraft_193 rfl ?_
              refine C_pD C w fl_W_22 d_W_carryDraft_195 ?_
              exact Z_vret C hN hr d_W_carryDraft_198 rfl (zeq (by unfold cyM cyP cyD; rw [if_neg (show ¬ c = 60 by omega), if_neg (show ¬ c = 60 by omega), if_neg (show ¬ c = 60 by omega), ← nI_1, ← hc]; rfl))
            · skip
              refine Z_iconst (v := 1) C d_W_carryDraft_109 (by decide) ?_
              refine Z_aload_n C 1 d_W_carryDraft_110 rfl rfl ?_
              refine C_gW C w 0 (by decide) fl_W_9 rfl rfl d_W_carryDraft_111 ?_
              refine Z_aload_n C 1 d_W_carryDraft_114 rfl rfl ?_
              refine C_gW C w 4 (by decide) fl_W_22 rfl rfl d_W_carryDraft_115 ?_
              refine C_gF C w (by assumption) 4 (by decide) fl_W_48 rfl rfl d_W_carryDraft_118 ?_
              refine C_ldP C w (M 9 D.1 0 4).toNatClampNeg rfl (cyKnown_in c106) d_W_carryDraft_121 ?_
              refine Z_ishl C d_W_carryDraft_122 ?_
              refine Z_goto (tgt := 128) C d_W_carryDraft_123 (by decide) ?_
              refine zst (st' := [.int (if cyKnown (up M 7 0 0 s port) (M 9 D.1 0 4) = 0 then 31 else (1 : Int32) <<< ((up M 7 0 0 s port) 7 0 0 (M 9 D.1 0 4).toNatClampNeg &&& 31))]) (by first | (rw [if_pos c106]; done) | (rw [if_neg c106]; done) | (rw [if_neg c106]; rfl)) ?_
              refine Z_istore C d_W_carryDraft_128 (by decide) rfl ?_
              refine Z_aload_n C 2 d_W_carryDraft_130 rfl rfl ?_
              refine C_gW C w 4 (by decide) fl_W_22 rfl rfl d_W_carryDraft_131 ?_
              refine Z_iload C 0 d_W_carryDraft_134 rfl ?_
              refine Z_iconst (v := 1) C d_W_carryDraft_136 (by decide) ?_
              refine Z_iload_n C 3 d_W_carryDraft_137 rfl rfl ?_
              refine Z_ishl C d_W_carryDraft_138 ?_
              refine Z_iconst (v := (-1)) C d_W_carryDraft_139 (by decide) ?_
              refine Z_ixor C d_W_carryDraft_140 ?_
              refine Z_iand C d_W_carryDraft_141 ?_
              refine C_pF C w (by assumption) 7 (by decide) fl_W_57 rfl rfl rfl rfl rfl d_W_carryDraft_142 ?_
              refine Z_aload_n C 2 d_W_carryDraft_145 rfl rfl ?_
              refine C_gW C w 4 (by decide) fl_W_22 rfl rfl d_W_carryDraft_146 ?_
              refine Z_aload_n C 2 d_W_carryDraft_149 rfl rfl ?_
              refine C_gW C w 3 (by decide) fl_W_36 rfl rfl d_W_carryDraft_150 ?_
              refine Z_iload_n C 4 d_W_carryDraft_153 rfl rfl ?_
              refine Z_iadd C d_W_carryDraft_154 ?_
              refine C_pF C w (by assumption) 8 (by decide) fl_W_33 rfl rfl rfl rfl rfl d_W_carryDraft_155 ?_
              refine Z_aload_n C 2 d_W_carryDraft_158 rfl rfl ?_
              refine C_gW C w 1 (by decide) fl_W_17 rfl rfl d_W_carryDraft_159 ?_
              refine Z_aload_n C 2 d_W_carryDraft_162 rfl rfl ?_
              refine C_gW C w 2 (by decide) fl_W_29 rfl rfl d_W_carryDraft_163 ?_
              refine C_ldY C w c (by show (M 6 0 0 2).toNatClampNeg = c; rw [hc]; exact nI_clamp (by omega)) (by show vp_in (M 6 0 0 2) 60; rw [hc]; exact vp_in_nI (by omega) (by decide)) d_W_carryDraft_166 ?_
              refine Z_astore C d_W_carryDraft_167 (by decide) rfl ?_
              refine Z_aload_n C 3 d_W_carryDraft_169 rfl rfl ?_
              refine C_gW C w 1 (by decide) fl_W_17 rfl rfl d_W_carryDraft_170 ?_
              refine Z_aload_n C 3 d_W_carryDraft_173 rfl rfl ?_
              refine C_gW C w 2 (by decide) fl_W_29 rfl rfl d_W_carryDraft_174 ?_
              refine Z_aload_n C 3 d_W_carryDraft_177 rfl rfl ?_
              refine C_gW C w 4 (by decide) fl_W_22 rfl rfl d_W_carryDraft_178 ?_
              refine C_stY C w (by assumption) c (by show (M 6 0 0 2).toNatClampNeg = c; rw [hc]; exact nI_clamp (by omega)) (by show vp_in (M 6 0 0 2) 60; rw [hc]; exact vp_in_nI (by omega) (by decide)) d_W_carryDraft_181 ?_
              refine Z_aload_n C 3 d_W_carryDraft_182 rfl rfl ?_
              refine Z_dup C d_W_carryDraft_183 rfl ?_
              refine C_gW C w 2 (by decide) fl_W_29 rfl rfl d_W_carryDraft_184 ?_
              refine Z_iconst (v := 1) C d_W_carryDraft_187 (by decide) ?_
              refine Z_iadd C d_W_carryDraft_188 ?_
              refine C_pW C w 2 (by decide) fl_W_29 rfl rfl rfl rfl rfl d_W_carryDraft_189 ?_
              refine Z_aload_n C 3 d_W_carryDraft_192 rfl rfl ?_
              refine Z_aload C 0 d_W_carryDraft_193 rfl ?_
              refine C_pD C w fl_W_22 d_W_carryDraft_195 ?_
              exact Z_vret C hN hr d_W_carryDraft_198 rfl (zeq (by unfold cyM cyP cyD; rw [if_neg (show ¬ c = 60 by omega), if_neg (show ¬ c = 60 by omega), if_neg (show ¬ c = 60 by omega), ← nI_1, ← hc]; rfl))
          · have c65 : ¬ M 9 D.1 0 4 < 0 := c65
            refine Z_aload_n C 0 d_W_carryDraft_68 rfl rfl ?_
            refine C_gW C w 4 (by decide) fl_W_22 rfl rfl d_W_carryDraft_69 ?_
            refine C_gF C w (by assumption) 4 (by decide) fl_W_48 rfl rfl d_W_carryDraft_72 ?_
            refine Z_aload_n C 0 d_W_carryDraft_75 rfl rfl ?_
            refine C_gW C w 0 (by decide) fl_W_9 rfl rfl d_W_carryDraft_76 ?_
            refine C_lenP C w d_W_carryDraft_79 ?_
            refine Z_icmp_ge (tgt := 103) C d_W_carryDraft_80 (by decide) (fun c80 => ?_) (fun c80 => ?_)
            · have c80 : 16 ≤ M 9 D.1 0 4 := c80
              refine Z_iconst (v := 0) C d_W_carryDraft_103 (by decide) ?_
              refine zst (st' := [.int (cyKnown (up M 7 0 0 s port) (M 9 D.1 0 4))]) (by unfold cyKnown; simp [c65, c80]) ?_
              refine Z_istore_n C d_W_carryDraft_104 rfl (by decide) rfl ?_
              refine Z_iload_n C 0 d_W_carryDraft_105 rfl rfl ?_
              refine Z_if_eq (tgt := 126) C d_W_carryDraft_106 (by decide) (fun c106 => ?_) (fun c106 => ?_)
              · skip
                refine Z_bipush (v := 31) C d_W_carryDraft_126 (by decide) ?_
                refine zst (st' := [.int (if cyKnown (up M 7 0 0 s port) (M 9 D.1 0 4) = 0 then 31 else (1 : Int32) <<< ((up M 7 0 0 s port) 7 0 0 (M 9 D.1 0 4).toNatClampNeg &&& 31))]) (by first | (rw [if_pos c106]; done) | (rw [if_neg c106]; done) | (rw [if_neg c106]; rfl)) ?_
                refine Z_istore C d_W_carryDraft_128 (by decide) rfl ?_
                refine Z_aload_n C 2 d_W_carryDraft_130 rfl rfl ?_
                refine C_gW C w 4 (by decide) fl_W_22 rfl rfl d_W_carryDraft_131 ?_
                refine Z_iload C 0 d_W_carryDraft_134 rfl ?_
                refine Z_iconst (v := 1) C d_W_carryDraft_136 (by decide) ?_
                refine Z_iload_n C 3 d_W_carryDraft_137 rfl rfl ?_
                refine Z_ishl C d_W_carryDraft_138 ?_
                refine Z_iconst (v := (-1)) C d_W_carryDraft_139 (by decide) ?_
                refine Z_ixor C d_W_carryDraft_140 ?_
                refine Z_iand C d_W_carryDraft_141 ?_
                refine C_pF C w (by assumption) 7 (by decide) fl_W_57 rfl rfl rfl rfl rfl d_W_carryDraft_142 ?_
                refine Z_aload_n C 2 d_W_carryDraft_145 rfl rfl ?_
                refine C_gW C w 4 (by decide) fl_W_22 rfl rfl d_W_carryDraft_146 ?_
                refine Z_aload_n C 2 d_W_carryDraft_149 rfl rfl ?_
                refine C_gW C w 3 (by decide) fl_W_36 rfl rfl d_W_carryDraft_150 ?_
                refine Z_iload_n C 4 d_W_carryDraft_153 rfl rfl ?_
                refine Z_iadd C d_W_carryDraft_154 ?_
                refine C_pF C w (by assumption) 8 (by decide) fl_W_33 rfl rfl rfl rfl rfl d_W_carryDraft_155 ?_
                refine Z_aload_n C 2 d_W_carryDraft_158 rfl rfl ?_
                refine C_gW C w 1 (by decide) fl_W_17 rfl rfl d_W_carryDraft_159 ?_
                refine Z_aload_n C 2 d_W_carryDraft_162 rfl rfl ?_
                refine C_gW C w 2 (by decide) fl_W_29 rfl rfl d_W_carryDraft_163 ?_
                refine C_ldY C w c (by show (M 6 0 0 2).toNatClampNeg = c; rw [hc]; exact nI_clamp (by omega)) (by show vp_in (M 6 0 0 2) 60; rw [hc]; exact vp_in_nI (by omega) (by decide)) d_W_carryDraft_166 ?_
                refine Z_astore C d_W_carryDraft_167 (by decide) rfl ?_
                refine Z_aload_n C 3 d_W_carryDraft_169 rfl rfl ?_
                refine C_gW C w 1 (by decide) fl_W_17 rfl rfl d_W_carryDraft_170 ?_
                refine Z_aload_n C 3 d_W_carryDraft_173 rfl rfl ?_
                refine C_gW C w 2 (by decide) fl_W_29 rfl rfl d_W_carryDraft_174 ?_
                refine Z_aload_n C 3 d_W_carryDraft_177 rfl rfl ?_
                refine C_gW C w 4 (by decide) fl_W_22 rfl rfl d_W_carryDraft_178 ?_
                refine C_stY C w (by assumption) c (by show (M 6 0 0 2).toNatClampNeg = c; rw [hc]; exact nI_clamp (by omega)) (by show vp_in (M 6 0 0 2) 60; rw [hc]; exact vp_in_nI (by omega) (by decide)) d_W_carryDraft_181 ?_
                refine Z_aload_n C 3 d_W_carryDraft_182 rfl rfl ?_
                refine Z_dup C d_W_carryDraft_183 rfl ?_
                refine C_gW C w 2 (by decide) fl_W_29 rfl rfl d_W_carryDraft_184 ?_
                refine Z_iconst (v := 1) C d_W_carryDraft_187 (by decide) ?_
                refine Z_iadd C d_W_carryDraft_188 ?_
                refine C_pW C w 2 (by decide) fl_W_29 rfl rfl rfl rfl rfl d_W_carryDraft_189 ?_
                refine Z_aload_n C 3 d_W_carryDraft_192 rfl rfl ?_
                refine Z_aload C 0 d_W_carryDraft_193 rfl ?_
                refine C_pD C w fl_W_22 d_W_carryDraft_195 ?_
                exact Z_vret C hN hr d_W_carryDraft_198 rfl (zeq (by unfold cyM cyP cyD; rw [if_neg (show ¬ c = 60 by omega), if_neg (show ¬ c = 60 by omega), if_neg (show ¬ c = 60 by omega), ← nI_1, ← hc]; rfl))
              · skip
                refine Z_iconst (v := 1) C d_W_carryDraft_109 (by decide) ?_
                refine Z_aload_n C 1 d_W_carryDraft_110 rfl rfl ?_
                refine C_gW C w 0 (by decide) fl_W_9 rfl rfl d_W_carryDraft_111 ?_
                refine Z_aload_n C 1 d_W_carryDraft_114 rfl rfl ?_
                refine C_gW C w 4 (by decide) fl_W_22 rfl rfl d_W_carryDraft_115 ?_
                refine C_gF C w (by assumption) 4 (by decide) fl_W_48 rfl rfl d_W_carryDraft_118 ?_
                refine C_ldP C w (M 9 D.1 0 4).toNatClampNeg rfl (cyKnown_in c106) d_W_carryDraft_121 ?_
                refine Z_ishl C d_W_carryDraft_122 ?_
                refine Z_goto (tgt := 128) C d_W_carryDraft_123 (by decide) ?_
                refine zst (st' := [.int (if cyKnown (up M 7 0 0 s port) (M 9 D.1 0 4) = 0 then 31 else (1 : Int32) <<< ((up M 7 0 0 s port) 7 0 0 (M 9 D.1 0 4).toNatClampNeg &&& 31))]) (by first | (rw [if_pos c106]; done) | (rw [if_neg c106]; done) | (rw [if_neg c106]; rfl)) ?_
                refine Z_istore C d_W_carryDraft_128 (by decide) rfl ?_
                refine Z_aload_n C 2 d_W_carryDraft_130 rfl rfl ?_
                refine C_gW C w 4 (by decide) fl_W_22 rfl rfl d_W_carryDraft_131 ?_
                refine Z_iload C 0 d_W_carryDraft_134 rfl ?_
                refine Z_iconst (v := 1) C d_W_carryDraft_136 (by decide) ?_
                refine Z_iload_n C 3 d_W_carryDraft_137 rfl rfl ?_
                refine Z_ishl C d_W_carryDraft_138 ?_
                refine Z_iconst (v := (-1)) C d_W_carryDraft_139 (by decide) ?_
                refine Z_ixor C d_W_carryDraft_140 ?_
                refine Z_iand C d_W_carryDraft_141 ?_
                refine C_pF C w (by assumption) 7 (by decide) fl_W_57 rfl rfl rfl rfl rfl d_W_carryDraft_142 ?_
                refine Z_aload_n C 2 d_W_carryDraft_145 rfl rfl ?_
                refine C_gW C w 4 (by decide) fl_W_22 rfl rfl d_W_carryDraft_146 ?_
                refine Z_aload_n C 2 d_W_carryDraft_149 rfl rfl ?_
                refine C_gW C w 3 (by decide) fl_W_36 rfl rfl d_W_carryDraft_150 ?_
                refine Z_iload_n C 4 d_W_carryDraft_153 rfl rfl ?_
                refine Z_iadd C d_W_carryDraft_154 ?_
                refine C_pF C w (by assumption) 8 (by decide) fl_W_33 rfl rfl rfl rfl rfl d_W_carryDraft_155 ?_
                refine Z_aload_n C 2 d_W_carryDraft_158 rfl rfl ?_
                refine C_gW C w 1 (by decide) fl_W_17 rfl rfl d_W_carryDraft_159 ?_
                refine Z_aload_n C 2 d_W_carryDraft_162 rfl rfl ?_
                refine C_gW C w 2 (by decide) fl_W_29 rfl rfl d_W_carryDraft_163 ?_
                refine C_ldY C w c (by show (M 6 0 0 2).toNatClampNeg = c; rw [hc]; exact nI_clamp (by omega)) (by show vp_in (M 6 0 0 2) 60; rw [hc]; exact vp_in_nI (by omega) (by decide)) d_W_carryDraft_166 ?_
                refine Z_astore C d_W_carryDraft_167 (by decide) rfl ?_
                refine Z_aload_n C 3 d_W_carryDraft_169 rfl rfl ?_
                refine C_gW C w 1 (by decide) fl_W_17 rfl rfl d_W_carryDraft_170 ?_
                refine Z_aload_n C 3 d_W_carryDraft_173 rfl rfl ?_
                refine C_gW C w 2 (by decide) fl_W_29 rfl rfl d_W_carryDraft_174 ?_
                refine Z_aload_n C 3 d_W_carryDraft_177 rfl rfl ?_
                refine C_gW C w 4 (by decide) fl_W_22 rfl rfl d_W_carryDraft_178 ?_
                refine C_stY C w (by assumption) c (by show (M 6 0 0 2).toNatClampNeg = c; rw [hc]; exact nI_clamp (by omega)) (by show vp_in (M 6 0 0 2) 60; rw [hc]; exact vp_in_nI (by omega) (by decide)) d_W_carryDraft_181 ?_
                refine Z_aload_n C 3 d_W_carryDraft_182 rfl rfl ?_
                refine Z_dup C d_W_carryDraft_183 rfl ?_
                refine C_gW C w 2 (by decide) fl_W_29 rfl rfl d_W_carryDraft_184 ?_
                refine Z_iconst (v := 1) C d_W_carryDraft_187 (by decide) ?_
                refine Z_iadd C d_W_carryDraft_188 ?_
                refine C_pW C w 2 (by decide) fl_W_29 rfl rfl rfl rfl rfl d_W_carryDraft_189 ?_
                refine Z_aload_n C 3 d_W_carryDraft_192 rfl rfl ?_
                refine Z_aload C 0 d_W_carryDraft_193 rfl ?_
                refine C_pD C w fl_W_22 d_W_carryDraft_195 ?_
                exact Z_vret C hN hr d_W_carryDraft_198 rfl (zeq (by unfold cyM cyP cyD; rw [if_neg (show ¬ c = 60 by omega), if_neg (show ¬ c = 60 by omega), if_neg (show ¬ c = 60 by omega), ← nI_1, ← hc]; rfl))
            · have c80 : ¬ 16 ≤ M 9 D.1 0 4 := c80
              refine Z_aload_n C 0 d_W_carryDraft_83 rfl rfl ?_
              refine C_gW C w 0 (by decide) fl_W_9 rfl rfl d_W_carryDraft_84 ?_
              refine Z_aload_n C 0 d_W_carryDraft_87 rfl rfl ?_
              refine C_gW C w 4 (by decide) fl_W_22 rfl rfl d_W_carryDraft_88 ?_
              refine C_gF C w (by assumption) 4 (by decide) fl_W_48 rfl rfl d_W_carryDraft_91 ?_
              refine C_ldP C w (M 9 D.1 0 4).toNatClampNeg rfl (vp_inc c65 c80 rfl) d_W_carryDraft_94 ?_
              refine Z_iconst (v := (-1)) C d_W_carryDraft_95 (by decide) ?_
              refine Z_icmp_eq (tgt := 103) C d_W_carryDraft_96 (by decide) (fun c96 => ?_) (fun c96 => ?_)
              · have c96 : (up M 7 0 0 s port) 7 0 0 (M 9 D.1 0 4).toNatClampNeg = -1 := c96
                refine Z_iconst (v := 0) C d_W_carryDraft_103 (by decide) ?_
                refine zst (st' := [.int (cyKnown (up M 7 0 0 s port) (M 9 D.1 0 4))]) (by unfold cyKnown; simp [c65, c80, c96]) ?_
                refine Z_istore_n C d_W_carryDraft_104 rfl (by decide) rfl ?_
                refine Z_iload_n C 0 d_W_carryDraft_105 rfl rfl ?_
                refine Z_if_eq (tgt := 126) C d_W_carryDraft_106 (by decide) (fun c106 => ?_) (fun c106 => ?_)
                · skip
                  refine Z_bipush (v := 31) C d_W_carryDraft_126 (by decide) ?_
                  refine zst (st' := [.int (if cyKnown (up M 7 0 0 s port) (M 9 D.1 0 4) = 0 then 31 else (1 : Int32) <<< ((up M 7 0 0 s port) 7 0 0 (M 9 D.1 0 4).toNatClampNeg &&& 31))]) (by first | (rw [if_pos c106]; done) | (rw [if_neg c106]; done) | (rw [if_neg c106]; rfl)) ?_
                  refine Z_istore C d_W_carryDraft_128 (by decide) rfl ?_
                  refine Z_aload_n C 2 d_W_carryDraft_130 rfl rfl ?_
                  refine C_gW C w 4 (by decide) fl_W_22 rfl rfl d_W_carryDraft_131 ?_
                  refine Z_iload C 0 d_W_carryDraft_134 rfl ?_
                  refine Z_iconst (v := 1) C d_W_carryDraft_136 (by decide) ?_
                  refine Z_iload_n C 3 d_W_carryDraft_137 rfl rfl ?_
                  refine Z_ishl C d_W_carryDraft_138 ?_
                  refine Z_iconst (v := (-1)) C d_W_carryDraft_139 (by decide) ?_
                  refine Z_ixor C d_W_carryDraft_140 ?_
                  refine Z_iand C d_W_carryDraft_141 ?_
                  refine C_pF C w (by assumption) 7 (by decide) fl_W_57 rfl rfl rfl rfl rfl d_W_carryDraft_142 ?_
                  refine Z_aload_n C 2 d_W_carryDraft_145 rfl rfl ?_
                  refine C_gW C w 4 (by decide) fl_W_22 rfl rfl d_W_carryDraft_146 ?_
                  refine Z_aload_n C 2 d_W_carryDraft_149 rfl rfl ?_
                  refine C_gW C w 3 (by decide) fl_W_36 rfl rfl d_W_carryDraft_150 ?_
                  refine Z_iload_n C 4 d_W_carryDraft_153 rfl rfl ?_
                  refine Z_iadd C d_W_carryDraft_154 ?_
                  refine C_pF C w (by assumption) 8 (by decide) fl_W_33 rfl rfl rfl rfl rfl d_W_carryDraft_155 ?_
                  refine Z_aload_n C 2 d_W_carryDraft_158 rfl rfl ?_
                  refine C_gW C w 1 (by decide) fl_W_17 rfl rfl d_W_carryDraft_159 ?_
                  refine Z_aload_n C 2 d_W_carryDraft_162 rfl rfl ?_
                  refine C_gW C w 2 (by decide) fl_W_29 rfl rfl d_W_carryDraft_163 ?_
                  refine C_ldY C w c (by show (M 6 0 0 2).toNatClampNeg = c; rw [hc]; exact nI_clamp (by omega)) (by show vp_in (M 6 0 0 2) 60; rw [hc]; exact vp_in_nI (by omega) (by decide)) d_W_carryDraft_166 ?_
                  refine Z_astore C d_W_carryDraft_167 (by decide) rfl ?_
                  refine Z_aload_n C 3 d_W_carryDraft_169 rfl rfl ?_
                  refine C_gW C w 1 (by decide) fl_W_17 rfl rfl d_W_carryDraft_170 ?_
                  refine Z_aload_n C 3 d_W_carryDraft_173 rfl rfl ?_
                  refine C_gW C w 2 (by decide) fl_W_29 rfl rfl d_W_carryDraft_174 ?_
                  refine Z_aload_n C 3 d_W_carryDraft_177 rfl rfl ?_
                  refine C_gW C w 4 (by decide) fl_W_22 rfl rfl d_W_carryDraft_178 ?_
                  refine C_stY C w (by assumption) c (by show (M 6 0 0 2).toNatClampNeg = c; rw [hc]; exact nI_clamp (by omega)) (by show vp_in (M 6 0 0 2) 60; rw [hc]; exact vp_in_nI (by omega) (by decide)) d_W_carryDraft_181 ?_
                  refine Z_aload_n C 3 d_W_carryDraft_182 rfl rfl ?_
                  refine Z_dup C d_W_carryDraft_183 rfl ?_
                  refine C_gW C w 2 (by decide) fl_W_29 rfl rfl d_W_carryDraft_184 ?_
                  refine Z_iconst (v := 1) C d_W_carryDraft_187 (by decide) ?_
                  refine Z_iadd C d_W_carryDraft_188 ?_
                  refine C_pW C w 2 (by decide) fl_W_29 rfl rfl rfl rfl rfl d_W_carryDraft_189 ?_
                  refine Z_aload_n C 3 d_W_carryDraft_192 rfl rfl ?_
                  refine Z_aload C 0 d_W_carryDraft_193 rfl ?_
                  refine C_pD C w fl_W_22 d_W_carryDraft_195 ?_
                  exact Z_vret C hN hr d_W_carryDraft_198 rfl (zeq (by unfold cyM cyP cyD; rw [if_neg (show ¬ c = 60 by omega), if_neg (show ¬ c = 60 by omega), if_neg (show ¬ c = 60 by omega), ← nI_1, ← hc]; rfl))
                · skip
                  refine Z_iconst (v := 1) C d_W_carryDraft_109 (by decide) ?_
                  refine Z_aload_n C 1 d_W_carryDraft_110 rfl rfl ?_
                  refine C_gW C w 0 (by decide) fl_W_9 rfl rfl d_W_carryDraft_111 ?_
                  refine Z_aload_n C 1 d_W_carryDraft_114 rfl rfl ?_
                  refine C_gW C w 4 (by decide) fl_W_22 rfl rfl d_W_carryDraft_115 ?_
                  refine C_gF C w (by assumption) 4 (by decide) fl_W_48 rfl rfl d_W_carryDraft_118 ?_
                  refine C_ldP C w (M 9 D.1 0 4).toNatClampNeg rfl (cyKnown_in c106) d_W_carryDraft_121 ?_
                  refine Z_ishl C d_W_carryDraft_122 ?_
                  refine Z_goto (tgt := 128) C d_W_carryDraft_123 (by decide) ?_
                  refine zst (st' := [.int (if cyKnown (up M 7 0 0 s port) (M 9 D.1 0 4) = 0 then 31 else (1 : Int32) <<< ((up M 7 0 0 s port) 7 0 0 (M 9 D.1 0 4).toNatClampNeg &&& 31))]) (by first | (rw [if_pos c106]; done) | (rw [if_neg c106]; done) | (rw [if_neg c106]; rfl)) ?_
                  refine Z_istore C d_W_carryDraft_128 (by decide) rfl ?_
                  refine Z_aload_n C 2 d_W_carryDraft_130 rfl rfl ?_
                  refine C_gW C w 4 (by decide) fl_W_22 rfl rfl d_W_carryDraft_131 ?_
                  refine Z_iload C 0 d_W_carryDraft_134 rfl ?_
                  refine Z_iconst (v := 1) C d_W_carryDraft_136 (by decide) ?_
                  refine Z_iload_n C 3 d_W_carryDraft_137 rfl rfl ?_
                  refine Z_ishl C d_W_carryDraft_138 ?_
                  refine Z_iconst (v := (-1)) C d_W_carryDraft_139 (by decide) ?_
                  refine Z_ixor C d_W_carryDraft_140 ?_
                  refine Z_iand C d_W_carryDraft_141 ?_
                  refine C_pF C w (by assumption) 7 (by decide) fl_W_57 rfl rfl rfl rfl rfl d_W_carryDraft_142 ?_
                  refine Z_aload_n C 2 d_W_carryDraft_145 rfl rfl ?_
                  refine C_gW C w 4 (by decide) fl_W_22 rfl rfl d_W_carryDraft_146 ?_
                  refine Z_aload_n C 2 d_W_carryDraft_149 rfl rfl ?_
                  refine C_gW C w 3 (by decide) fl_W_36 rfl rfl d_W_carryDraft_150 ?_
                  refine Z_iload_n C 4 d_W_carryDraft_153 rfl rfl ?_
                  refine Z_iadd C d_W_carryDraft_154 ?_
                  refine C_pF C w (by assumption) 8 (by decide) fl_W_33 rfl rfl rfl rfl rfl d_W_carryDraft_155 ?_
                  refine Z_aload_n C 2 d_W_carryDraft_158 rfl rfl ?_
                  refine C_gW C w 1 (by decide) fl_W_17 rfl rfl d_W_carryDraft_159 ?_
                  refine Z_aload_n C 2 d_W_carryDraft_162 rfl rfl ?_
                  refine C_gW C w 2 (by decide) fl_W_29 rfl rfl d_W_carryDraft_163 ?_
                  refine C_ldY C w c (by show (M 6 0 0 2).toNatClampNeg = c; rw [hc]; exact nI_clamp (by omega)) (by show vp_in (M 6 0 0 2) 60; rw [hc]; exact vp_in_nI (by omega) (by decide)) d_W_carryDraft_166 ?_
                  refine Z_astore C d_W_carryDraft_167 (by decide) rfl ?_
                  refine Z_aload_n C 3 d_W_carryDraft_169 rfl rfl ?_
                  refine C_gW C w 1 (by decide) fl_W_17 rfl rfl d_W_carryDraft_170 ?_
                  refine Z_aload_n C 3 d_W_carryDraft_173 rfl rfl ?_
                  refine C_gW C w 2 (by decide) fl_W_29 rfl rfl d_W_carryDraft_174 ?_
                  refine Z_aload_n C 3 d_W_carryDraft_177 rfl rfl ?_
                  refine C_gW C w 4 (by decide) fl_W_22 rfl rfl d_W_carryDraft_178 ?_
                  refine C_stY C w (by assumption) c (by show (M 6 0 0 2).toNatClampNeg = c; rw [hc]; exact nI_clamp (by omega)) (by show vp_in (M 6 0 0 2) 60; rw [hc]; exact vp_in_nI (by omega) (by decide)) d_W_carryDraft_181 ?_
                  refine Z_aload_n C 3 d_W_carryDraft_182 rfl rfl ?_
                  refine Z_dup C d_W_carryDraft_183 rfl ?_
                  refine C_gW C w 2 (by decide) fl_W_29 rfl rfl d_W_carryDraft_184 ?_
                  refine Z_iconst (v := 1) C d_W_carryDraft_187 (by decide) ?_
                  refine Z_iadd C d_W_carryDraft_188 ?_
                  refine C_pW C w 2 (by decide) fl_W_29 rfl rfl rfl rfl rfl d_W_carryDraft_189 ?_
                  refine Z_aload_n C 3 d_W_carryDraft_192 rfl rfl ?_
                  refine Z_aload C 0 d_W_carryDraft_193 rfl ?_
                  refine C_pD C w fl_W_22 d_W_carryDraft_195 ?_
                  exact Z_vret C hN hr d_W_carryDraft_198 rfl (zeq (by unfold cyM cyP cyD; rw [if_neg (show ¬ c = 60 by omega), if_neg (show ¬ c = 60 by omega), if_neg (show ¬ c = 60 by omega), ← nI_1, ← hc]; rfl))
              · have c96 : ¬ (up M 7 0 0 s port) 7 0 0 (M 9 D.1 0 4).toNatClampNeg = -1 := c96
                refine Z_iconst (v := 1) C d_W_carryDraft_99 (by decide) ?_
                refine Z_goto (tgt := 104) C d_W_carryDraft_100 (by decide) ?_
                refine zst (st' := [.int (cyKnown (up M 7 0 0 s port) (M 9 D.1 0 4))]) (by unfold cyKnown; simp [c65, c80, c96]) ?_
                refine Z_istore_n C d_W_carryDraft_104 rfl (by decide) rfl ?_
                refine Z_iload_n C 0 d_W_carryDraft_105 rfl rfl ?_
                refine Z_if_eq (tgt := 126) C d_W_carryDraft_106 (by decide) (fun c106 => ?_) (fun c106 => ?_)
                · skip
                  refine Z_bipush (v := 31) C d_W_carryDraft_126 (by decide) ?_
                  refine zst (st' := [.int (if cyKnown (up M 7 0 0 s port) (M 9 D.1 0 4) = 0 then 31 else (1 : Int32) <<< ((up M 7 0 0 s port) 7 0 0 (M 9 D.1 0 4).toNatClampNeg &&& 31))]) (by first | (rw [if_pos c106]; done) | (rw [if_neg c106]; done) | (rw [if_neg c106]; rfl)) ?_
                  refine Z_istore C d_W_carryDraft_128 (by decide) rfl ?_
                  refine Z_aload_n C 2 d_W_carryDraft_130 rfl rfl ?_
                  refine C_gW C w 4 (by decide) fl_W_22 rfl rfl d_W_carryDraft_131 ?_
                  refine Z_iload C 0 d_W_carryDraft_134 rfl ?_
                  refine Z_iconst (v := 1) C d_W_carryDraft_136 (by decide) ?_
                  refine Z_iload_n C 3 d_W_carryDraft_137 rfl rfl ?_
                  refine Z_ishl C d_W_carryDraft_138 ?_
                  refine Z_iconst (v := (-1)) C d_W_carryDraft_139 (by decide) ?_
                  refine Z_ixor C d_W_carryDraft_140 ?_
                  refine Z_iand C d_W_carryDraft_141 ?_
                  refine C_pF C w (by assumption) 7 (by decide) fl_W_57 rfl rfl rfl rfl rfl d_W_carryDraft_142 ?_
                  refine Z_aload_n C 2 d_W_carryDraft_145 rfl rfl ?_
                  refine C_gW C w 4 (by decide) fl_W_22 rfl rfl d_W_carryDraft_146 ?_
                  refine Z_aload_n C 2 d_W_carryDraft_149 rfl rfl ?_
                  refine C_gW C w 3 (by decide) fl_W_36 rfl rfl d_W_carryDraft_150 ?_
                  refine Z_iload_n C 4 d_W_carryDraft_153 rfl rfl ?_
                  refine Z_iadd C d_W_carryDraft_154 ?_
                  refine C_pF C w (by assumption) 8 (by decide) fl_W_33 rfl rfl rfl rfl rfl d_W_carryDraft_155 ?_
                  refine Z_aload_n C 2 d_W_carryDraft_158 rfl rfl ?_
                  refine C_gW C w 1 (by decide) fl_W_17 rfl rfl d_W_carryDraft_159 ?_
                  refine Z_aload_n C 2 d_W_carryDraft_162 rfl rfl ?_
                  refine C_gW C w 2 (by decide) fl_W_29 rfl rfl d_W_carryDraft_163 ?_
                  refine C_ldY C w c (by show (M 6 0 0 2).toNatClampNeg = c; rw [hc]; exact nI_clamp (by omega)) (by show vp_in (M 6 0 0 2) 60; rw [hc]; exact vp_in_nI (by omega) (by decide)) d_W_carryDraft_166 ?_
                  refine Z_astore C d_W_carryDraft_167 (by decide) rfl ?_
                  refine Z_aload_n C 3 d_W_carryDraft_169 rfl rfl ?_
                  refine C_gW C w 1 (by decide) fl_W_17 rfl rfl d_W_carryDraft_170 ?_
                  refine Z_aload_n C 3 d_W_carryDraft_173 rfl rfl ?_
                  refine C_gW C w 2 (by decide) fl_W_29 rfl rfl d_W_carryDraft_174 ?_
                  refine Z_aload_n C 3 d_W_carryDraft_177 rfl rfl ?_
                  refine C_gW C w 4 (by decide) fl_W_22 rfl rfl d_W_carryDraft_178 ?_
                  refine C_stY C w (by assumption) c (by show (M 6 0 0 2).toNatClampNeg = c; rw [hc]; exact nI_clamp (by omega)) (by show vp_in (M 6 0 0 2) 60; rw [hc]; exact vp_in_nI (by omega) (by decide)) d_W_carryDraft_181 ?_
                  refine Z_aload_n C 3 d_W_carryDraft_182 rfl rfl ?_
                  refine Z_dup C d_W_carryDraft_183 rfl ?_
                  refine C_gW C w 2 (by decide) fl_W_29 rfl rfl d_W_carryDraft_184 ?_
                  refine Z_iconst (v := 1) C d_W_carryDraft_187 (by decide) ?_
                  refine Z_iadd C d_W_carryDraft_188 ?_
                  refine C_pW C w 2 (by decide) fl_W_29 rfl rfl rfl rfl rfl d_W_carryDraft_189 ?_
                  refine Z_aload_n C 3 d_W_carryDraft_192 rfl rfl ?_
                  refine Z_aload C 0 d_W_carryDraft_193 rfl ?_
                  refine C_pD C w fl_W_22 d_W_carryDraft_195 ?_
                  exact Z_vret C hN hr d_W_carryDraft_198 rfl (zeq (by unfold cyM cyP cyD; rw [if_neg (show ¬ c = 60 by omega), if_neg (show ¬ c = 60 by omega), if_neg (show ¬ c = 60 by omega), ← nI_1, ← hc]; rfl))
                · skip
                  refine Z_iconst (v := 1) C d_W_carryDraft_109 (by decide) ?_
                  refine Z_aload_n C 1 d_W_carryDraft_110 rfl rfl ?_
                  refine C_gW C w 0 (by decide) fl_W_9 rfl rfl d_W_carryDraft_111 ?_
                  refine Z_aload_n C 1 d_W_carryDraft_114 rfl rfl ?_
                  refine C_gW C w 4 (by decide) fl_W_22 rfl rfl d_W_carryDraft_115 ?_
                  refine C_gF C w (by assumption) 4 (by decide) fl_W_48 rfl rfl d_W_carryDraft_118 ?_
                  refine C_ldP C w (M 9 D.1 0 4).toNatClampNeg rfl (cyKnown_in c106) d_W_carryDraft_121 ?_
                  refine Z_ishl C d_W_carryDraft_122 ?_
                  refine Z_goto (tgt := 128) C d_W_carryDraft_123 (by decide) ?_
                  refine zst (st' := [.int (if cyKnown (up M 7 0 0 s port) (M 9 D.1 0 4) = 0 then 31 else (1 : Int32) <<< ((up M 7 0 0 s port) 7 0 0 (M 9 D.1 0 4).toNatClampNeg &&& 31))]) (by first | (rw [if_pos c106]; done) | (rw [if_neg c106]; done) | (rw [if_neg c106]; rfl)) ?_
                  refine Z_istore C d_W_carryDraft_128 (by decide) rfl ?_
                  refine Z_aload_n C 2 d_W_carryDraft_130 rfl rfl ?_
                  refine C_gW C w 4 (by decide) fl_W_22 rfl rfl d_W_carryDraft_131 ?_
                  refine Z_iload C 0 d_W_carryDraft_134 rfl ?_
                  refine Z_iconst (v := 1) C d_W_carryDraft_136 (by decide) ?_
                  refine Z_iload_n C 3 d_W_carryDraft_137 rfl rfl ?_
                  refine Z_ishl C d_W_carryDraft_138 ?_
                  refine Z_iconst (v := (-1)) C d_W_carryDraft_139 (by decide) ?_
                  refine Z_ixor C d_W_carryDraft_140 ?_
                  refine Z_iand C d_W_carryDraft_141 ?_
                  refine C_pF C w (by assumption) 7 (by decide) fl_W_57 rfl rfl rfl rfl rfl d_W_carryDraft_142 ?_
                  refine Z_aload_n C 2 d_W_carryDraft_145 rfl rfl ?_
                  refine C_gW C w 4 (by decide) fl_W_22 rfl rfl d_W_carryDraft_146 ?_
                  refine Z_aload_n C 2 d_W_carryDraft_149 rfl rfl ?_
                  refine C_gW C w 3 (by decide) fl_W_36 rfl rfl d_W_carryDraft_150 ?_
                  refine Z_iload_n C 4 d_W_carryDraft_153 rfl rfl ?_
                  refine Z_iadd C d_W_carryDraft_154 ?_
                  refine C_pF C w (by assumption) 8 (by decide) fl_W_33 rfl rfl rfl rfl rfl d_W_carryDraft_155 ?_
                  refine Z_aload_n C 2 d_W_carryDraft_158 rfl rfl ?_
                  refine C_gW C w 1 (by decide) fl_W_17 rfl rfl d_W_carryDraft_159 ?_
                  refine Z_aload_n C 2 d_W_carryDraft_162 rfl rfl ?_
                  refine C_gW C w 2 (by decide) fl_W_29 rfl rfl d_W_carryDraft_163 ?_
                  refine C_ldY C w c (by show (M 6 0 0 2).toNatClampNeg = c; rw [hc]; exact nI_clamp (by omega)) (by show vp_in (M 6 0 0 2) 60; rw [hc]; exact vp_in_nI (by omega) (by decide)) d_W_carryDraft_166 ?_
                  refine Z_astore C d_W_carryDraft_167 (by decide) rfl ?_
                  refine Z_aload_n C 3 d_W_carryDraft_169 rfl rfl ?_
                  refine C_gW C w 1 (by decide) fl_W_17 rfl rfl d_W_carryDraft_170 ?_
                  refine Z_aload_n C 3 d_W_carryDraft_173 rfl rfl ?_
                  refine C_gW C w 2 (by decide) fl_W_29 rfl rfl d_W_carryDraft_174 ?_
                  refine Z_aload_n C 3 d_W_carryDraft_177 rfl rfl ?_
                  refine C_gW C w 4 (by decide) fl_W_22 rfl rfl d_W_carryDraft_178 ?_
                  refine C_stY C w (by assumption) c (by show (M 6 0 0 2).toNatClampNeg = c; rw [hc]; exact nI_clamp (by omega)) (by show vp_in (M 6 0 0 2) 60; rw [hc]; exact vp_in_nI (by omega) (by decide)) d_W_carryDraft_181 ?_
                  refine Z_aload_n C 3 d_W_carryDraft_182 rfl rfl ?_
                  refine Z_dup C d_W_carryDraft_183 rfl ?_
                  refine C_gW C w 2 (by decide) fl_W_29 rfl rfl d_W_carryDraft_184 ?_
                  refine Z_iconst (v := 1) C d_W_carryDraft_187 (by decide) ?_
                  refine Z_iadd C d_W_carryDraft_188 ?_
                  refine C_pW C w 2 (by decide) fl_W_29 rfl rfl rfl rfl rfl d_W_carryDraft_189 ?_
                  refine Z_aload_n C 3 d_W_carryDraft_192 rfl rfl ?_
                  refine Z_aload C 0 d_W_carryDraft_193 rfl ?_
                  refine C_pD C w fl_W_22 d_W_carryDraft_195 ?_
                  exact Z_vret C hN hr d_W_carryDraft_198 rfl (zeq (by unfold cyM cyP cyD; rw [if_neg (show ¬ c = 60 by omega), if_neg (show ¬ c = 60 by omega), if_neg (show ¬ c = 60 by omega), ← nI_1, ← hc]; rfl))
        · have hge : c = 60 := ge60 hc hc60 c54
          exact Z_vret C hN hr d_W_carryDraft_57 rfl (zeq (by unfold cyM cyP cyD; rw [if_pos hge, if_pos hge, if_pos hge]))
end
section
theorem rk_2_3 {M : zM} {i j a b : Nat} {q : Nat → Int32} : rw4 M 2 i j q 3 a b = M 3 a b := rfl
theorem rk_2_5 {M : zM} {i j a b : Nat} {q : Nat → Int32} : rw4 M 2 i j q 5 a b = M 5 a b := rfl
theorem rk_2_6 {M : zM} {i j a b : Nat} {q : Nat → Int32} : rw4 M 2 i j q 6 a b = M 6 a b := rfl
theorem rk_2_7 {M : zM} {i j a b : Nat} {q : Nat → Int32} : rw4 M 2 i j q 7 a b = M 7 a b := rfl
theorem rk_2_9 {M : zM} {i j a b : Nat} {q : Nat → Int32} : rw4 M 2 i j q 9 a b = M 9 a b := rfl
theorem rk_2_10 {M : zM} {i j a b : Nat} {q : Nat → Int32} : rw4 M 2 i j q 10 a b = M 10 a b := rfl
theorem rk_3_2 {M : zM} {i j a b : Nat} {q : Nat → Int32} : rw4 M 3 i j q 2 a b = M 2 a b := rfl
theorem rk_3_5 {M : zM} {i j a b : Nat} {q : Nat → Int32} : rw4 M 3 i j q 5 a b = M 5 a b := rfl
theorem rk_3_6 {M : zM} {i j a b : Nat} {q : Nat → Int32} : rw4 M 3 i j q 6 a b = M 6 a b := rfl
theorem rk_3_7 {M : zM} {i j a b : Nat} {q : Nat → Int32} : rw4 M 3 i j q 7 a b = M 7 a b := rfl
theorem rk_3_9 {M : zM} {i j a b : Nat} {q : Nat → Int32} : rw4 M 3 i j q 9 a b = M 9 a b := rfl
theorem rk_3_10 {M : zM} {i j a b : Nat} {q : Nat → Int32} : rw4 M 3 i j q 10 a b = M 10 a b := rfl
theorem rk_5_2 {M : zM} {i j a b : Nat} {q : Nat → Int32} : rw4 M 5 i j q 2 a b = M 2 a b := rfl
theorem rk_5_3 {M : zM} {i j a b : Nat} {q : Nat → Int32} : rw4 M 5 i j q 3 a b = M 3 a b := rfl
theorem rk_5_6 {M : zM} {i j a b : Nat} {q : Nat → Int32} : rw4 M 5 i j q 6 a b = M 6 a b := rfl
theorem rk_5_7 {M : zM} {i j a b : Nat} {q : Nat → Int32} : rw4 M 5 i j q 7 a b = M 7 a b := rfl
theorem rk_5_9 {M : zM} {i j a b : Nat} {q : Nat → Int32} : rw4 M 5 i j q 9 a b = M 9 a b := rfl
theorem rk_5_10 {M : zM} {i j a b : Nat} {q : Nat → Int32} : rw4 M 5 i j q 10 a b = M 10 a b := rfl
theorem rk_6_2 {M : zM} {i j a b : Nat} {q : Nat → Int32} : rw4 M 6 i j q 2 a b = M 2 a b := rfl
theorem rk_6_3 {M : zM} {i j a b : Nat} {q : Nat → Int32} : rw4 M 6 i j q 3 a b = M 3 a b := rfl
theorem rk_6_5 {M : zM} {i j a b : Nat} {q : Nat → Int32} : rw4 M 6 i j q 5 a b = M 5 a b := rfl
theorem rk_6_7 {M : zM} {i j a b : Nat} {q : Nat → Int32} : rw4 M 6 i j q 7 a b = M 7 a b := rfl
theorem rk_6_9 {M : zM} {i j a b : Nat} {q : Nat → Int32} : rw4 M 6 i j q 9 a b = M 9 a b := rfl
theorem rk_6_10 {M : zM} {i j a b : Nat} {q : Nat → Int32} : rw4 M 6 i j q 10 a b = M 10 a b := rfl
theorem rk_7_2 {M : zM} {i j a b : Nat} {q : Nat → Int32} : rw4 M 7 i j q 2 a b = M 2 a b := rfl
theorem rk_7_3 {M : zM} {i j a b : Nat} {q : Nat → Int32} : rw4 M 7 i j q 3 a b = M 3 a b := rfl
theorem rk_7_5 {M : zM} {i j a b : Nat} {q : Nat → Int32} : rw4 M 7 i j q 5 a b = M 5 a b := rfl
theorem rk_7_6 {M : zM} {i j a b : Nat} {q : Nat → Int32} : rw4 M 7 i j q 6 a b = M 6 a b := rfl
theorem rk_7_9 {M : zM} {i j a b : Nat} {q : Nat → Int32} : rw4 M 7 i j q 9 a b = M 9 a b := rfl
theorem rk_7_10 {M : zM} {i j a b : Nat} {q : Nat → Int32} : rw4 M 7 i j q 10 a b = M 10 a b := rfl
theorem rk_9_2 {M : zM} {i j a b : Nat} {q : Nat → Int32} : rw4 M 9 i j q 2 a b = M 2 a b := rfl
theorem rk_9_3 {M : zM} {i j a b : Nat} {q : Nat → Int32} : rw4 M 9 i j q 3 a b = M 3 a b := rfl
theorem rk_9_5 {M : zM} {i j a b : Nat} {q : Nat → Int32} : rw4 M 9 i j q 5 a b = M 5 a b := rfl
theorem rk_9_6 {M : zM} {i j a b : Nat} {q : Nat → Int32} : rw4 M 9 i j q 6 a b = M 6 a b := rfl
theorem rk_9_7 {M : zM} {i j a b : Nat} {q : Nat → Int32} : rw4 M 9 i j q 7 a b = M 7 a b := rfl
theorem rk_9_10 {M : zM} {i j a b : Nat} {q : Nat → Int32} : rw4 M 9 i j q 10 a b = M 10 a b := rfl
theorem rk_10_2 {M : zM} {i j a b : Nat} {q : Nat → Int32} : rw4 M 10 i j q 2 a b = M 2 a b := rfl
theorem rk_10_3 {M : zM} {i j a b : Nat} {q : Nat → Int32} : rw4 M 10 i j q 3 a b = M 3 a b := rfl
theorem rk_10_5 {M : zM} {i j a b : Nat} {q : Nat → Int32} : rw4 M 10 i j q 5 a b = M 5 a b := rfl
theorem rk_10_6 {M : zM} {i j a b : Nat} {q : Nat → Int32} : rw4 M 10 i j q 6 a b = M 6 a b := rfl
theorem rk_10_7 {M : zM} {i j a b : Nat} {q : Nat → Int32} : rw4 M 10 i j q 7 a b = M 7 a b := rfl
theorem rk_10_9 {M : zM} {i j a b : Nat} {q : Nat → Int32} : rw4 M 10 i j q 9 a b = M 9 a b := rfl
theorem zKk {X : zX} {G : zG} {A : Nat → Prop} {nL : Nat} {Q : State → Prop} {K K' : zK} {pc : Nat} {lv : List (Nat × Value)} {st : List Value} (h : ∀ f, K f → K' f) (k : Z X G A nL Q K' pc lv st) : Z X G A nL Q K pc lv st := fun f H locs ls hf hP hS hl => k f H locs ls (h f hf) hP hS hl
theorem Z_lcmp {X : zX} {G : zG} {A : Nat → Prop} {nL : Nat} {Q : State → Prop} {K : zK} {pc : Nat} {lv : List (Nat × Value)} {st : List Value} {cc : ByteArray} {own : String} {fr lo : Nat} {x y : Int64} (C : zC X G A cc nL own fr lo) (hd : decode cc pc = .ok (.lcmp, 1)) (k : Z X G A nL Q K (pc + 1) lv (.int (lg_cmp x y) :: st)) : Z X G A nL Q K pc lv (.long y :: .long x :: st) := fun f H locs ls hf hP hS hl => W.lcmp C.1.1 C.1.2.1 hd (k f H locs ls hf hP hS hl)
theorem rw4_k {M : zM} {κ i j κ' a b : Nat} {q : Nat → Int32} (h : κ' ≠ κ) : rw4 M κ i j q κ' a b = M κ' a b := rw4_ne (fun z => h z.1)
/-! THE ROUTER, part A: what it reads -/
def rTell (M : zM) (i : Nat) (x : Int32) : Int32 := if x = 0 then M 2 i 0 4 else if x = 1 then M 2 i 0 5 else if x = 2 then (if M 2 i 0 4 = 0 then 0 else rWeighed M i) else if x = 3 then M 2 i 0 6 else if x = 4 then M 2 i 0 7 else if x = 5 then M 2 i 0 8 else if x = 6 then M 2 i 0 9 else if x = 7 then M 2 i 0 10 else -1
def rSkew (M : zM) (i : Nat) : Int32 := (256 - rWeighed M i) * M 2 i 0 6 / 256
def rBackup (M : zM) (i : Nat) : zM := up (up M 2 i 0 5 (3 * M 2 i 0 6 + rSkew M i)) 2 i 0 4 1
def rMinds (M : zM) (i k : Nat) : Int32 := if M 2 i 0 4 = 0 then 0 else if ¬ (M 3 i 0 7 &&& 2) = 0 then 0 else if M 9 k 0 4 = 15 then 1 else if M 9 k 0 4 = nI i then 1 else if ¬ M 9 k 0 4 = 9 then 0 else if M 2 i 0 4 = 2 then 1 else 0
abbrev by_ (M : zM) (k : Nat) (x : Int32) : Int32 := fByte (M 9 k 0) (M 10 k 0) x
abbrev fo_ (M : zM) (k : Nat) (x : Int32) : Int32 := fFour (M 9 k 0) (M 10 k 0) x
def rFor (M : zM) (i k : Nat) : Int32 := if ¬ M 9 k 0 6 = 255 then 0 else if ¬ M 9 k 0 1 = 12 then 0 else if ¬ by_ M k 0 = 49 then 0 else if ¬ by_ M k 1 = M 3 i 0 3 then 0 else if ¬ by_ M k 3 = 1 then 0 else if ¬ fo_ M k 8 = M 3 i 0 5 then 0 else if ¬ fSum (M 9 k 0) (M 10 k 0) = 65535 then 0 else if M 3 i 0 0 = 255 then 0 else 1
def rIvl (M : zM) (k : Nat) : Int32 := imx 1 (fTwo (M 9 k 0) (M 10 k 0) 4 &&& 4095)
def rAbove (a b : Int32) : Int32 := if lg_cmp (a.toInt64 &&& 4294967295) (b.toInt64 &&& 4294967295) ≤ 0 then 0 else 1
def rWhole (M : zM) (k : Nat) : Int32 := if ¬ M 9 k 0 6 = 255 then 0 else if M 9 k 0 1 < 24 then 0 else if by_ M k 0 < 32 then 0 else if 63 < by_ M k 0 then 0 else if by_ M k 3 < 24 then 0 else if M 9 k 0 1 < by_ M k 3 then 0 else if by_ M k 2 = 0 then 0 else if ¬ (by_ M k 1 &&& 5) = 0 then 0 else if fo_ M k 4 = 0 then 0 else 1
def rFirst (M : zM) (k : Nat) : Int32 := if ¬ fo_ M k 8 = 0 then 0 else if 1 < by_ M k 1 / 64 then 0 else 1
def rMeant (M : zM) (i k : Nat) : Nat → Nat → Option Nat
  | 0, _ => none
  | n + 1, s => if M 5 i s 2 = 0 then rMeant M i k n (s + 1) else if nI (16 * i + s + 1) = fo_ M k 8 then some s else if rFirst M k = 0 then rMeant M i k n (s + 1) else if nI s = M 9 k 0 3 then some s else rMeant M i k n (s + 1)
def gone (M : zM) (i : Nat) : Nat → zM
  | 0 => M
  | n + 1 => up (gone M i n) 5 i n 2 0
def rForget (M : zM) (i : Nat) : zM := gone (up (up (up M 2 i 0 4 0) 2 i 0 5 0) 2 i 0 6 0) i 5
/-- a session learns from a packet: its row q, the packet's row p and bytes b -/
def sLearn1 (q p b : Nat → Int32) : Nat → Int32 := upd (upd (upd (upd (upd q 5 (sTold (fFour p b 4))) 4 (fByte p b 1 / 64)) 12 (fByte p b 2)) 11 (sTold (fFour p b 12))) 10 (sTold (fFour p b 16))
def sLearn2 (q p b : Nat → Int32) : Nat → Int32 := if sLearn1 q p b 13 = 0 then sLearn1 q p b else if fByte p b 1 &&& 16 = 0 then sLearn1 q p b else sUse (upd (sLearn1 q p b) 13 0)
def sLearn (q p b : Nat → Int32) : Nat → Int32 := sFollow (upd (sLearn2 q p b) 17 (imn 10000000 (sLearn2 q p b 12 * imx (sLearn2 q p b 15) (sLearn2 q p b 11))))
def sChanged (q p b : Nat → Int32) : Int32 := if ¬ sLearn q p b 10 = q 10 then 1 else if sLearn q p b 3 = q 3 then 0 else 1
set_option maxRecDepth 100000 in
set_option maxHeartbeats 4000000 in
theorem c_R_skew {l : Launch} {G : zG} {V : zV} (w : wC G V) (M : zM) (P : Nat → Nat) (D : Nat × Nat) (i : Nat) (hi : i < 5) : zF l y_R_skew b_R_skew 1 (some .int) 1 22 G [.ref (V.1 2 i 0)] (eC V M P D) (some (.int (rSkew M i))) (eC V M P D) := by
  refine zF.ofZ (by decide) w.2.2.2.2 (Nat.le_of_ble_eq_true rfl) (fun X hXl hN hr C => ?_)
  subst hXl
  show Z X G (zA G) 1 _ (eC V M P D) 0 [(0, .ref (V.1 2 i 0))] []
  refine Z_sipush (v := 256) C d_R_skew_0 (by decide) ?_
  refine Z_aload_n C 0 d_R_skew_3 rfl rfl ?_
  refine C_cRv C w (by assumption) mi_R_weighed ml_R_40 (c_R_weighed w _ _ _ _ (by assumption)) rfl rfl (by decide) rfl (Nat.le_of_ble_eq_true rfl) d_R_skew_4 ?_
  refine Z_isub C d_R_skew_7 ?_
  refine Z_aload_n C 0 d_R_skew_8 rfl rfl ?_
  refine C_gR C w (by assumption) 6 (by decide) fl_R_44 rfl rfl d_R_skew_9 ?_
  refine Z_imul C d_R_skew_12 ?_
  refine Z_sipush (v := 256) C d_R_skew_13 (by decide) ?_
  refine Z_idiv C d_R_skew_16 (by decide) ?_
  exact Z_iret C hN hr d_R_skew_17 (rfl) (zeq (rfl))
set_option maxRecDepth 100000 in
set_option maxHeartbeats 4000000 in
theorem c_R_tell {l : Launch} {G : zG} {V : zV} (w : wC G V) (M : zM) (P : Nat → Nat) (D : Nat × Nat) (i : Nat) (hi : i < 5) (x : Int32) : zF l y_R_tell b_R_tell 2 (some .int) 1 22 G [.ref (V.1 2 i 0), .int x] (eC V M P D) (some (.int (rTell M i x))) (eC V M P D) := by
  refine zF.ofZ (by decide) w.2.2.2.2 (Nat.le_of_ble_eq_true rfl) (fun X hXl hN hr C => ?_)
  subst hXl
  show Z X G (zA G) 2 _ (eC V M P D) 0 [(0, .ref (V.1 2 i 0)), (1, .int x)] []
  refine Z_iload_n C 1 d_R_tell_0 rfl rfl ?_
  refine Z_tsw C d_R_tell_1 [(0, 48), (1, 53), (2, 58), (3, 74), (4, 79), (5, 84), (6, 89), (7, 94)] 99 (by decide +kernel) (by decide +kernel) (by decide) ?_ ?_
  · simp only [List.forall_mem_cons]
    refine ⟨fun c1 => ?_, fun c1 => ?_, fun c1 => ?_, fun c1 => ?_, fun c1 => ?_, fun c1 => ?_, fun c1 => ?_, fun c1 => ?_, fun _ h => absurd h List.not_mem_nil⟩
    · skip
      refine Z_aload_n C 0 d_R_tell_48 rfl rfl ?_
      refine C_gR C w (by assumption) 4 (by decide) fl_R_34 rfl rfl d_R_tell_49 ?_
      exact Z_iret C hN hr d_R_tell_52 (by simp [rTell, c1]) (zeq (rfl))
    · skip
      refine Z_aload_n C 0 d_R_tell_53 rfl rfl ?_
      refine C_gR C w (by assumption) 5 (by decide) fl_R_37 rfl rfl d_R_tell_54 ?_
      exact Z_iret C hN hr d_R_tell_57 (by simp [rTell, c1]) (zeq (rfl))
    · skip
      refine Z_aload_n C 0 d_R_tell_58 rfl rfl ?_
      refine C_gR C w (by assumption) 4 (by decide) fl_R_34 rfl rfl d_R_tell_59 ?_
      refine Z_if_ne (tgt := 69) C d_R_tell_62 (by decide) (fun c62 => ?_) (fun c62 => ?_)
      · skip
        refine Z_aload_n C 0 d_R_tell_69 rfl rfl ?_
        refine C_cRv C w (by assumption) mi_R_weighed ml_R_40 (c_R_weighed w _ _ _ _ (by assumption)) rfl rfl (by decide) rfl (Nat.le_of_ble_eq_true rfl) d_R_tell_70 ?_
        exact Z_iret C hN hr d_R_tell_73 (by simp [rTell, c1, c62]) (zeq (rfl))
      · skip
        refine Z_iconst (v := 0) C d_R_tell_65 (by decide) ?_
        refine Z_goto (tgt := 73) C d_R_tell_66 (by decide) ?_
        exact Z_iret C hN hr d_R_tell_73 (by simp [rTell, c1, c62]) (zeq (rfl))
    · skip
      refine Z_aload_n C 0 d_R_tell_74 rfl rfl ?_
      refine C_gR C w (by assumption) 6 (by decide) fl_R_44 rfl rfl d_R_tell_75 ?_
      exact Z_iret C hN hr d_R_tell_78 (by simp [rTell, c1]) (zeq (rfl))
    · skip
      refine Z_aload_n C 0 d_R_tell_79 rfl rfl ?_
      refine C_gR C w (by assumption) 7 (by decide) fl_R_47 rfl rfl d_R_tell_80 ?_
      exact Z_iret C hN hr d_R_tell_83 (by simp [rTell, c1]) (zeq (rfl))
    · skip
      refine Z_aload_n C 0 d_R_tell_84 rfl rfl ?_
      refine C_gR C w (by assumption) 8 (by decide) fl_R_50 rfl rfl d_R_tell_85 ?_
      exact Z_iret C hN hr d_R_tell_88 (by simp [rTell, c1]) (zeq (rfl))
    · skip
      refine Z_aload_n C 0 d_R_tell_89 rfl rfl ?_
      refine C_gR C w (by assumption) 9 (by decide) fl_R_53 rfl rfl d_R_tell_90 ?_
      exact Z_iret C hN hr d_R_tell_93 (by simp [rTell, c1]) (zeq (rfl))
    · skip
      refine Z_aload_n C 0 d_R_tell_94 rfl rfl ?_
      refine C_gR C w (by assumption) 10 (by decide) fl_R_56 rfl rfl d_R_tell_95 ?_
      exact Z_iret C hN hr d_R_tell_98 (by simp [rTell, c1]) (zeq (rfl))
  · intro c1
    simp only [List.forall_mem_cons] at c1
    refine Z_iconst (v := (-1)) C d_R_tell_99 (by decide) ?_
    exact Z_iret C hN hr d_R_tell_100 (by simp [rTell, c1]) (zeq (rfl))
set_option maxRecDepth 100000 in
set_option maxHeartbeats 4000000 in
theorem c_R_becomeBackup {l : Launch} {G : zG} {V : zV} (w : wC G V) (M : zM) (P : Nat → Nat) (D : Nat × Nat) (i : Nat) (hi : i < 5) : zF l y_R_becomeBackup b_R_becomeBackup 1 none 2 42 G [.ref (V.1 2 i 0)] (eC V M P D) none (eC V (rBackup M i) P D) := by
  refine zF.ofZ (by decide) w.2.2.2.2 (Nat.le_of_ble_eq_true rfl) (fun X hXl hN hr C => ?_)
  subst hXl
  show Z X G (zA G) 1 _ (eC V M P D) 0 [(0, .ref (V.1 2 i 0))] []
  refine Z_aload_n C 0 d_R_becomeBackup_0 rfl rfl ?_
  refine Z_iconst (v := 3) C d_R_becomeBackup_1 (by decide) ?_
  refine Z_aload_n C 0 d_R_becomeBackup_2 rfl rfl ?_
  refine C_gR C w (by assumption) 6 (by decide) fl_R_44 rfl rfl d_R_becomeBackup_3 ?_
  refine Z_imul C d_R_becomeBackup_6 ?_
  refine Z_aload_n C 0 d_R_becomeBackup_7 rfl rfl ?_
  refine C_cRv C w (by assumption) mi_R_skew ml_R_78 (c_R_skew w _ _ _ _ (by assumption)) rfl rfl (by decide) rfl (Nat.le_of_ble_eq_true rfl) d_R_becomeBackup_8 ?_
  refine Z_iadd C d_R_becomeBackup_11 ?_
  refine C_pR C w (by assumption) 5 (by decide) fl_R_37 rfl rfl rfl rfl rfl d_R_becomeBackup_12 ?_
  refine Z_aload_n C 0 d_R_becomeBackup_15 rfl rfl ?_
  refine Z_iconst (v := 1) C d_R_becomeBackup_16 (by decide) ?_
  refine C_pR C w (by assumption) 4 (by decide) fl_R_34 rfl rfl rfl rfl rfl d_R_becomeBackup_17 ?_
  exact Z_vret C hN hr d_R_becomeBackup_20 rfl (zeq (rfl))
set_option maxRecDepth 100000 in
set_option maxHeartbeats 4000000 in
theorem c_R_minds {l : Launch} {G : zG} {V : zV} (w : wC G V) (M : zM) (P : Nat → Nat) (D : Nat × Nat) (i : Nat) (hi : i < 5) (k : Nat) (hk : k < 63) : zF l y_R_minds b_R_minds 2 (some .boolean) 0 0 G [.ref (V.1 2 i 0), .ref (V.1 9 k 0)] (eC V M P D) (some (.int (rMinds M i k))) (eC V M P D) := by
  refine zF.ofZ (by decide) w.2.2.2.2 (Nat.le_of_ble_eq_true rfl) (fun X hXl hN hr C => ?_)
  subst hXl
  show Z X G (zA G) 2 _ (eC V M P D) 0 [(0, .ref (V.1 2 i 0)), (1, .ref (V.1 9 k 0))] []
  refine Z_aload_n C 0 d_R_minds_0 rfl rfl ?_
  refine C_gR C w (by assumption) 4 (by decide) fl_R_34 rfl rfl d_R_minds_1 ?_
  refine Z_if_eq (tgt := 19) C d_R_minds_4 (by decide) (fun c4 => ?_) (fun c4 => ?_)
  · skip
    refine Z_iconst (v := 0) C d_R_minds_19 (by decide) ?_
    exact Z_zret C hN hr (by decide) d_R_minds_20 (by first | (simp [rMinds, c4]; done) | (simp [rMinds, c4]; intro h; exact absurd (c47.trans h) c38)) (zeq (rfl))
  · skip
    refine Z_aload_n C 0 d_R_minds_7 rfl rfl ?_
    refine C_gR C w (by assumption) 2 (by decide) fl_R_21 rfl rfl d_R_minds_8 ?_
    refine Z_bipush (v := 7) C d_R_minds_11 (by decide) ?_
    refine C_ldG C w (by assumption) 7 (by decide) (by unfold vp_in; decide) d_R_minds_13 ?_
    refine Z_iconst (v := 2) C d_R_minds_14 (by decide) ?_
    refine Z_iand C d_R_minds_15 ?_
    refine Z_if_eq (tgt := 21) C d_R_minds_16 (by decide) (fun c16 => ?_) (fun c16 => ?_)
    · skip
      refine Z_aload_n C 1 d_R_minds_21 rfl rfl ?_
      refine C_gF C w (by assumption) 4 (by decide) fl_R_130 rfl rfl d_R_minds_22 ?_
      refine Z_bipush (v := 15) C d_R_minds_25 (by decide) ?_
      refine Z_icmp_eq (tgt := 58) C d_R_minds_27 (by decide) (fun c27 => ?_) (fun c27 => ?_)
      · skip
        refine Z_iconst (v := 1) C d_R_minds_58 (by decide) ?_
        refine Z_goto (tgt := 63) C d_R_minds_59 (by decide) ?_
        exact Z_zret C hN hr (by decide) d_R_minds_63 (by first | (simp [rMinds, c4, c16, c27]; done) | (simp [rMinds, c4, c16, c27]; intro h; exact absurd (c47.trans h) c38)) (zeq (rfl))
      · skip
        refine Z_aload_n C 1 d_R_minds_30 rfl rfl ?_
        refine C_gF C w (by assumption) 4 (by decide) fl_R_130 rfl rfl d_R_minds_31 ?_
        refine Z_aload_n C 0 d_R_minds_34 rfl rfl ?_
        refine C_gR C w (by assumption) 0 (by decide) fl_R_9 rfl rfl d_R_minds_35 ?_
        refine Z_icmp_eq (tgt := 58) C d_R_minds_38 (by decide) (fun c38 => ?_) (fun c38 => ?_)
        · skip
          refine Z_iconst (v := 1) C d_R_minds_58 (by decide) ?_
          refine Z_goto (tgt := 63) C d_R_minds_59 (by decide) ?_
          exact Z_zret C hN hr (by decide) d_R_minds_63 (by first | (simp [rMinds, c4, c16, c27, c38]; done) | (simp [rMinds, c4, c16, c27, c38]; intro h; exact absurd (c47.trans h) c38)) (zeq (rfl))
        · skip
          refine Z_aload_n C 1 d_R_minds_41 rfl rfl ?_
          refine C_gF C w (by assumption) 4 (by decide) fl_R_130 rfl rfl d_R_minds_42 ?_
          refine Z_bipush (v := 9) C d_R_minds_45 (by decide) ?_
          refine Z_icmp_ne (tgt := 62) C d_R_minds_47 (by decide) (fun c47 => ?_) (fun c47 => ?_)
          · skip
            refine Z_iconst (v := 0) C d_R_minds_62 (by decide) ?_
            exact Z_zret C hN hr (by decide) d_R_minds_63 (by first | (simp [rMinds, c4, c16, c27, c38, c47]; done) | (simp [rMinds, c4, c16, c27, c38, c47]; intro h; exact absurd (c47.trans h) c38)) (zeq (rfl))
          · skip
            refine Z_aload_n C 0 d_R_minds_50 rfl rfl ?_
            refine C_gR C w (by assumption) 4 (by decide) fl_R_34 rfl rfl d_R_minds_51 ?_
            refine Z_iconst (v := 2) C d_R_minds_54 (by decide) ?_
            refine Z_icmp_ne (tgt := 62) C d_R_minds_55 (by decide) (fun c55 => ?_) (fun c55 => ?_)
            · skip
              refine Z_iconst (v := 0) C d_R_minds_62 (by decide) ?_
              exact Z_zret C hN hr (by decide) d_R_minds_63 (by first | (simp [rMinds, c4, c16, c27, c38, c47, c55]; done) | (simp [rMinds, c4, c16, c27, c38, c47, c55]; intro h; exact absurd (c47.trans h) c38)) (zeq (rfl))
            · skip
              refine Z_iconst (v := 1) C d_R_minds_58 (by decide) ?_
              refine Z_goto (tgt := 63) C d_R_minds_59 (by decide) ?_
              exact Z_zret C hN hr (by decide) d_R_minds_63 (by first | (simp [rMinds, c4, c16, c27, c38, c47, c55]; done) | (simp [rMinds, c4, c16, c27, c38, c47, c55]; intro h; exact absurd (c47.trans h) c38)) (zeq (rfl))
    · skip
      refine Z_iconst (v := 0) C d_R_minds_19 (by decide) ?_
      exact Z_zret C hN hr (by decide) d_R_minds_20 (by first | (simp [rMinds, c4, c16]; done) | (simp [rMinds, c4, c16]; intro h; exact absurd (c47.trans h) c38)) (zeq (rfl))
set_option maxRecDepth 100000 in
set_option maxHeartbeats 4000000 in
theorem c_R_isForUs {l : Launch} {G : zG} {V : zV} (w : wC G V) (M : zM) (P : Nat → Nat) (D : Nat × Nat) (i : Nat) (hi : i < 5) (k : Nat) (hk : k < 63) : zF l y_R_isForUs b_R_isForUs 2 (some .boolean) 2 42 G [.ref (V.1 2 i 0), .ref (V.1 9 k 0)] (eC V M P D) (some (.int (rFor M i k))) (eC V M P D) := by
  refine zF.ofZ (by decide) w.2.2.2.2 (Nat.le_of_ble_eq_true rfl) (fun X hXl hN hr C => ?_)
  subst hXl
  show Z X G (zA G) 2 _ (eC V M P D) 0 [(0, .ref (V.1 2 i 0)), (1, .ref (V.1 9 k 0))] []
  refine Z_aload_n C 1 d_R_isForUs_0 rfl rfl ?_
  refine C_gF C w (by assumption) 6 (by decide) fl_R_156 rfl rfl d_R_isForUs_1 ?_
  refine Z_sipush (v := 255) C d_R_isForUs_4 (by decide) ?_
  refine Z_icmp_ne (tgt := 92) C d_R_isForUs_7 (by decide) (fun c7 => ?_) (fun c7 => ?_)
  · skip
    refine Z_iconst (v := 0) C d_R_isForUs_92 (by decide) ?_
    exact Z_zret C hN hr (by decide) d_R_isForUs_93 (by simp [rFor, c7]) (zeq (rfl))
  · skip
    refine Z_aload_n C 1 d_R_isForUs_10 rfl rfl ?_
    refine C_gF C w (by assumption) 1 (by decide) fl_R_159 rfl rfl d_R_isForUs_11 ?_
    refine Z_bipush (v := 12) C d_R_isForUs_14 (by decide) ?_
    refine Z_icmp_ne (tgt := 92) C d_R_isForUs_16 (by decide) (fun c16 => ?_) (fun c16 => ?_)
    · skip
      refine Z_iconst (v := 0) C d_R_isForUs_92 (by decide) ?_
      exact Z_zret C hN hr (by decide) d_R_isForUs_93 (by simp [rFor, c7, c16]) (zeq (rfl))
    · skip
      refine Z_aload_n C 1 d_R_isForUs_19 rfl rfl ?_
      refine Z_iconst (v := 0) C d_R_isForUs_20 (by decide) ?_
      refine C_cFv C w (by assumption) mi_F_byteAt ml_R_162 (c_F_byteAt w _ _ _ _ (by assumption) _) rfl rfl (by decide) rfl (Nat.le_of_ble_eq_true rfl) d_R_isForUs_21 ?_
      refine Z_bipush (v := 49) C d_R_isForUs_24 (by decide) ?_
      refine Z_icmp_ne (tgt := 92) C d_R_isForUs_26 (by decide) (fun c26 => ?_) (fun c26 => ?_)
      · skip
        refine Z_iconst (v := 0) C d_R_isForUs_92 (by decide) ?_
        exact Z_zret C hN hr (by decide) d_R_isForUs_93 (by simp [rFor, c7, c16, c26]) (zeq (rfl))
      · skip
        refine Z_aload_n C 1 d_R_isForUs_29 rfl rfl ?_
        refine Z_iconst (v := 1) C d_R_isForUs_30 (by decide) ?_
        refine C_cFv C w (by assumption) mi_F_byteAt ml_R_162 (c_F_byteAt w _ _ _ _ (by assumption) _) rfl rfl (by decide) rfl (Nat.le_of_ble_eq_true rfl) d_R_isForUs_31 ?_
        refine Z_aload_n C 0 d_R_isForUs_34 rfl rfl ?_
        refine C_gR C w (by assumption) 2 (by decide) fl_R_21 rfl rfl d_R_isForUs_35 ?_
        refine Z_iconst (v := 3) C d_R_isForUs_38 (by decide) ?_
        refine C_ldG C w (by assumption) 3 (by decide) (by unfold vp_in; decide) d_R_isForUs_39 ?_
        refine Z_icmp_ne (tgt := 92) C d_R_isForUs_40 (by decide) (fun c40 => ?_) (fun c40 => ?_)
        · skip
          refine Z_iconst (v := 0) C d_R_isForUs_92 (by decide) ?_
          exact Z_zret C hN hr (by decide) d_R_isForUs_93 (by simp [rFor, c7, c16, c26, c40]) (zeq (rfl))
        · skip
          refine Z_aload_n C 1 d_R_isForUs_43 rfl rfl ?_
          refine Z_iconst (v := 3) C d_R_isForUs_44 (by decide) ?_
          refine C_cFv C w (by assumption) mi_F_byteAt ml_R_162 (c_F_byteAt w _ _ _ _ (by assumption) _) rfl rfl (by decide) rfl (Nat.le_of_ble_eq_true rfl) d_R_isForUs_45 ?_
          refine Z_iconst (v := 1) C d_R_isForUs_48 (by decide) ?_
          refine Z_icmp_ne (tgt := 92) C d_R_isForUs_49 (by decide) (fun c49 => ?_) (fun c49 => ?_)
          · skip
            refine Z_iconst (v := 0) C d_R_isForUs_92 (by decide) ?_
            exact Z_zret C hN hr (by decide) d_R_isForUs_93 (by simp [rFor, c7, c16, c26, c40, c49]) (zeq (rfl))
          · skip
            refine Z_aload_n C 1 d_R_isForUs_52 rfl rfl ?_
            refine Z_bipush (v := 8) C d_R_isForUs_53 (by decide) ?_
            refine C_cFv C w (by assumption) mi_F_fourAt ml_R_165 (c_F_fourAt w _ _ _ _ (by assumption) _) rfl rfl (by decide) rfl (Nat.le_of_ble_eq_true rfl) d_R_isForUs_55 ?_
            refine Z_aload_n C 0 d_R_isForUs_58 rfl rfl ?_
            refine C_gR C w (by assumption) 2 (by decide) fl_R_21 rfl rfl d_R_isForUs_59 ?_
            refine Z_iconst (v := 5) C d_R_isForUs_62 (by decide) ?_
            refine C_ldG C w (by assumption) 5 (by decide) (by unfold vp_in; decide) d_R_isForUs_63 ?_
            refine Z_icmp_ne (tgt := 92) C d_R_isForUs_64 (by decide) (fun c64 => ?_) (fun c64 => ?_)
            · skip
              refine Z_iconst (v := 0) C d_R_isForUs_92 (by decide) ?_
              exact Z_zret C hN hr (by decide) d_R_isForUs_93 (by simp [rFor, c7, c16, c26, c40, c49, c64]) (zeq (rfl))
            · skip
              refine Z_aload_n C 1 d_R_isForUs_67 rfl rfl ?_
              refine C_cFv C w (by assumption) mi_F_sum ml_R_168 (c_F_sum w _ _ _ _ (by assumption)) rfl rfl (by decide) rfl (Nat.le_of_ble_eq_true rfl) d_R_isForUs_68 ?_
              refine Z_ldc C co_R_171 d_R_isForUs_71 ?_
              refine Z_icmp_ne (tgt := 92) C d_R_isForUs_73 (by decide) (fun c73 => ?_) (fun c73 => ?_)
              · skip
                refine Z_iconst (v := 0) C d_R_isForUs_92 (by decide) ?_
                exact Z_zret C hN hr (by decide) d_R_isForUs_93 (by simp [rFor, c7, c16, c26, c40, c49, c64, c73]) (zeq (rfl))
              · skip
                refine Z_aload_n C 0 d_R_isForUs_76 rfl rfl ?_
                refine C_gR C w (by assumption) 2 (by decide) fl_R_21 rfl rfl d_R_isForUs_77 ?_
                refine Z_iconst (v := 0) C d_R_isForUs_80 (by decide) ?_
                refine C_ldG C w (by assumption) 0 (by decide) (by unfold vp_in; decide) d_R_isForUs_81 ?_
                refine Z_sipush (v := 255) C d_R_isForUs_82 (by decide) ?_
                refine Z_icmp_eq (tgt := 92) C d_R_isForUs_85 (by decide) (fun c85 => ?_) (fun c85 => ?_)
                · skip
                  refine Z_iconst (v := 0) C d_R_isForUs_92 (by decide) ?_
                  exact Z_zret C hN hr (by decide) d_R_isForUs_93 (by simp [rFor, c7, c16, c26, c40, c49, c64, c73, c85]) (zeq (rfl))
                · skip
                  refine Z_iconst (v := 1) C d_R_isForUs_88 (by decide) ?_
                  refine Z_goto (tgt := 93) C d_R_isForUs_89 (by decide) ?_
                  exact Z_zret C hN hr (by decide) d_R_isForUs_93 (by simp [rFor, c7, c16, c26, c40, c49, c64, c73, c85]) (zeq (rfl))
set_option maxRecDepth 100000 in
set_option maxHeartbeats 4000000 in
theorem c_R_intervalIn {l : Launch} {G : zG} {V : zV} (w : wC G V) (M : zM) (P : Nat → Nat) (D : Nat × Nat)  (k : Nat) (hk : k < 63) : zF l y_R_intervalIn b_R_intervalIn 1 (some .int) 2 42 G [.ref (V.1 9 k 0)] (eC V M P D) (some (.int (rIvl M k))) (eC V M P D) := by
  refine zF.ofZ (by decide) w.2.2.2.2 (Nat.le_of_ble_eq_true rfl) (fun X hXl hN hr C => ?_)
  subst hXl
  show Z X G (zA G) 1 _ (eC V M P D) 0 [(0, .ref (V.1 9 k 0))] []
  refine Z_iconst (v := 1) C d_R_intervalIn_0 (by decide) ?_
  refine Z_aload_n C 0 d_R_intervalIn_1 rfl rfl ?_
  refine Z_iconst (v := 4) C d_R_intervalIn_2 (by decide) ?_
  refine C_cFv C w (by assumption) mi_F_twoAt ml_R_186 (c_F_twoAt w _ _ _ _ (by assumption) _) rfl rfl (by decide) rfl (Nat.le_of_ble_eq_true rfl) d_R_intervalIn_3 ?_
  refine Z_sipush (v := 4095) C d_R_intervalIn_6 (by decide) ?_
  refine Z_iand C d_R_intervalIn_9 ?_
  refine Z_mmax C ml_R_172 mx_s ma_i mx_c ⟨Nat.le_of_ble_eq_true rfl, Nat.le_of_ble_eq_true rfl⟩ d_R_intervalIn_10 ?_
  exact Z_iret C hN hr d_R_intervalIn_13 (rfl) (zeq (rfl))
set_option maxRecDepth 100000 in
set_option maxHeartbeats 4000000 in
theorem c_R_isAbove {l : Launch} {G : zG} {V : zV} (w : wC G V) (M : zM) (P : Nat → Nat) (D : Nat × Nat) (a b : Int32) : zF l y_R_isAbove b_R_isAbove 2 (some .boolean) 0 0 G [.int a, .int b] (eC V M P D) (some (.int (rAbove a b))) (eC V M P D) := by
  refine zF.ofZ (by decide) w.2.2.2.2 (Nat.le_of_ble_eq_true rfl) (fun X hXl hN hr C => ?_)
  subst hXl
  show Z X G (zA G) 2 _ (eC V M P D) 0 [(0, .int a), (1, .int b)] []
  refine Z_iload_n C 0 d_R_isAbove_0 rfl rfl ?_
  refine Z_i2l C d_R_isAbove_1 ?_
  refine Z_ldc2 C cl_R_189 d_R_isAbove_2 ?_
  refine Z_land C d_R_isAbove_5 ?_
  refine Z_iload_n C 1 d_R_isAbove_6 rfl rfl ?_
  refine Z_i2l C d_R_isAbove_7 ?_
  refine Z_ldc2 C cl_R_189 d_R_isAbove_8 ?_
  refine Z_land C d_R_isAbove_11 ?_
  refine Z_lcmp C d_R_isAbove_12 ?_
  refine Z_if_le (tgt := 20) C d_R_isAbove_13 (by decide) (fun c13 => ?_) (fun c13 => ?_)
  · skip
    refine Z_iconst (v := 0) C d_R_isAbove_20 (by decide) ?_
    exact Z_zret C hN hr (by decide) d_R_isAbove_21 (by simp only [rAbove]; first | rw [if_pos c13] | rw [if_neg c13]) (zeq (rfl))
  · skip
    refine Z_iconst (v := 1) C d_R_isAbove_16 (by decide) ?_
    refine Z_goto (tgt := 21) C d_R_isAbove_17 (by decide) ?_
    exact Z_zret C hN hr (by decide) d_R_isAbove_21 (by simp only [rAbove]; first | rw [if_pos c13] | rw [if_neg c13]) (zeq (rfl))
set_option maxRecDepth 100000 in
set_option maxHeartbeats 4000000 in
theorem c_R_isWhole {l : Launch} {G : zG} {V : zV} (w : wC G V) (M : zM) (P : Nat → Nat) (D : Nat × Nat)  (k : Nat) (hk : k < 63) : zF l y_R_isWhole b_R_isWhole 1 (some .boolean) 2 42 G [.ref (V.1 9 k 0)] (eC V M P D) (some (.int (rWhole M k))) (eC V M P D) := by
  refine zF.ofZ (by decide) w.2.2.2.2 (Nat.le_of_ble_eq_true rfl) (fun X hXl hN hr C => ?_)
  subst hXl
  show Z X G (zA G) 1 _ (eC V M P D) 0 [(0, .ref (V.1 9 k 0))] []
  refine Z_aload_n C 0 d_R_isWhole_0 rfl rfl ?_
  refine C_gF C w (by assumption) 6 (by decide) fl_R_156 rfl rfl d_R_isWhole_1 ?_
  refine Z_sipush (v := 255) C d_R_isWhole_4 (by decide) ?_
  refine Z_icmp_ne (tgt := 91) C d_R_isWhole_7 (by decide) (fun c7 => ?_) (fun c7 => ?_)
  · skip
    refine Z_iconst (v := 0) C d_R_isWhole_91 (by decide) ?_
    exact Z_zret C hN hr (by decide) d_R_isWhole_92 (by simp [rWhole, ← Int32.not_le, c7]) (zeq (rfl))
  · skip
    refine Z_aload_n C 0 d_R_isWhole_10 rfl rfl ?_
    refine C_gF C w (by assumption) 1 (by decide) fl_R_159 rfl rfl d_R_isWhole_11 ?_
    refine Z_bipush (v := 24) C d_R_isWhole_14 (by decide) ?_
    refine Z_icmp_lt (tgt := 91) C d_R_isWhole_16 (by decide) (fun c16 => ?_) (fun c16 => ?_)
    · skip
      refine Z_iconst (v := 0) C d_R_isWhole_91 (by decide) ?_
      exact Z_zret C hN hr (by decide) d_R_isWhole_92 (by simp [rWhole, ← Int32.not_le, c7, c16]) (zeq (rfl))
    · skip
      refine Z_aload_n C 0 d_R_isWhole_19 rfl rfl ?_
      refine Z_iconst (v := 0) C d_R_isWhole_20 (by decide) ?_
      refine C_cFv C w (by assumption) mi_F_byteAt ml_R_162 (c_F_byteAt w _ _ _ _ (by assumption) _) rfl rfl (by decide) rfl (Nat.le_of_ble_eq_true rfl) d_R_isWhole_21 ?_
      refine Z_bipush (v := 32) C d_R_isWhole_24 (by decide) ?_
      refine Z_icmp_lt (tgt := 91) C d_R_isWhole_26 (by decide) (fun c26 => ?_) (fun c26 => ?_)
      · skip
        refine Z_iconst (v := 0) C d_R_isWhole_91 (by decide) ?_
        exact Z_zret C hN hr (by decide) d_R_isWhole_92 (by simp [rWhole, ← Int32.not_le, c7, c16, c26]) (zeq (rfl))
      · skip
        refine Z_aload_n C 0 d_R_isWhole_29 rfl rfl ?_
        refine Z_iconst (v := 0) C d_R_isWhole_30 (by decide) ?_
        refine C_cFv C w (by assumption) mi_F_byteAt ml_R_162 (c_F_byteAt w _ _ _ _ (by assumption) _) rfl rfl (by decide) rfl (Nat.le_of_ble_eq_true rfl) d_R_isWhole_31 ?_
        refine Z_bipush (v := 63) C d_R_isWhole_34 (by decide) ?_
        refine Z_icmp_gt (tgt := 91) C d_R_isWhole_36 (by decide) (fun c36 => ?_) (fun c36 => ?_)
        · skip
          refine Z_iconst (v := 0) C d_R_isWhole_91 (by decide) ?_
          exact Z_zret C hN hr (by decide) d_R_isWhole_92 (by simp [rWhole, ← Int32.not_le, c7, c16, c26, c36]) (zeq (rfl))
        · skip
          refine Z_aload_n C 0 d_R_isWhole_39 rfl rfl ?_
          refine Z_iconst (v := 3) C d_R_isWhole_40 (by decide) ?_
          refine C_cFv C w (by assumption) mi_F_byteAt ml_R_162 (c_F_byteAt w _ _ _ _ (by assumption) _) rfl rfl (by decide) rfl (Nat.le_of_ble_eq_true rfl) d_R_isWhole_41 ?_
          refine Z_bipush (v := 24) C d_R_isWhole_44 (by decide) ?_
          refine Z_icmp_lt (tgt := 91) C d_R_isWhole_46 (by decide) (fun c46 => ?_) (fun c46 => ?_)
          · skip
            refine Z_iconst (v := 0) C d_R_isWhole_91 (by decide) ?_
            exact Z_zret C hN hr (by decide) d_R_isWhole_92 (by simp [rWhole, ← Int32.not_le, c7, c16, c26, c36, c46]) (zeq (rfl))
          · skip
            refine Z_aload_n C 0 d_R_isWhole_49 rfl rfl ?_
            refine Z_iconst (v := 3) C d_R_isWhole_50 (by decide) ?_
            refine C_cFv C w (by assumption) mi_F_byteAt ml_R_162 (c_F_byteAt w _ _ _ _ (by assumption) _) rfl rfl (by decide) rfl (Nat.le_of_ble_eq_true rfl) d_R_isWhole_51 ?_
            refine Z_aload_n C 0 d_R_isWhole_54 rfl rfl ?_
            refine C_gF C w (by assumption) 1 (by decide) fl_R_159 rfl rfl d_R_isWhole_55 ?_
            refine Z_icmp_gt (tgt := 91) C d_R_isWhole_58 (by decide) (fun c58 => ?_) (fun c58 => ?_)
            · skip
              refine Z_iconst (v := 0) C d_R_isWhole_91 (by decide) ?_
              exact Z_zret C hN hr (by decide) d_R_isWhole_92 (by simp [rWhole, ← Int32.not_le, c7, c16, c26, c36, c46, c58]) (zeq (rfl))
            · skip
              refine Z_aload_n C 0 d_R_isWhole_61 rfl rfl ?_
              refine Z_iconst (v := 2) C d_R_isWhole_62 (by decide) ?_
              refine C_cFv C w (by assumption) mi_F_byteAt ml_R_162 (c_F_byteAt w _ _ _ _ (by assumption) _) rfl rfl (by decide) rfl (Nat.le_of_ble_eq_true rfl) d_R_isWhole_63 ?_
              refine Z_if_eq (tgt := 91) C d_R_isWhole_66 (by decide) (fun c66 => ?_) (fun c66 => ?_)
              · skip
                refine Z_iconst (v := 0) C d_R_isWhole_91 (by decide) ?_
                exact Z_zret C hN hr (by decide) d_R_isWhole_92 (by simp [rWhole, ← Int32.not_le, c7, c16, c26, c36, c46, c58, c66]) (zeq (rfl))
              · skip
                refine Z_aload_n C 0 d_R_isWhole_69 rfl rfl ?_
                refine Z_iconst (v := 1) C d_R_isWhole_70 (by decide) ?_
                refine C_cFv C w (by assumption) mi_F_byteAt ml_R_162 (c_F_byteAt w _ _ _ _ (by assumption) _) rfl rfl (by decide) rfl (Nat.le_of_ble_eq_true rfl) d_R_isWhole_71 ?_
                refine Z_iconst (v := 5) C d_R_isWhole_74 (by decide) ?_
                refine Z_iand C d_R_isWhole_75 ?_
                refine Z_if_ne (tgt := 91) C d_R_isWhole_76 (by decide) (fun c76 => ?_) (fun c76 => ?_)
                · skip
                  refine Z_iconst (v := 0) C d_R_isWhole_91 (by decide) ?_
                  exact Z_zret C hN hr (by decide) d_R_isWhole_92 (by simp [rWhole, ← Int32.not_le, c7, c16, c26, c36, c46, c58, c66, c76]) (zeq (rfl))
                · skip
                  refine Z_aload_n C 0 d_R_isWhole_79 rfl rfl ?_
                  refine Z_iconst (v := 4) C d_R_isWhole_80 (by decide) ?_
                  refine C_cFv C w (by assumption) mi_F_fourAt ml_R_165 (c_F_fourAt w _ _ _ _ (by assumption) _) rfl rfl (by decide) rfl (Nat.le_of_ble_eq_true rfl) d_R_isWhole_81 ?_
                  refine Z_if_eq (tgt := 91) C d_R_isWhole_84 (by decide) (fun c84 => ?_) (fun c84 => ?_)
                  · skip
                    refine Z_iconst (v := 0) C d_R_isWhole_91 (by decide) ?_
                    exact Z_zret C hN hr (by decide) d_R_isWhole_92 (by simp [rWhole, ← Int32.not_le, c7, c16, c26, c36, c46, c58, c66, c76, c84]) (zeq (rfl))
                  · skip
                    refine Z_iconst (v := 1) C d_R_isWhole_87 (by decide) ?_
                    refine Z_goto (tgt := 92) C d_R_isWhole_88 (by decide) ?_
                    exact Z_zret C hN hr (by decide) d_R_isWhole_92 (by simp [rWhole, ← Int32.not_le, c7, c16, c26, c36, c46, c58, c66, c76, c84]) (zeq (rfl))
set_option maxRecDepth 100000 in
set_option maxHeartbeats 4000000 in
theorem c_R_sessionMeant {l : Launch} {G : zG} {V : zV} (w : wC G V) (M : zM) (P : Nat → Nat) (D : Nat × Nat) (i : Nat) (hi : i < 5) (k : Nat) (hk : k < 63) : zF l y_R_sessionMeant b_R_sessionMeant 6 (some (.object "StandInLan$Session")) 2 42 G [.ref (V.1 2 i 0), .ref (V.1 9 k 0)] (eC V M P D) (some (va_rf ((rMeant M i k 5 0).map (fun s => V.1 5 i s)))) (eC V M P D) := by
  refine zF.ofZ (by decide) w.2.2.2.2 (Nat.le_of_ble_eq_true rfl) (fun X hXl hN hr C => ?_)
  subst hXl
  show Z X G (zA G) 6 _ (eC V M P D) 0 [(0, .ref (V.1 2 i 0)), (1, .ref (V.1 9 k 0))] []
  refine Z_aload_n C 1 d_R_sessionMeant_0 rfl rfl ?_
  refine Z_bipush (v := 8) C d_R_sessionMeant_1 (by decide) ?_
  refine C_cFv C w (by assumption) mi_F_fourAt ml_R_165 (c_F_fourAt w _ _ _ _ (by assumption) _) rfl rfl (by decide) rfl (Nat.le_of_ble_eq_true rfl) d_R_sessionMeant_3 ?_
  refine Z_istore_n C d_R_sessionMeant_6 rfl (by decide) rfl ?_
  refine Z_iload_n C 0 d_R_sessionMeant_7 rfl rfl ?_
  refine Z_if_ne (tgt := 27) C d_R_sessionMeant_8 (by decide) (fun c8 => ?_) (fun c8 => ?_)
  · skip
    refine Z_iconst (v := 0) C d_R_sessionMeant_27 (by decide) ?_
    refine zst (st' := [.int (rFirst M k)]) (by simp [rFirst, ← Int32.not_le, c8]) ?_
    refine Z_istore_n C d_R_sessionMeant_28 rfl (by decide) rfl ?_
    refine Z_iconst (v := 0) C d_R_sessionMeant_29 (by decide) ?_
    refine Z_istore C d_R_sessionMeant_30 (by decide) rfl ?_
    have hlp : ∀ (n s : Nat), s + n = 5 → rMeant M i k n s = rMeant M i k 5 0 → Z X G (zA G) 6 (zQ X G (some (va_rf ((rMeant M i k 5 0).map (fun s => V.1 5 i s)))) (eC V M P D)) (eC V M P D) 32 [(4, .int (nI s)), (3, .int (rFirst M k)), (2, .int (fo_ M k 8)), (0, .ref (V.1 2 i 0)), (1, .ref (V.1 9 k 0))] [] := by
      intro n
      induction n with
      | zero =>
        intro s h1 h2
        refine Z_iload C 0 d_R_sessionMeant_32 rfl ?_
        refine Z_iconst (v := 5) C d_R_sessionMeant_34 (by decide) ?_
        refine Z_icmp_ge (tgt := 86) C d_R_sessionMeant_35 (by decide) (fun c35 => ?_) (fun c35 => ?_)
        · skip
          refine Z_null C d_R_sessionMeant_86 ?_
          exact Z_aret C hN hr (Or.inl ⟨_, rfl⟩) (Or.inl rfl) d_R_sessionMeant_87 (by rw [← h2]; rfl) (zeq (rfl))
        · exact absurd (nI_le (a := 5) (b := s) (by omega) (by omega)) c35 --stop
      | succ n ih =>
        intro s h1 h2
        have hs : s < 5 := by omega
        refine Z_iload C 0 d_R_sessionMeant_32 rfl ?_
        refine Z_iconst (v := 5) C d_R_sessionMeant_34 (by decide) ?_
        refine Z_icmp_ge (tgt := 86) C d_R_sessionMeant_35 (by decide) (fun c35 => ?_) (fun c35 => ?_)
        · exact absurd c35 (nI_ge (a := s) (b := 5) (by omega) (by decide)) --stop
        · skip
          refine Z_aload_n C 3 d_R_sessionMeant_38 rfl rfl ?_
          refine C_gR C w (by assumption) 3 (by decide) fl_R_27 rfl rfl d_R_sessionMeant_39 ?_
          refine Z_iload C 0 d_R_sessionMeant_42 rfl ?_
          refine C_ldX C w (by assumption) s (nI_clamp (by omega)) (vp_in_nI (by omega) (by decide)) d_R_sessionMeant_44 ?_
          refine Z_astore C d_R_sessionMeant_45 (by decide) rfl ?_
          refine Z_aload C 0 d_R_sessionMeant_47 rfl ?_
          refine C_gS C w (by assumption) (by assumption) 2 (by decide) fl_R_69 rfl rfl d_R_sessionMeant_49 ?_
          refine Z_if_eq (tgt := 80) C d_R_sessionMeant_52 (by decide) (fun c52 => ?_) (fun c52 => ?_)
          · skip
            refine zlv (lv' := [(4, .int (nI s)), (3, .int (rFirst M k)), (2, .int (fo_ M k 8)), (0, .ref (V.1 2 i 0)), (1, .ref (V.1 9 k 0))]) [1, 2, 3, 4, 5] rfl ?_
            refine Z_iinc 0 C d_R_sessionMeant_80 rfl (nI_1 s) (by decide) rfl ?_
            refine Z_goto (tgt := 32) C d_R_sessionMeant_83 (by decide) ?_
            exact ih (s + 1) (by omega) (by rw [← h2]; conv => rhs; unfold rMeant; simp [c52])
          · skip
            refine Z_aload C 0 d_R_sessionMeant_55 rfl ?_
            refine C_gS C w (by assumption) (by assumption) 0 (by decide) fl_R_113 rfl rfl d_R_sessionMeant_57 ?_
            refine Z_iload_n C 3 d_R_sessionMeant_60 rfl rfl ?_
            refine Z_icmp_eq (tgt := 77) C d_R_sessionMeant_61 (by decide) (fun c61 => ?_) (fun c61 => ?_)
            · skip
              refine Z_aload C 0 d_R_sessionMeant_77 rfl ?_
              exact Z_aret C hN hr (Or.inl ⟨_, rfl⟩) (Or.inr ⟨_, rfl⟩) d_R_sessionMeant_79 (by rw [← h2]; unfold rMeant; simp [c52, c61, va_rf]) (zeq rfl)
            · skip
              refine Z_iload_n C 2 d_R_sessionMeant_64 rfl rfl ?_
              refine Z_if_eq (tgt := 80) C d_R_sessionMeant_65 (by decide) (fun c65 => ?_) (fun c65 => ?_)
              · skip
                refine zlv (lv' := [(4, .int (nI s)), (3, .int (rFirst M k)), (2, .int (fo_ M k 8)), (0, .ref (V.1 2 i 0)), (1, .ref (V.1 9 k 0))]) [1, 2, 3, 4, 5] rfl ?_
                refine Z_iinc 0 C d_R_sessionMeant_80 rfl (nI_1 s) (by decide) rfl ?_
                refine Z_goto (tgt := 32) C d_R_sessionMeant_83 (by decide) ?_
                exact ih (s + 1) (by omega) (by rw [← h2]; conv => rhs; unfold rMeant; simp [c52, c61, c65])
              · skip
                refine Z_iload C 1 d_R_sessionMeant_68 rfl ?_
                refine Z_aload_n C 5 d_R_sessionMeant_70 rfl rfl ?_
                refine C_gF C w (by assumption) 3 (by decide) fl_R_150 rfl rfl d_R_sessionMeant_71 ?_
                refine Z_icmp_ne (tgt := 80) C d_R_sessionMeant_74 (by decide) (fun c74 => ?_) (fun c74 => ?_)
                · skip
                  refine zlv (lv' := [(4, .int (nI s)), (3, .int (rFirst M k)), (2, .int (fo_ M k 8)), (0, .ref (V.1 2 i 0)), (1, .ref (V.1 9 k 0))]) [1, 2, 3, 4, 5] rfl ?_
                  refine Z_iinc 0 C d_R_sessionMeant_80 rfl (nI_1 s) (by decide) rfl ?_
                  refine Z_goto (tgt := 32) C d_R_sessionMeant_83 (by decide) ?_
                  exact ih (s + 1) (by omega) (by rw [← h2]; conv => rhs; unfold rMeant; simp [c52, c61, c65, c74])
                · skip
                  refine Z_aload C 0 d_R_sessionMeant_77 rfl ?_
                  exact Z_aret C hN hr (Or.inl ⟨_, rfl⟩) (Or.inr ⟨_, rfl⟩) d_R_sessionMeant_79 (by rw [← h2]; unfold rMeant; simp [c52, c61, c65, c74, va_rf]) (zeq rfl)
    exact hlp 5 0 rfl rfl
  · skip
    refine Z_aload_n C 2 d_R_sessionMeant_11 rfl rfl ?_
    refine Z_iconst (v := 1) C d_R_sessionMeant_12 (by decide) ?_
    refine C_cFv C w (by assumption) mi_F_byteAt ml_R_162 (c_F_byteAt w _ _ _ _ (by assumption) _) rfl rfl (by decide) rfl (Nat.le_of_ble_eq_true rfl) d_R_sessionMeant_13 ?_
    refine Z_bipush (v := 64) C d_R_sessionMeant_16 (by decide) ?_
    refine Z_idiv C d_R_sessionMeant_18 (by decide) ?_
    refine Z_iconst (v := 1) C d_R_sessionMeant_19 (by decide) ?_
    refine Z_icmp_gt (tgt := 27) C d_R_sessionMeant_20 (by decide) (fun c20 => ?_) (fun c20 => ?_)
    · skip
      refine Z_iconst (v := 0) C d_R_sessionMeant_27 (by decide) ?_
      refine zst (st' := [.int (rFirst M k)]) (by simp [rFirst, ← Int32.not_le, c8, c20]) ?_
      refine Z_istore_n C d_R_sessionMeant_28 rfl (by decide) rfl ?_
      refine Z_iconst (v := 0) C d_R_sessionMeant_29 (by decide) ?_
      refine Z_istore C d_R_sessionMeant_30 (by decide) rfl ?_
      have hlp : ∀ (n s : Nat), s + n = 5 → rMeant M i k n s = rMeant M i k 5 0 → Z X G (zA G) 6 (zQ X G (some (va_rf ((rMeant M i k 5 0).map (fun s => V.1 5 i s)))) (eC V M P D)) (eC V M P D) 32 [(4, .int (nI s)), (3, .int (rFirst M k)), (2, .int (fo_ M k 8)), (0, .ref (V.1 2 i 0)), (1, .ref (V.1 9 k 0))] [] := by
        intro n
        induction n with
        | zero =>
          intro s h1 h2
          refine Z_iload C 0 d_R_sessionMeant_32 rfl ?_
          refine Z_iconst (v := 5) C d_R_sessionMeant_34 (by decide) ?_
          refine Z_icmp_ge (tgt := 86) C d_R_sessionMeant_35 (by decide) (fun c35 => ?_) (fun c35 => ?_)
          · skip
            refine Z_null C d_R_sessionMeant_86 ?_
            exact Z_aret C hN hr (Or.inl ⟨_, rfl⟩) (Or.inl rfl) d_R_sessionMeant_87 (by rw [← h2]; rfl) (zeq (rfl))
          · exact absurd (nI_le (a := 5) (b := s) (by omega) (by omega)) c35 --stop
        | succ n ih =>
          intro s h1 h2
          have hs : s < 5 := by omega
          refine Z_iload C 0 d_R_sessionMeant_32 rfl ?_
          refine Z_iconst (v := 5) C d_R_sessionMeant_34 (by decide) ?_
          refine Z_icmp_ge (tgt := 86) C d_R_sessionMeant_35 (by decide) (fun c35 => ?_) (fun c35 => ?_)
          · exact absurd c35 (nI_ge (a := s) (b := 5) (by omega) (by decide)) --stop
          · skip
            refine Z_aload_n C 3 d_R_sessionMeant_38 rfl rfl ?_
            refine C_gR C w (by assumption) 3 (by decide) fl_R_27 rfl rfl d_R_sessionMeant_39 ?_
            refine Z_iload C 0 d_R_sessionMeant_42 rfl ?_
            refine C_ldX C w (by assumption) s (nI_clamp (by omega)) (vp_in_nI (by omega) (by decide)) d_R_sessionMeant_44 ?_
            refine Z_astore C d_R_sessionMeant_45 (by decide) rfl ?_
            refine Z_aload C 0 d_R_sessionMeant_47 rfl ?_
            refine C_gS C w (by assumption) (by assumption) 2 (by decide) fl_R_69 rfl rfl d_R_sessionMeant_49 ?_
            refine Z_if_eq (tgt := 80) C d_R_sessionMeant_52 (by decide) (fun c52 => ?_) (fun c52 => ?_)
            · skip
              refine zlv (lv' := [(4, .int (nI s)), (3, .int (rFirst M k)), (2, .int (fo_ M k 8)), (0, .ref (V.1 2 i 0)), (1, .ref (V.1 9 k 0))]) [1, 2, 3, 4, 5] rfl ?_
              refine Z_iinc 0 C d_R_sessionMeant_80 rfl (nI_1 s) (by decide) rfl ?_
              refine Z_goto (tgt := 32) C d_R_sessionMeant_83 (by decide) ?_
              exact ih (s + 1) (by omega) (by rw [← h2]; conv => rhs; unfold rMeant; simp [c52])
            · skip
              refine Z_aload C 0 d_R_sessionMeant_55 rfl ?_
              refine C_gS C w (by assumption) (by assumption) 0 (by decide) fl_R_113 rfl rfl d_R_sessionMeant_57 ?_
              refine Z_iload_n C 3 d_R_sessionMeant_60 rfl rfl ?_
              refine Z_icmp_eq (tgt := 77) C d_R_sessionMeant_61 (by decide) (fun c61 => ?_) (fun c61 => ?_)
              · skip
                refine Z_aload C 0 d_R_sessionMeant_77 rfl ?_
                exact Z_aret C hN hr (Or.inl ⟨_, rfl⟩) (Or.inr ⟨_, rfl⟩) d_R_sessionMeant_79 (by rw [← h2]; unfold rMeant; simp [c52, c61, va_rf]) (zeq rfl)
              · skip
                refine Z_iload_n C 2 d_R_sessionMeant_64 rfl rfl ?_
                refine Z_if_eq (tgt := 80) C d_R_sessionMeant_65 (by decide) (fun c65 => ?_) (fun c65 => ?_)
                · skip
                  refine zlv (lv' := [(4, .int (nI s)), (3, .int (rFirst M k)), (2, .int (fo_ M k 8)), (0, .ref (V.1 2 i 0)), (1, .ref (V.1 9 k 0))]) [1, 2, 3, 4, 5] rfl ?_
                  refine Z_iinc 0 C d_R_sessionMeant_80 rfl (nI_1 s) (by decide) rfl ?_
                  refine Z_goto (tgt := 32) C d_R_sessionMeant_83 (by decide) ?_
                  exact ih (s + 1) (by omega) (by rw [← h2]; conv => rhs; unfold rMeant; simp [c52, c61, c65])
                · skip
                  refine Z_iload C 1 d_R_sessionMeant_68 rfl ?_
                  refine Z_aload_n C 5 d_R_sessionMeant_70 rfl rfl ?_
                  refine C_gF C w (by assumption) 3 (by decide) fl_R_150 rfl rfl d_R_sessionMeant_71 ?_
                  refine Z_icmp_ne (tgt := 80) C d_R_sessionMeant_74 (by decide) (fun c74 => ?_) (fun c74 => ?_)
                  · skip
                    refine zlv (lv' := [(4, .int (nI s)), (3, .int (rFirst M k)), (2, .int (fo_ M k 8)), (0, .ref (V.1 2 i 0)), (1, .ref (V.1 9 k 0))]) [1, 2, 3, 4, 5] rfl ?_
                    refine Z_iinc 0 C d_R_sessionMeant_80 rfl (nI_1 s) (by decide) rfl ?_
                    refine Z_goto (tgt := 32) C d_R_sessionMeant_83 (by decide) ?_
                    exact ih (s + 1) (by omega) (by rw [← h2]; conv => rhs; unfold rMeant; simp [c52, c61, c65, c74])
                  · skip
                    refine Z_aload C 0 d_R_sessionMeant_77 rfl ?_
                    exact Z_aret C hN hr (Or.inl ⟨_, rfl⟩) (Or.inr ⟨_, rfl⟩) d_R_sessionMeant_79 (by rw [← h2]; unfold rMeant; simp [c52, c61, c65, c74, va_rf]) (zeq rfl)
      exact hlp 5 0 rfl rfl
    · skip
      refine Z_iconst (v := 1) C d_R_sessionMeant_23 (by decide) ?_
      refine Z_goto (tgt := 28) C d_R_sessionMeant_24 (by decide) ?_
      refine zst (st' := [.int (rFirst M k)]) (by simp [rFirst, ← Int32.not_le, c8, c20]) ?_
      refine Z_istore_n C d_R_sessionMeant_28 rfl (by decide) rfl ?_
      refine Z_iconst (v := 0) C d_R_sessionMeant_29 (by decide) ?_
      refine Z_istore C d_R_sessionMeant_30 (by decide) rfl ?_
      have hlp : ∀ (n s : Nat), s + n = 5 → rMeant M i k n s = rMeant M i k 5 0 → Z X G (zA G) 6 (zQ X G (some (va_rf ((rMeant M i k 5 0).map (fun s => V.1 5 i s)))) (eC V M P D)) (eC V M P D) 32 [(4, .int (nI s)), (3, .int (rFirst M k)), (2, .int (fo_ M k 8)), (0, .ref (V.1 2 i 0)), (1, .ref (V.1 9 k 0))] [] := by
        intro n
        induction n with
        | zero =>
          intro s h1 h2
          refine Z_iload C 0 d_R_sessionMeant_32 rfl ?_
          refine Z_iconst (v := 5) C d_R_sessionMeant_34 (by decide) ?_
          refine Z_icmp_ge (tgt := 86) C d_R_sessionMeant_35 (by decide) (fun c35 => ?_) (fun c35 => ?_)
          · skip
            refine Z_null C d_R_sessionMeant_86 ?_
            exact Z_aret C hN hr (Or.inl ⟨_, rfl⟩) (Or.inl rfl) d_R_sessionMeant_87 (by rw [← h2]; rfl) (zeq (rfl))
          · exact absurd (nI_le (a := 5) (b := s) (by omega) (by omega)) c35 --stop
        | succ n ih =>
          intro s h1 h2
          have hs : s < 5 := by omega
          refine Z_iload C 0 d_R_sessionMeant_32 rfl ?_
          refine Z_iconst (v := 5) C d_R_sessionMeant_34 (by decide) ?_
          refine Z_icmp_ge (tgt := 86) C d_R_sessionMeant_35 (by decide) (fun c35 => ?_) (fun c35 => ?_)
          · exact absurd c35 (nI_ge (a := s) (b := 5) (by omega) (by decide)) --stop
          · skip
            refine Z_aload_n C 3 d_R_sessionMeant_38 rfl rfl ?_
            refine C_gR C w (by assumption) 3 (by decide) fl_R_27 rfl rfl d_R_sessionMeant_39 ?_
            refine Z_iload C 0 d_R_sessionMeant_42 rfl ?_
            refine C_ldX C w (by assumption) s (nI_clamp (by omega)) (vp_in_nI (by omega) (by decide)) d_R_sessionMeant_44 ?_
            refine Z_astore C d_R_sessionMeant_45 (by decide) rfl ?_
            refine Z_aload C 0 d_R_sessionMeant_47 rfl ?_
            refine C_gS C w (by assumption) (by assumption) 2 (by decide) fl_R_69 rfl rfl d_R_sessionMeant_49 ?_
            refine Z_if_eq (tgt := 80) C d_R_sessionMeant_52 (by decide) (fun c52 => ?_) (fun c52 => ?_)
            · skip
              refine zlv (lv' := [(4, .int (nI s)), (3, .int (rFirst M k)), (2, .int (fo_ M k 8)), (0, .ref (V.1 2 i 0)), (1, .ref (V.1 9 k 0))]) [1, 2, 3, 4, 5] rfl ?_
              refine Z_iinc 0 C d_R_sessionMeant_80 rfl (nI_1 s) (by decide) rfl ?_
              refine Z_goto (tgt := 32) C d_R_sessionMeant_83 (by decide) ?_
              exact ih (s + 1) (by omega) (by rw [← h2]; conv => rhs; unfold rMeant; simp [c52])
            · skip
              refine Z_aload C 0 d_R_sessionMeant_55 rfl ?_
              refine C_gS C w (by assumption) (by assumption) 0 (by decide) fl_R_113 rfl rfl d_R_sessionMeant_57 ?_
              refine Z_iload_n C 3 d_R_sessionMeant_60 rfl rfl ?_
              refine Z_icmp_eq (tgt := 77) C d_R_sessionMeant_61 (by decide) (fun c61 => ?_) (fun c61 => ?_)
              · skip
                refine Z_aload C 0 d_R_sessionMeant_77 rfl ?_
                exact Z_aret C hN hr (Or.inl ⟨_, rfl⟩) (Or.inr ⟨_, rfl⟩) d_R_sessionMeant_79 (by rw [← h2]; unfold rMeant; simp [c52, c61, va_rf]) (zeq rfl)
              · skip
                refine Z_iload_n C 2 d_R_sessionMeant_64 rfl rfl ?_
                refine Z_if_eq (tgt := 80) C d_R_sessionMeant_65 (by decide) (fun c65 => ?_) (fun c65 => ?_)
                · skip
                  refine zlv (lv' := [(4, .int (nI s)), (3, .int (rFirst M k)), (2, .int (fo_ M k 8)), (0, .ref (V.1 2 i 0)), (1, .ref (V.1 9 k 0))]) [1, 2, 3, 4, 5] rfl ?_
                  refine Z_iinc 0 C d_R_sessionMeant_80 rfl (nI_1 s) (by decide) rfl ?_
                  refine Z_goto (tgt := 32) C d_R_sessionMeant_83 (by decide) ?_
                  exact ih (s + 1) (by omega) (by rw [← h2]; conv => rhs; unfold rMeant; simp [c52, c61, c65])
                · skip
                  refine Z_iload C 1 d_R_sessionMeant_68 rfl ?_
                  refine Z_aload_n C 5 d_R_sessionMeant_70 rfl rfl ?_
                  refine C_gF C w (by assumption) 3 (by decide) fl_R_150 rfl rfl d_R_sessionMeant_71 ?_
                  refine Z_icmp_ne (tgt := 80) C d_R_sessionMeant_74 (by decide) (fun c74 => ?_) (fun c74 => ?_)
                  · skip
                    refine zlv (lv' := [(4, .int (nI s)), (3, .int (rFirst M k)), (2, .int (fo_ M k 8)), (0, .ref (V.1 2 i 0)), (1, .ref (V.1 9 k 0))]) [1, 2, 3, 4, 5] rfl ?_
                    refine Z_iinc 0 C d_R_sessionMeant_80 rfl (nI_1 s) (by decide) rfl ?_
                    refine Z_goto (tgt := 32) C d_R_sessionMeant_83 (by decide) ?_
                    exact ih (s + 1) (by omega) (by rw [← h2]; conv => rhs; unfold rMeant; simp [c52, c61, c65, c74])
                  · skip
                    refine Z_aload C 0 d_R_sessionMeant_77 rfl ?_
                    exact Z_aret C hN hr (Or.inl ⟨_, rfl⟩) (Or.inr ⟨_, rfl⟩) d_R_sessionMeant_79 (by rw [← h2]; unfold rMeant; simp [c52, c61, c65, c74, va_rf]) (zeq rfl)
      exact hlp 5 0 rfl rfl
set_option maxRecDepth 100000 in
set_option maxHeartbeats 4000000 in
theorem c_R_forgetAll {l : Launch} {G : zG} {V : zV} (w : wC G V) (M : zM) (P : Nat → Nat) (D : Nat × Nat) (i : Nat) (hi : i < 5) : zF l y_R_forgetAll b_R_forgetAll 2 none 0 0 G [.ref (V.1 2 i 0)] (eC V M P D) none (eC V (rForget M i) P D) := by
  refine zF.ofZ (by decide) w.2.2.2.2 (Nat.le_of_ble_eq_true rfl) (fun X hXl hN hr C => ?_)
  subst hXl
  show Z X G (zA G) 2 _ (eC V M P D) 0 [(0, .ref (V.1 2 i 0))] []
  refine Z_aload_n C 0 d_R_forgetAll_0 rfl rfl ?_
  refine Z_iconst (v := 0) C d_R_forgetAll_1 (by decide) ?_
  refine C_pR C w (by assumption) 4 (by decide) fl_R_34 rfl rfl rfl rfl rfl d_R_forgetAll_2 ?_
  refine Z_aload_n C 0 d_R_forgetAll_5 rfl rfl ?_
  refine Z_iconst (v := 0) C d_R_forgetAll_6 (by decide) ?_
  refine C_pR C w (by assumption) 5 (by decide) fl_R_37 rfl rfl rfl rfl rfl d_R_forgetAll_7 ?_
  refine Z_aload_n C 0 d_R_forgetAll_10 rfl rfl ?_
  refine Z_iconst (v := 0) C d_R_forgetAll_11 (by decide) ?_
  refine C_pR C w (by assumption) 6 (by decide) fl_R_44 rfl rfl rfl rfl rfl d_R_forgetAll_12 ?_
  refine Z_iconst (v := 0) C d_R_forgetAll_15 (by decide) ?_
  refine Z_istore_n C d_R_forgetAll_16 rfl (by decide) rfl ?_
  have hlp : ∀ (n s : Nat), s + n = 5 → Z X G (zA G) 2 (zQ X G none (eC V (rForget M i) P D)) (eC V (gone (up (up (up M 2 i 0 4 0) 2 i 0 5 0) 2 i 0 6 0) i s) P D) 17 [(1, .int (nI s)), (0, .ref (V.1 2 i 0))] [] := by
    intro n
    induction n with
    | zero =>
      intro s h1
      obtain rfl : s = 5 := by omega
      refine Z_iload_n C 0 d_R_forgetAll_17 rfl rfl ?_
      refine Z_iconst (v := 5) C d_R_forgetAll_18 (by decide) ?_
      refine Z_icmp_ge (tgt := 38) C d_R_forgetAll_19 (by decide) (fun c19 => ?_) (fun c19 => ?_)
      · skip
        exact Z_vret C hN hr d_R_forgetAll_38 rfl (zeq (rfl))
      · exact absurd (nI_le (a := 5) (b := 5) (by omega) (by omega)) c19 --stop
    | succ n ih =>
      intro s h1
      have hs : s < 5 := by omega
      refine Z_iload_n C 0 d_R_forgetAll_17 rfl rfl ?_
      refine Z_iconst (v := 5) C d_R_forgetAll_18 (by decide) ?_
      refine Z_icmp_ge (tgt := 38) C d_R_forgetAll_19 (by decide) (fun c19 => ?_) (fun c19 => ?_)
      · exact absurd c19 (nI_ge (a := s) (b := 5) (by omega) (by decide)) --stop
      · skip
        refine Z_aload_n C 1 d_R_forgetAll_22 rfl rfl ?_
        refine C_gR C w (by assumption) 3 (by decide) fl_R_27 rfl rfl d_R_forgetAll_23 ?_
        refine Z_iload_n C 0 d_R_forgetAll_26 rfl rfl ?_
        refine C_ldX C w (by assumption) s (nI_clamp (by omega)) (vp_in_nI (by omega) (by decide)) d_R_forgetAll_27 ?_
        refine Z_iconst (v := 0) C d_R_forgetAll_28 (by decide) ?_
        refine C_pS C w (by assumption) (by assumption) 2 (by decide) fl_R_69 rfl rfl rfl rfl rfl d_R_forgetAll_29 ?_
        refine Z_iinc 0 C d_R_forgetAll_32 rfl (nI_1 s) (by decide) rfl ?_
        refine Z_goto (tgt := 17) C d_R_forgetAll_35 (by decide) ?_
        exact ih (s + 1) (by omega)
  exact hlp 5 0 rfl
set_option maxRecDepth 100000 in
set_option maxHeartbeats 4000000 in
theorem c_S_learn {l : Launch} {G : zG} {V : zV} (w : wC G V) (M : zM) (P : Nat → Nat) (D : Nat × Nat) (i j : Nat) (hi : i < 5) (hj : j < 5) (k : Nat) (hk : k < 63) : zF l y_S_learn b_S_learn 5 (some .boolean) 2 42 G [.ref (V.1 5 i j), .ref (V.1 9 k 0)] (eC V M P D) (some (.int (sChanged (M 5 i j) (M 9 k 0) (M 10 k 0)))) (eC V (rw4 M 5 i j (sLearn (M 5 i j) (M 9 k 0) (M 10 k 0))) P D) := by
  refine zF.ofZ (by decide) w.2.2.2.2 (Nat.le_of_ble_eq_true rfl) (fun X hXl hN hr C => ?_)
  subst hXl
  show Z X G (zA G) 5 _ (eC V M P D) 0 [(0, .ref (V.1 5 i j)), (1, .ref (V.1 9 k 0))] []
  refine Z_aload_n C 0 d_S_learn_0 rfl rfl ?_
  refine C_gS C w (by assumption) (by assumption) 10 (by decide) fl_S_43 rfl rfl d_S_learn_1 ?_
  refine Z_istore_n C d_S_learn_4 rfl (by decide) rfl ?_
  refine Z_aload_n C 1 d_S_learn_5 rfl rfl ?_
  refine C_gS C w (by assumption) (by assumption) 3 (by decide) fl_S_22 rfl rfl d_S_learn_6 ?_
  refine Z_istore_n C d_S_learn_9 rfl (by decide) rfl ?_
  refine Z_aload_n C 3 d_S_learn_10 rfl rfl ?_
  refine Z_iconst (v := 1) C d_S_learn_11 (by decide) ?_
  refine C_cFv C w (by assumption) mi_F_byteAt ml_S_93 (c_F_byteAt w _ _ _ _ (by assumption) _) rfl rfl (by decide) rfl (Nat.le_of_ble_eq_true rfl) d_S_learn_12 ?_
  refine Z_istore C d_S_learn_15 (by decide) rfl ?_
  refine Z_aload_n C 3 d_S_learn_17 rfl rfl ?_
  refine Z_aload_n C 4 d_S_learn_18 rfl rfl ?_
  refine Z_iconst (v := 4) C d_S_learn_19 (by decide) ?_
  refine C_cFv C w (by assumption) mi_F_fourAt ml_S_98 (c_F_fourAt w _ _ _ _ (by assumption) _) rfl rfl (by decide) rfl (Nat.le_of_ble_eq_true rfl) d_S_learn_20 ?_
  refine C_csv C ms_S_told ml_S_101 (c_S_told w _ _ _ _) rfl (by decide) rfl (Nat.le_of_ble_eq_true rfl) d_S_learn_23 ?_
  refine C_pS C w (by assumption) (by assumption) 5 (by decide) fl_S_28 rfl rfl rfl rfl rfl d_S_learn_26 ?_
  refine Z_aload_n C 3 d_S_learn_29 rfl rfl ?_
  refine Z_iload C 0 d_S_learn_30 rfl ?_
  refine Z_bipush (v := 64) C d_S_learn_32 (by decide) ?_
  refine Z_idiv C d_S_learn_34 (by decide) ?_
  refine C_pS C w (by assumption) (by assumption) 4 (by decide) fl_S_25 rfl rfl rfl rfl rfl d_S_learn_35 ?_
  refine Z_aload_n C 3 d_S_learn_38 rfl rfl ?_
  refine Z_aload_n C 4 d_S_learn_39 rfl rfl ?_
  refine Z_iconst (v := 2) C d_S_learn_40 (by decide) ?_
  refine C_cFv C w (by assumption) mi_F_byteAt ml_S_93 (c_F_byteAt w _ _ _ _ (by assumption) _) rfl rfl (by decide) rfl (Nat.le_of_ble_eq_true rfl) d_S_learn_41 ?_
  refine C_pS C w (by assumption) (by assumption) 12 (by decide) fl_S_49 rfl rfl rfl rfl rfl d_S_learn_44 ?_
  refine Z_aload_n C 3 d_S_learn_47 rfl rfl ?_
  refine Z_aload_n C 4 d_S_learn_48 rfl rfl ?_
  refine Z_bipush (v := 12) C d_S_learn_49 (by decide) ?_
  refine C_cFv C w (by assumption) mi_F_fourAt ml_S_98 (c_F_fourAt w _ _ _ _ (by assumption) _) rfl rfl (by decide) rfl (Nat.le_of_ble_eq_true rfl) d_S_learn_51 ?_
  refine C_csv C ms_S_told ml_S_101 (c_S_told w _ _ _ _) rfl (by decide) rfl (Nat.le_of_ble_eq_true rfl) d_S_learn_54 ?_
  refine C_pS C w (by assumption) (by assumption) 11 (by decide) fl_S_46 rfl rfl rfl rfl rfl d_S_learn_57 ?_
  refine Z_aload_n C 3 d_S_learn_60 rfl rfl ?_
  refine Z_aload_n C 4 d_S_learn_61 rfl rfl ?_
  refine Z_bipush (v := 16) C d_S_learn_62 (by decide) ?_
  refine C_cFv C w (by assumption) mi_F_fourAt ml_S_98 (c_F_fourAt w _ _ _ _ (by assumption) _) rfl rfl (by decide) rfl (Nat.le_of_ble_eq_true rfl) d_S_learn_64 ?_
  refine C_csv C ms_S_told ml_S_101 (c_S_told w _ _ _ _) rfl (by decide) rfl (Nat.le_of_ble_eq_true rfl) d_S_learn_67 ?_
  refine C_pS C w (by assumption) (by assumption) 10 (by decide) fl_S_43 rfl rfl rfl rfl rfl d_S_learn_70 ?_
  refine Z_aload_n C 3 d_S_learn_73 rfl rfl ?_
  refine C_gS C w (by assumption) (by assumption) 13 (by decide) fl_S_52 rfl rfl d_S_learn_74 ?_
  refine Z_if_eq (tgt := 97) C d_S_learn_77 (by decide) (fun c77 => ?_) (fun c77 => ?_)
  · simp [up_eq, rw4_rw4, rw4_self, rw4_id, rk_2_3, rk_2_5, rk_2_6, rk_2_7, rk_2_9, rk_2_10, rk_3_2, rk_3_5, rk_3_6, rk_3_7, rk_3_9, rk_3_10, rk_5_2, rk_5_3, rk_5_6, rk_5_7, rk_5_9, rk_5_10, rk_6_2, rk_6_3, rk_6_5, rk_6_7, rk_6_9, rk_6_10, rk_7_2, rk_7_3, rk_7_5, rk_7_6, rk_7_9, rk_7_10, rk_9_2, rk_9_3, rk_9_5, rk_9_6, rk_9_7, rk_9_10, rk_10_2, rk_10_3, rk_10_5, rk_10_6, rk_10_7, rk_10_9, upd] at c77
    refine zKk (K' := eC V (rw4 M 5 i j (sLearn2 (M 5 i j) (M 9 k 0) (M 10 k 0))) P D) (zeq (by apply eC_M; simp only [up_eq, rw4_rw4, rw4_self, rw4_id, rk_2_3, rk_2_5, rk_2_6, rk_2_7, rk_2_9, rk_2_10, rk_3_2, rk_3_5, rk_3_6, rk_3_7, rk_3_9, rk_3_10, rk_5_2, rk_5_3, rk_5_6, rk_5_7, rk_5_9, rk_5_10, rk_6_2, rk_6_3, rk_6_5, rk_6_7, rk_6_9, rk_6_10, rk_7_2, rk_7_3, rk_7_5, rk_7_6, rk_7_9, rk_7_10, rk_9_2, rk_9_3, rk_9_5, rk_9_6, rk_9_7, rk_9_10, rk_10_2, rk_10_3, rk_10_5, rk_10_6, rk_10_7, rk_10_9]; unfold sLearn2 sLearn1; simp [upd, sUse, c77])) ?_
    refine Z_aload_n C 3 d_S_learn_97 rfl rfl ?_
    refine Z_ldc C co_S_104 d_S_learn_98 ?_
    refine Z_aload_n C 3 d_S_learn_100 rfl rfl ?_
    refine C_gS C w (by assumption) (by assumption) 12 (by decide) fl_S_49 rfl rfl d_S_learn_101 ?_
    refine Z_aload_n C 3 d_S_learn_104 rfl rfl ?_
    refine C_gS C w (by assumption) (by assumption) 15 (by decide) fl_S_80 rfl rfl d_S_learn_105 ?_
    refine Z_aload_n C 3 d_S_learn_108 rfl rfl ?_
    refine C_gS C w (by assumption) (by assumption) 11 (by decide) fl_S_46 rfl rfl d_S_learn_109 ?_
    refine Z_mmax C ml_S_83 mx_s ma_i mx_c ⟨Nat.le_of_ble_eq_true rfl, Nat.le_of_ble_eq_true rfl⟩ d_S_learn_112 ?_
    refine Z_imul C d_S_learn_115 ?_
    refine Z_mmin C ml_S_74 mn_s ma_i mn_c ⟨Nat.le_of_ble_eq_true rfl, Nat.le_of_ble_eq_true rfl⟩ d_S_learn_116 ?_
    refine C_pS C w (by assumption) (by assumption) 17 (by decide) fl_S_58 rfl rfl rfl rfl rfl d_S_learn_119 ?_
    refine Z_aload_n C 3 d_S_learn_122 rfl rfl ?_
    refine C_cSn C w (by assumption) (by assumption) mi_S_follow ml_S_105 (c_S_follow w _ _ _ _ _ (by assumption) (by assumption)) rfl rfl (by decide) rfl (Nat.le_of_ble_eq_true rfl) d_S_learn_123 ?_
    refine Z_aload_n C 3 d_S_learn_126 rfl rfl ?_
    refine C_gS C w (by assumption) (by assumption) 10 (by decide) fl_S_43 rfl rfl d_S_learn_127 ?_
    refine Z_iload_n C 2 d_S_learn_130 rfl rfl ?_
    refine Z_icmp_ne (tgt := 142) C d_S_learn_131 (by decide) (fun c131 => ?_) (fun c131 => ?_)
    · simp only [up_eq, rw4_rw4, rw4_self, rw4_id, rk_2_3, rk_2_5, rk_2_6, rk_2_7, rk_2_9, rk_2_10, rk_3_2, rk_3_5, rk_3_6, rk_3_7, rk_3_9, rk_3_10, rk_5_2, rk_5_3, rk_5_6, rk_5_7, rk_5_9, rk_5_10, rk_6_2, rk_6_3, rk_6_5, rk_6_7, rk_6_9, rk_6_10, rk_7_2, rk_7_3, rk_7_5, rk_7_6, rk_7_9, rk_7_10, rk_9_2, rk_9_3, rk_9_5, rk_9_6, rk_9_7, rk_9_10, rk_10_2, rk_10_3, rk_10_5, rk_10_6, rk_10_7, rk_10_9] at c131
      have c131 : ¬ sLearn (M 5 i j) (M 9 k 0) (M 10 k 0) 10 = M 5 i j 10 := c131
      refine Z_iconst (v := 1) C d_S_learn_142 (by decide) ?_
      refine Z_goto (tgt := 147) C d_S_learn_143 (by decide) ?_
      exact Z_zret C hN hr (by decide) d_S_learn_147 (by unfold sChanged; first | rw [if_pos c131] | rw [if_neg (not_not_intro c131), if_pos c139] | rw [if_neg (not_not_intro c131), if_neg c139]) (zeq (by apply eC_M; simp only [up_eq, rw4_rw4, rw4_self, rw4_id, rk_2_3, rk_2_5, rk_2_6, rk_2_7, rk_2_9, rk_2_10, rk_3_2, rk_3_5, rk_3_6, rk_3_7, rk_3_9, rk_3_10, rk_5_2, rk_5_3, rk_5_6, rk_5_7, rk_5_9, rk_5_10, rk_6_2, rk_6_3, rk_6_5, rk_6_7, rk_6_9, rk_6_10, rk_7_2, rk_7_3, rk_7_5, rk_7_6, rk_7_9, rk_7_10, rk_9_2, rk_9_3, rk_9_5, rk_9_6, rk_9_7, rk_9_10, rk_10_2, rk_10_3, rk_10_5, rk_10_6, rk_10_7, rk_10_9]; rfl))
    · simp only [up_eq, rw4_rw4, rw4_self, rw4_id, rk_2_3, rk_2_5, rk_2_6, rk_2_7, rk_2_9, rk_2_10, rk_3_2, rk_3_5, rk_3_6, rk_3_7, rk_3_9, rk_3_10, rk_5_2, rk_5_3, rk_5_6, rk_5_7, rk_5_9, rk_5_10, rk_6_2, rk_6_3, rk_6_5, rk_6_7, rk_6_9, rk_6_10, rk_7_2, rk_7_3, rk_7_5, rk_7_6, rk_7_9, rk_7_10, rk_9_2, rk_9_3, rk_9_5, rk_9_6, rk_9_7, rk_9_10, rk_10_2, rk_10_3, rk_10_5, rk_10_6, rk_10_7, rk_10_9] at c131
      have c131 : sLearn (M 5 i j) (M 9 k 0) (M 10 k 0) 10 = M 5 i j 10 := c131
      refine Z_aload_n C 3 d_S_learn_134 rfl rfl ?_
      refine C_gS C w (by assumption) (by assumption) 3 (by decide) fl_S_22 rfl rfl d_S_learn_135 ?_
      refine Z_iload_n C 1 d_S_learn_138 rfl rfl ?_
      refine Z_icmp_eq (tgt := 146) C d_S_learn_139 (by decide) (fun c139 => ?_) (fun c139 => ?_)
      · simp only [up_eq, rw4_rw4, rw4_self, rw4_id, rk_2_3, rk_2_5, rk_2_6, rk_2_7, rk_2_9, rk_2_10, rk_3_2, rk_3_5, rk_3_6, rk_3_7, rk_3_9, rk_3_10, rk_5_2, rk_5_3, rk_5_6, rk_5_7, rk_5_9, rk_5_10, rk_6_2, rk_6_3, rk_6_5, rk_6_7, rk_6_9, rk_6_10, rk_7_2, rk_7_3, rk_7_5, rk_7_6, rk_7_9, rk_7_10, rk_9_2, rk_9_3, rk_9_5, rk_9_6, rk_9_7, rk_9_10, rk_10_2, rk_10_3, rk_10_5, rk_10_6, rk_10_7, rk_10_9] at c139
        have c139 : sLearn (M 5 i j) (M 9 k 0) (M 10 k 0) 3 = M 5 i j 3 := c139
        refine Z_iconst (v := 0) C d_S_learn_146 (by decide) ?_
        exact Z_zret C hN hr (by decide) d_S_learn_147 (by unfold sChanged; first | rw [if_pos c131] | rw [if_neg (not_not_intro c131), if_pos c139] | rw [if_neg (not_not_intro c131), if_neg c139]) (zeq (by apply eC_M; simp only [up_eq, rw4_rw4, rw4_self, rw4_id, rk_2_3, rk_2_5, rk_2_6, rk_2_7, rk_2_9, rk_2_10, rk_3_2, rk_3_5, rk_3_6, rk_3_7, rk_3_9, rk_3_10, rk_5_2, rk_5_3, rk_5_6, rk_5_7, rk_5_9, rk_5_10, rk_6_2, rk_6_3, rk_6_5, rk_6_7, rk_6_9, rk_6_10, rk_7_2, rk_7_3, rk_7_5, rk_7_6, rk_7_9, rk_7_10, rk_9_2, rk_9_3, rk_9_5, rk_9_6, rk_9_7, rk_9_10, rk_10_2, rk_10_3, rk_10_5, rk_10_6, rk_10_7, rk_10_9]; rfl))
      · simp only [up_eq, rw4_rw4, rw4_self, rw4_id, rk_2_3, rk_2_5, rk_2_6, rk_2_7, rk_2_9, rk_2_10, rk_3_2, rk_3_5, rk_3_6, rk_3_7, rk_3_9, rk_3_10, rk_5_2, rk_5_3, rk_5_6, rk_5_7, rk_5_9, rk_5_10, rk_6_2, rk_6_3, rk_6_5, rk_6_7, rk_6_9, rk_6_10, rk_7_2, rk_7_3, rk_7_5, rk_7_6, rk_7_9, rk_7_10, rk_9_2, rk_9_3, rk_9_5, rk_9_6, rk_9_7, rk_9_10, rk_10_2, rk_10_3, rk_10_5, rk_10_6, rk_10_7, rk_10_9] at c139
        have c139 : ¬ sLearn (M 5 i j) (M 9 k 0) (M 10 k 0) 3 = M 5 i j 3 := c139
        refine Z_iconst (v := 1) C d_S_learn_142 (by decide) ?_
        refine Z_goto (tgt := 147) C d_S_learn_143 (by decide) ?_
        exact Z_zret C hN hr (by decide) d_S_learn_147 (by unfold sChanged; first | rw [if_pos c131] | rw [if_neg (not_not_intro c131), if_pos c139] | rw [if_neg (not_not_intro c131), if_neg c139]) (zeq (by apply eC_M; simp only [up_eq, rw4_rw4, rw4_self, rw4_id, rk_2_3, rk_2_5, rk_2_6, rk_2_7, rk_2_9, rk_2_10, rk_3_2, rk_3_5, rk_3_6, rk_3_7, rk_3_9, rk_3_10, rk_5_2, rk_5_3, rk_5_6, rk_5_7, rk_5_9, rk_5_10, rk_6_2, rk_6_3, rk_6_5, rk_6_7, rk_6_9, rk_6_10, rk_7_2, rk_7_3, rk_7_5, rk_7_6, rk_7_9, rk_7_10, rk_9_2, rk_9_3, rk_9_5, rk_9_6, rk_9_7, rk_9_10, rk_10_2, rk_10_3, rk_10_5, rk_10_6, rk_10_7, rk_10_9]; rfl))
  · simp [up_eq, rw4_rw4, rw4_self, rw4_id, rk_2_3, rk_2_5, rk_2_6, rk_2_7, rk_2_9, rk_2_10, rk_3_2, rk_3_5, rk_3_6, rk_3_7, rk_3_9, rk_3_10, rk_5_2, rk_5_3, rk_5_6, rk_5_7, rk_5_9, rk_5_10, rk_6_2, rk_6_3, rk_6_5, rk_6_7, rk_6_9, rk_6_10, rk_7_2, rk_7_3, rk_7_5, rk_7_6, rk_7_9, rk_7_10, rk_9_2, rk_9_3, rk_9_5, rk_9_6, rk_9_7, rk_9_10, rk_10_2, rk_10_3, rk_10_5, rk_10_6, rk_10_7, rk_10_9, upd] at c77
    refine Z_iload C 0 d_S_learn_80 rfl ?_
    refine Z_bipush (v := 16) C d_S_learn_82 (by decide) ?_
    refine Z_iand C d_S_learn_84 ?_
    refine Z_if_eq (tgt := 97) C d_S_learn_85 (by decide) (fun c85 => ?_) (fun c85 => ?_)
    · skip
      refine zKk (K' := eC V (rw4 M 5 i j (sLearn2 (M 5 i j) (M 9 k 0) (M 10 k 0))) P D) (zeq (by apply eC_M; simp only [up_eq, rw4_rw4, rw4_self, rw4_id, rk_2_3, rk_2_5, rk_2_6, rk_2_7, rk_2_9, rk_2_10, rk_3_2, rk_3_5, rk_3_6, rk_3_7, rk_3_9, rk_3_10, rk_5_2, rk_5_3, rk_5_6, rk_5_7, rk_5_9, rk_5_10, rk_6_2, rk_6_3, rk_6_5, rk_6_7, rk_6_9, rk_6_10, rk_7_2, rk_7_3, rk_7_5, rk_7_6, rk_7_9, rk_7_10, rk_9_2, rk_9_3, rk_9_5, rk_9_6, rk_9_7, rk_9_10, rk_10_2, rk_10_3, rk_10_5, rk_10_6, rk_10_7, rk_10_9]; unfold sLearn2 sLearn1; simp [upd, sUse, c77, c85])) ?_
      refine Z_aload_n C 3 d_S_learn_97 rfl rfl ?_
      refine Z_ldc C co_S_104 d_S_learn_98 ?_
      refine Z_aload_n C 3 d_S_learn_100 rfl rfl ?_
      refine C_gS C w (by assumption) (by assumption) 12 (by decide) fl_S_49 rfl rfl d_S_learn_101 ?_
      refine Z_aload_n C 3 d_S_learn_104 rfl rfl ?_
      refine C_gS C w (by assumption) (by assumption) 15 (by decide) fl_S_80 rfl rfl d_S_learn_105 ?_
      refine Z_aload_n C 3 d_S_learn_108 rfl rfl ?_
      refine C_gS C w (by assumption) (by assumption) 11 (by decide) fl_S_46 rfl rfl d_S_learn_109 ?_
      refine Z_mmax C ml_S_83 mx_s ma_i mx_c ⟨Nat.le_of_ble_eq_true rfl, Nat.le_of_ble_eq_true rfl⟩ d_S_learn_112 ?_
      refine Z_imul C d_S_learn_115 ?_
      refine Z_mmin C ml_S_74 mn_s ma_i mn_c ⟨Nat.le_of_ble_eq_true rfl, Nat.le_of_ble_eq_true rfl⟩ d_S_learn_116 ?_
      refine C_pS C w (by assumption) (by assumption) 17 (by decide) fl_S_58 rfl rfl rfl rfl rfl d_S_learn_119 ?_
      refine Z_aload_n C 3 d_S_learn_122 rfl rfl ?_
      refine C_cSn C w (by assumption) (by assumption) mi_S_follow ml_S_105 (c_S_follow w _ _ _ _ _ (by assumption) (by assumption)) rfl rfl (by decide) rfl (Nat.le_of_ble_eq_true rfl) d_S_learn_123 ?_
      refine Z_aload_n C 3 d_S_learn_126 rfl rfl ?_
      refine C_gS C w (by assumption) (by assumption) 10 (by decide) fl_S_43 rfl rfl d_S_learn_127 ?_
      refine Z_iload_n C 2 d_S_learn_130 rfl rfl ?_
      refine Z_icmp_ne (tgt := 142) C d_S_learn_131 (by decide) (fun c131 => ?_) (fun c131 => ?_)
      · simp only [up_eq, rw4_rw4, rw4_self, rw4_id, rk_2_3, rk_2_5, rk_2_6, rk_2_7, rk_2_9, rk_2_10, rk_3_2, rk_3_5, rk_3_6, rk_3_7, rk_3_9, rk_3_10, rk_5_2, rk_5_3, rk_5_6, rk_5_7, rk_5_9, rk_5_10, rk_6_2, rk_6_3, rk_6_5, rk_6_7, rk_6_9, rk_6_10, rk_7_2, rk_7_3, rk_7_5, rk_7_6, rk_7_9, rk_7_10, rk_9_2, rk_9_3, rk_9_5, rk_9_6, rk_9_7, rk_9_10, rk_10_2, rk_10_3, rk_10_5, rk_10_6, rk_10_7, rk_10_9] at c131
        have c131 : ¬ sLearn (M 5 i j) (M 9 k 0) (M 10 k 0) 10 = M 5 i j 10 := c131
        refine Z_iconst (v := 1) C d_S_learn_142 (by decide) ?_
        refine Z_goto (tgt := 147) C d_S_learn_143 (by decide) ?_
        exact Z_zret C hN hr (by decide) d_S_learn_147 (by unfold sChanged; first | rw [if_pos c131] | rw [if_neg (not_not_intro c131), if_pos c139] | rw [if_neg (not_not_intro c131), if_neg c139]) (zeq (by apply eC_M; simp only [up_eq, rw4_rw4, rw4_self, rw4_id, rk_2_3, rk_2_5, rk_2_6, rk_2_7, rk_2_9, rk_2_10, rk_3_2, rk_3_5, rk_3_6, rk_3_7, rk_3_9, rk_3_10, rk_5_2, rk_5_3, rk_5_6, rk_5_7, rk_5_9, rk_5_10, rk_6_2, rk_6_3, rk_6_5, rk_6_7, rk_6_9, rk_6_10, rk_7_2, rk_7_3, rk_7_5, rk_7_6, rk_7_9, rk_7_10, rk_9_2, rk_9_3, rk_9_5, rk_9_6, rk_9_7, rk_9_10, rk_10_2, rk_10_3, rk_10_5, rk_10_6, rk_10_7, rk_10_9]; rfl))
      · simp only [up_eq, rw4_rw4, rw4_self, rw4_id, rk_2_3, rk_2_5, rk_2_6, rk_2_7, rk_2_9, rk_2_10, rk_3_2, rk_3_5, rk_3_6, rk_3_7, rk_3_9, rk_3_10, rk_5_2, rk_5_3, rk_5_6, rk_5_7, rk_5_9, rk_5_10, rk_6_2, rk_6_3, rk_6_5, rk_6_7, rk_6_9, rk_6_10, rk_7_2, rk_7_3, rk_7_5, rk_7_6, rk_7_9, rk_7_10, rk_9_2, rk_9_3, rk_9_5, rk_9_6, rk_9_7, rk_9_10, rk_10_2, rk_10_3, rk_10_5, rk_10_6, rk_10_7, rk_10_9] at c131
        have c131 : sLearn (M 5 i j) (M 9 k 0) (M 10 k 0) 10 = M 5 i j 10 := c131
        refine Z_aload_n C 3 d_S_learn_134 rfl rfl ?_
        refine C_gS C w (by assumption) (by assumption) 3 (by decide) fl_S_22 rfl rfl d_S_learn_135 ?_
        refine Z_iload_n C 1 d_S_learn_138 rfl rfl ?_
        refine Z_icmp_eq (tgt := 146) C d_S_learn_139 (by decide) (fun c139 => ?_) (fun c139 => ?_)
        · simp only [up_eq, rw4_rw4, rw4_self, rw4_id, rk_2_3, rk_2_5, rk_2_6, rk_2_7, rk_2_9, rk_2_10, rk_3_2, rk_3_5, rk_3_6, rk_3_7, rk_3_9, rk_3_10, rk_5_2, rk_5_3, rk_5_6, rk_5_7, rk_5_9, rk_5_10, rk_6_2, rk_6_3, rk_6_5, rk_6_7, rk_6_9, rk_6_10, rk_7_2, rk_7_3, rk_7_5, rk_7_6, rk_7_9, rk_7_10, rk_9_2, rk_9_3, rk_9_5, rk_9_6, rk_9_7, rk_9_10, rk_10_2, rk_10_3, rk_10_5, rk_10_6, rk_10_7, rk_10_9] at c139
          have c139 : sLearn (M 5 i j) (M 9 k 0) (M 10 k 0) 3 = M 5 i j 3 := c139
          refine Z_iconst (v := 0) C d_S_learn_146 (by decide) ?_
          exact Z_zret C hN hr (by decide) d_S_learn_147 (by unfold sChanged; first | rw [if_pos c131] | rw [if_neg (not_not_intro c131), if_pos c139] | rw [if_neg (not_not_intro c131), if_neg c139]) (zeq (by apply eC_M; simp only [up_eq, rw4_rw4, rw4_self, rw4_id, rk_2_3, rk_2_5, rk_2_6, rk_2_7, rk_2_9, rk_2_10, rk_3_2, rk_3_5, rk_3_6, rk_3_7, rk_3_9, rk_3_10, rk_5_2, rk_5_3, rk_5_6, rk_5_7, rk_5_9, rk_5_10, rk_6_2, rk_6_3, rk_6_5, rk_6_7, rk_6_9, rk_6_10, rk_7_2, rk_7_3, rk_7_5, rk_7_6, rk_7_9, rk_7_10, rk_9_2, rk_9_3, rk_9_5, rk_9_6, rk_9_7, rk_9_10, rk_10_2, rk_10_3, rk_10_5, rk_10_6, rk_10_7, rk_10_9]; rfl))
        · simp only [up_eq, rw4_rw4, rw4_self, rw4_id, rk_2_3, rk_2_5, rk_2_6, rk_2_7, rk_2_9, rk_2_10, rk_3_2, rk_3_5, rk_3_6, rk_3_7, rk_3_9, rk_3_10, rk_5_2, rk_5_3, rk_5_6, rk_5_7, rk_5_9, rk_5_10, rk_6_2, rk_6_3, rk_6_5, rk_6_7, rk_6_9, rk_6_10, rk_7_2, rk_7_3, rk_7_5, rk_7_6, rk_7_9, rk_7_10, rk_9_2, rk_9_3, rk_9_5, rk_9_6, rk_9_7, rk_9_10, rk_10_2, rk_10_3, rk_10_5, rk_10_6, rk_10_7, rk_10_9] at c139
          have c139 : ¬ sLearn (M 5 i j) (M 9 k 0) (M 10 k 0) 3 = M 5 i j 3 := c139
          refine Z_iconst (v := 1) C d_S_learn_142 (by decide) ?_
          refine Z_goto (tgt := 147) C d_S_learn_143 (by decide) ?_
          exact Z_zret C hN hr (by decide) d_S_learn_147 (by unfold sChanged; first | rw [if_pos c131] | rw [if_neg (not_not_intro c131), if_pos c139] | rw [if_neg (not_not_intro c131), if_neg c139]) (zeq (by apply eC_M; simp only [up_eq, rw4_rw4, rw4_self, rw4_id, rk_2_3, rk_2_5, rk_2_6, rk_2_7, rk_2_9, rk_2_10, rk_3_2, rk_3_5, rk_3_6, rk_3_7, rk_3_9, rk_3_10, rk_5_2, rk_5_3, rk_5_6, rk_5_7, rk_5_9, rk_5_10, rk_6_2, rk_6_3, rk_6_5, rk_6_7, rk_6_9, rk_6_10, rk_7_2, rk_7_3, rk_7_5, rk_7_6, rk_7_9, rk_7_10, rk_9_2, rk_9_3, rk_9_5, rk_9_6, rk_9_7, rk_9_10, rk_10_2, rk_10_3, rk_10_5, rk_10_6, rk_10_7, rk_10_9]; rfl))
    · skip
      refine Z_aload_n C 3 d_S_learn_88 rfl rfl ?_
      refine Z_iconst (v := 0) C d_S_learn_89 (by decide) ?_
      refine C_pS C w (by assumption) (by assumption) 13 (by decide) fl_S_52 rfl rfl rfl rfl rfl d_S_learn_90 ?_
      refine Z_aload_n C 3 d_S_learn_93 rfl rfl ?_
      refine C_cSn C w (by assumption) (by assumption) mi_S_useRates ml_S_55 (c_S_useRates w _ _ _ _ _ (by assumption) (by assumption)) rfl rfl (by decide) rfl (Nat.le_of_ble_eq_true rfl) d_S_learn_94 ?_
      refine zKk (K' := eC V (rw4 M 5 i j (sLearn2 (M 5 i j) (M 9 k 0) (M 10 k 0))) P D) (zeq (by apply eC_M; simp only [up_eq, rw4_rw4, rw4_self, rw4_id, rk_2_3, rk_2_5, rk_2_6, rk_2_7, rk_2_9, rk_2_10, rk_3_2, rk_3_5, rk_3_6, rk_3_7, rk_3_9, rk_3_10, rk_5_2, rk_5_3, rk_5_6, rk_5_7, rk_5_9, rk_5_10, rk_6_2, rk_6_3, rk_6_5, rk_6_7, rk_6_9, rk_6_10, rk_7_2, rk_7_3, rk_7_5, rk_7_6, rk_7_9, rk_7_10, rk_9_2, rk_9_3, rk_9_5, rk_9_6, rk_9_7, rk_9_10, rk_10_2, rk_10_3, rk_10_5, rk_10_6, rk_10_7, rk_10_9]; unfold sLearn2 sLearn1; simp [upd, sUse, c77, c85])) ?_
      refine Z_aload_n C 3 d_S_learn_97 rfl rfl ?_
      refine Z_ldc C co_S_104 d_S_learn_98 ?_
      refine Z_aload_n C 3 d_S_learn_100 rfl rfl ?_
      refine C_gS C w (by assumption) (by assumption) 12 (by decide) fl_S_49 rfl rfl d_S_learn_101 ?_
      refine Z_aload_n C 3 d_S_learn_104 rfl rfl ?_
      refine C_gS C w (by assumption) (by assumption) 15 (by decide) fl_S_80 rfl rfl d_S_learn_105 ?_
      refine Z_aload_n C 3 d_S_learn_108 rfl rfl ?_
      refine C_gS C w (by assumption) (by assumption) 11 (by decide) fl_S_46 rfl rfl d_S_learn_109 ?_
      refine Z_mmax C ml_S_83 mx_s ma_i mx_c ⟨Nat.le_of_ble_eq_true rfl, Nat.le_of_ble_eq_true rfl⟩ d_S_learn_112 ?_
      refine Z_imul C d_S_learn_115 ?_
      refine Z_mmin C ml_S_74 mn_s ma_i mn_c ⟨Nat.le_of_ble_eq_true rfl, Nat.le_of_ble_eq_true rfl⟩ d_S_learn_116 ?_
      refine C_pS C w (by assumption) (by assumption) 17 (by decide) fl_S_58 rfl rfl rfl rfl rfl d_S_learn_119 ?_
      refine Z_aload_n C 3 d_S_learn_122 rfl rfl ?_
      refine C_cSn C w (by assumption) (by assumption) mi_S_follow ml_S_105 (c_S_follow w _ _ _ _ _ (by assumption) (by assumption)) rfl rfl (by decide) rfl (Nat.le_of_ble_eq_true rfl) d_S_learn_123 ?_
      refine Z_aload_n C 3 d_S_learn_126 rfl rfl ?_
      refine C_gS C w (by assumption) (by assumption) 10 (by decide) fl_S_43 rfl rfl d_S_learn_127 ?_
      refine Z_iload_n C 2 d_S_learn_130 rfl rfl ?_
      refine Z_icmp_ne (tgt := 142) C d_S_learn_131 (by decide) (fun c131 => ?_) (fun c131 => ?_)
      · simp only [up_eq, rw4_rw4, rw4_self, rw4_id, rk_2_3, rk_2_5, rk_2_6, rk_2_7, rk_2_9, rk_2_10, rk_3_2, rk_3_5, rk_3_6, rk_3_7, rk_3_9, rk_3_10, rk_5_2, rk_5_3, rk_5_6, rk_5_7, rk_5_9, rk_5_10, rk_6_2, rk_6_3, rk_6_5, rk_6_7, rk_6_9, rk_6_10, rk_7_2, rk_7_3, rk_7_5, rk_7_6, rk_7_9, rk_7_10, rk_9_2, rk_9_3, rk_9_5, rk_9_6, rk_9_7, rk_9_10, rk_10_2, rk_10_3, rk_10_5, rk_10_6, rk_10_7, rk_10_9] at c131
        have c131 : ¬ sLearn (M 5 i j) (M 9 k 0) (M 10 k 0) 10 = M 5 i j 10 := c131
        refine Z_iconst (v := 1) C d_S_learn_142 (by decide) ?_
        refine Z_goto (tgt := 147) C d_S_learn_143 (by decide) ?_
        exact Z_zret C hN hr (by decide) d_S_learn_147 (by unfold sChanged; first | rw [if_pos c131] | rw [if_neg (not_not_intro c131), if_pos c139] | rw [if_neg (not_not_intro c131), if_neg c139]) (zeq (by apply eC_M; simp only [up_eq, rw4_rw4, rw4_self, rw4_id, rk_2_3, rk_2_5, rk_2_6, rk_2_7, rk_2_9, rk_2_10, rk_3_2, rk_3_5, rk_3_6, rk_3_7, rk_3_9, rk_3_10, rk_5_2, rk_5_3, rk_5_6, rk_5_7, rk_5_9, rk_5_10, rk_6_2, rk_6_3, rk_6_5, rk_6_7, rk_6_9, rk_6_10, rk_7_2, rk_7_3, rk_7_5, rk_7_6, rk_7_9, rk_7_10, rk_9_2, rk_9_3, rk_9_5, rk_9_6, rk_9_7, rk_9_10, rk_10_2, rk_10_3, rk_10_5, rk_10_6, rk_10_7, rk_10_9]; rfl))
      · simp only [up_eq, rw4_rw4, rw4_self, rw4_id, rk_2_3, rk_2_5, rk_2_6, rk_2_7, rk_2_9, rk_2_10, rk_3_2, rk_3_5, rk_3_6, rk_3_7, rk_3_9, rk_3_10, rk_5_2, rk_5_3, rk_5_6, rk_5_7, rk_5_9, rk_5_10, rk_6_2, rk_6_3, rk_6_5, rk_6_7, rk_6_9, rk_6_10, rk_7_2, rk_7_3, rk_7_5, rk_7_6, rk_7_9, rk_7_10, rk_9_2, rk_9_3, rk_9_5, rk_9_6, rk_9_7, rk_9_10, rk_10_2, rk_10_3, rk_10_5, rk_10_6, rk_10_7, rk_10_9] at c131
        have c131 : sLearn (M 5 i j) (M 9 k 0) (M 10 k 0) 10 = M 5 i j 10 := c131
        refine Z_aload_n C 3 d_S_learn_134 rfl rfl ?_
        refine C_gS C w (by assumption) (by assumption) 3 (by decide) fl_S_22 rfl rfl d_S_learn_135 ?_
        refine Z_iload_n C 1 d_S_learn_138 rfl rfl ?_
        refine Z_icmp_eq (tgt := 146) C d_S_learn_139 (by decide) (fun c139 => ?_) (fun c139 => ?_)
        · simp only [up_eq, rw4_rw4, rw4_self, rw4_id, rk_2_3, rk_2_5, rk_2_6, rk_2_7, rk_2_9, rk_2_10, rk_3_2, rk_3_5, rk_3_6, rk_3_7, rk_3_9, rk_3_10, rk_5_2, rk_5_3, rk_5_6, rk_5_7, rk_5_9, rk_5_10, rk_6_2, rk_6_3, rk_6_5, rk_6_7, rk_6_9, rk_6_10, rk_7_2, rk_7_3, rk_7_5, rk_7_6, rk_7_9, rk_7_10, rk_9_2, rk_9_3, rk_9_5, rk_9_6, rk_9_7, rk_9_10, rk_10_2, rk_10_3, rk_10_5, rk_10_6, rk_10_7, rk_10_9] at c139
          have c139 : sLearn (M 5 i j) (M 9 k 0) (M 10 k 0) 3 = M 5 i j 3 := c139
          refine Z_iconst (v := 0) C d_S_learn_146 (by decide) ?_
          exact Z_zret C hN hr (by decide) d_S_learn_147 (by unfold sChanged; first | rw [if_pos c131] | rw [if_neg (not_not_intro c131), if_pos c139] | rw [if_neg (not_not_intro c131), if_neg c139]) (zeq (by apply eC_M; simp only [up_eq, rw4_rw4, rw4_self, rw4_id, rk_2_3, rk_2_5, rk_2_6, rk_2_7, rk_2_9, rk_2_10, rk_3_2, rk_3_5, rk_3_6, rk_3_7, rk_3_9, rk_3_10, rk_5_2, rk_5_3, rk_5_6, rk_5_7, rk_5_9, rk_5_10, rk_6_2, rk_6_3, rk_6_5, rk_6_7, rk_6_9, rk_6_10, rk_7_2, rk_7_3, rk_7_5, rk_7_6, rk_7_9, rk_7_10, rk_9_2, rk_9_3, rk_9_5, rk_9_6, rk_9_7, rk_9_10, rk_10_2, rk_10_3, rk_10_5, rk_10_6, rk_10_7, rk_10_9]; rfl))
        · simp only [up_eq, rw4_rw4, rw4_self, rw4_id, rk_2_3, rk_2_5, rk_2_6, rk_2_7, rk_2_9, rk_2_10, rk_3_2, rk_3_5, rk_3_6, rk_3_7, rk_3_9, rk_3_10, rk_5_2, rk_5_3, rk_5_6, rk_5_7, rk_5_9, rk_5_10, rk_6_2, rk_6_3, rk_6_5, rk_6_7, rk_6_9, rk_6_10, rk_7_2, rk_7_3, rk_7_5, rk_7_6, rk_7_9, rk_7_10, rk_9_2, rk_9_3, rk_9_5, rk_9_6, rk_9_7, rk_9_10, rk_10_2, rk_10_3, rk_10_5, rk_10_6, rk_10_7, rk_10_9] at c139
          have c139 : ¬ sLearn (M 5 i j) (M 9 k 0) (M 10 k 0) 3 = M 5 i j 3 := c139
          refine Z_iconst (v := 1) C d_S_learn_142 (by decide) ?_
          refine Z_goto (tgt := 147) C d_S_learn_143 (by decide) ?_
          exact Z_zret C hN hr (by decide) d_S_learn_147 (by unfold sChanged; first | rw [if_pos c131] | rw [if_neg (not_not_intro c131), if_pos c139] | rw [if_neg (not_not_intro c131), if_neg c139]) (zeq (by apply eC_M; simp only [up_eq, rw4_rw4, rw4_self, rw4_id, rk_2_3, rk_2_5, rk_2_6, rk_2_7, rk_2_9, rk_2_10, rk_3_2, rk_3_5, rk_3_6, rk_3_7, rk_3_9, rk_3_10, rk_5_2, rk_5_3, rk_5_6, rk_5_7, rk_5_9, rk_5_10, rk_6_2, rk_6_3, rk_6_5, rk_6_7, rk_6_9, rk_6_10, rk_7_2, rk_7_3, rk_7_5, rk_7_6, rk_7_9, rk_7_10, rk_9_2, rk_9_3, rk_9_5, rk_9_6, rk_9_7, rk_9_10, rk_10_2, rk_10_3, rk_10_5, rk_10_6, rk_10_7, rk_10_9]; rfl))
end
section
/-! THE ROUTER, part B: what it sends. The state as a triple -/
abbrev zS : Type := zM × (Nat → Nat) × (Nat × Nat)
def cnt (M : zM) : Nat := (M 6 0 0 2).toNatClampNeg
/-- the frames' numbers are frames; the count is 0 to 60 -/
def Inv (M : zM) (P : Nat → Nat) (D : Nat × Nat) : Prop := D.1 < 63 ∧ D.2 < 63 ∧ (∀ n, n < 60 → P n < 63) ∧ M 6 0 0 2 = nI (cnt M) ∧ cnt M ≤ 60
theorem Inv.of {M M' : zM} {P : Nat → Nat} {D : Nat × Nat} (h : Inv M P D) (e : M' 6 0 0 2 = M 6 0 0 2) : Inv M' P D := by
  obtain ⟨h1, h2, h3, h4, h5⟩ := h
  have hc : cnt M' = cnt M := by unfold cnt; rw [e]
  exact ⟨h1, h2, h3, by rw [hc, e]; exact h4, by rw [hc]; exact h5⟩
theorem cnt_nI {n : Nat} (h : n < 2 ^ 31) {M : zM} (e : M 6 0 0 2 = nI n) : cnt M = n := by unfold cnt; rw [e]; exact nI_clamp h
theorem Inv.cy {M : zM} {P : Nat → Nat} {D : Nat × Nat} {s : Nat} {port delay : Int32} (h : Inv M P D) : Inv (cyM M D.1 (cnt M) s port delay) (cyP P D (cnt M)) (cyD P D (cnt M)) := by
  obtain ⟨h1, h2, h3, h4, h5⟩ := h
  unfold cyM cyP cyD
  by_cases hc : cnt M = 60
  · rw [if_pos hc, if_pos hc, if_pos hc]
    exact ⟨h1, h2, h3, h4, h5⟩
  · rw [if_neg hc, if_neg hc, if_neg hc]
    have e : up (up (up (up M 7 0 0 s port) 9 D.1 0 7 (cyPorts (up M 7 0 0 s port) (M 9 D.1 0 4) port)) 9 D.1 0 8 (M 6 0 0 3 + delay)) 6 0 0 2 (nI (cnt M + 1)) 6 0 0 2 = nI (cnt M + 1) := by rw [up_self]; rfl
    have ec := cnt_nI (by omega) e
    refine ⟨h3 _ (by omega), h2, fun n hn => ?_, by rw [ec]; exact e, by rw [ec]; omega⟩
    by_cases q : n = cnt M
    · subst q; rw [va_up_self]; exact h1
    · rw [va_up_ne _ _ q]; exact h3 n hn
def sdS (σ : zS) (i s : Nat) : zS := if (σ.1 3 i 0 7 &&& 1) = 0 then (cyM (up σ.1 2 i 0 9 (σ.1 2 i 0 9 + 1)) σ.2.2.1 (cnt σ.1) s (nI i) (σ.1 3 i 0 6), cyP σ.2.1 σ.2.2 (cnt σ.1), cyD σ.2.1 σ.2.2 (cnt σ.1)) else (up σ.1 2 i 0 9 (σ.1 2 i 0 9 + 1), σ.2.1, σ.2.2)
theorem Inv.sd {σ : zS} {i s : Nat} (h : Inv σ.1 σ.2.1 σ.2.2) : Inv (sdS σ i s).1 (sdS σ i s).2.1 (sdS σ i s).2.2 := by
  unfold sdS
  by_cases c : (σ.1 3 i 0 7 &&& 1) = 0
  · rw [if_pos c]
    exact (h.of (M' := up σ.1 2 i 0 9 (σ.1 2 i 0 9 + 1)) rfl).cy
  · rw [if_neg c]
    exact h.of rfl
theorem Inv.sd' {M : zM} {P : Nat → Nat} {D : Nat × Nat} {i s : Nat} (h : Inv M P D) : Inv (sdS (M, P, D) i s).1 (sdS (M, P, D) i s).2.1 (sdS (M, P, D) i s).2.2 := Inv.sd (σ := (M, P, D)) h
theorem fPut_k {M : zM} {k κ a b : Nat} {v : Int32} (h9 : κ ≠ 9) (h10 : κ ≠ 10) : fPut M k v κ a b = M κ a b := by
  unfold fPut
  split
  · rfl
  · split
    · rfl
    · rw [up_ne (fun z => h9 z.1), up_ne (fun z => h10 z.1)]
theorem fPut_f {M : zM} {k f : Nat} {v : Int32} (h : f ≠ 1) : fPut M k v 9 k 0 f = M 9 k 0 f := by
  unfold fPut
  split
  · rfl
  · split
    · rfl
    · rw [up_self]; simp [upd, h, up]
theorem fPut2_k {M : zM} {k κ a b : Nat} {v : Int32} (h9 : κ ≠ 9) (h10 : κ ≠ 10) : fPut2 M k v κ a b = M κ a b := by unfold fPut2; rw [fPut_k h9 h10, fPut_k h9 h10]
theorem fPut2_f {M : zM} {k f : Nat} {v : Int32} (h : f ≠ 1) : fPut2 M k v 9 k 0 f = M 9 k 0 f := by unfold fPut2; rw [fPut_f h, fPut_f h]
theorem fPut4_k {M : zM} {k κ a b : Nat} {v : Int32} (h9 : κ ≠ 9) (h10 : κ ≠ 10) : fPut4 M k v κ a b = M κ a b := by unfold fPut4; rw [fPut_k h9 h10, fPut_k h9 h10, fPut_k h9 h10, fPut_k h9 h10]
theorem fPut4_f {M : zM} {k f : Nat} {v : Int32} (h : f ≠ 1) : fPut4 M k v 9 k 0 f = M 9 k 0 f := by unfold fPut4; rw [fPut_f h, fPut_f h, fPut_f h, fPut_f h]
theorem fCheck_k {M : zM} {k κ a b : Nat} {x : Int32} (h10 : κ ≠ 10) : fCheck M k x κ a b = M κ a b := by
  unfold fCheck
  split
  · rfl
  · split
    · rfl
    · split
      · rfl
      · rw [up_ne (fun z => h10 z.1), up_ne (fun z => h10 z.1)]
theorem wNew_3 {M : zM} {d : Nat} {a b c e : Int32} : wNew M d a b c e 9 d 0 3 = b := by unfold wNew; simp [up_self, upd]
theorem wNew_4 {M : zM} {d : Nat} {a b c e : Int32} : wNew M d a b c e 9 d 0 4 = c := by unfold wNew; simp [up_self, upd]
def seS (σ : zS) (i : Nat) (kind : Int32) (s : Nat) (to : Int32) : zS := sdS (wNew σ.1 σ.2.2.1 kind (nI s) to (σ.1 3 i 0 4), σ.2.1, σ.2.2) i s
def ad1 (M : zM) (d i : Nat) : zM := fPut (wNew M d 1 9 15 (M 3 i 0 4)) d 49
def ad2 (M : zM) (d i : Nat) (pr : Int32) : zM := fPut (fPut (fPut (ad1 M d i) d (ad1 M d i 3 i 0 3)) d pr) d 1
def ad3 (M : zM) (d i : Nat) (pr : Int32) : zM := fPut2 (fPut2 (ad2 M d i pr) d (ad2 M d i pr 3 i 0 1)) d 0
def ad4 (M : zM) (d i : Nat) (pr : Int32) : zM := fCheck (fPut4 (ad3 M d i pr) d (ad3 M d i pr 3 i 0 5)) d 6
theorem ad4_k {M : zM} {d i κ a b : Nat} {pr : Int32} (h9 : κ ≠ 9) (h10 : κ ≠ 10) : ad4 M d i pr κ a b = M κ a b := by
  unfold ad4 ad3 ad2 ad1
  rw [fCheck_k h10, fPut4_k h9 h10, fPut2_k h9 h10, fPut2_k h9 h10, fPut_k h9 h10, fPut_k h9 h10, fPut_k h9 h10, fPut_k h9 h10]
  unfold wNew
  rw [up_ne (fun z => h9 z.1), up_ne (fun z => h9 z.1), up_ne (fun z => h9 z.1), up_ne (fun z => h9 z.1), up_ne (fun z => h9 z.1), up_ne (fun z => h9 z.1)]
theorem ad4_c (M : zM) (d i : Nat) (pr : Int32) : ad4 M d i pr 6 0 0 2 = M 6 0 0 2 := by rw [ad4_k (by decide) (by decide)]
theorem inv_ad4 {M : zM} {P : Nat → Nat} {D : Nat × Nat} {d i : Nat} {pr : Int32} (h : Inv M P D) : Inv (ad4 M d i pr) P D := Inv.of h (ad4_c M d i pr)
theorem ad4_3 {M : zM} {d i : Nat} {pr : Int32} : ad4 M d i pr 9 d 0 3 = nI 9 := by
  unfold ad4 ad3 ad2 ad1
  rw [fCheck_k (by decide), fPut4_f (by decide), fPut2_f (by decide), fPut2_f (by decide), fPut_f (by decide), fPut_f (by decide), fPut_f (by decide), fPut_f (by decide), wNew_3]
  rfl
theorem ad4_4 {M : zM} {d i : Nat} {pr : Int32} : ad4 M d i pr 9 d 0 4 = nI 15 := by
  unfold ad4 ad3 ad2 ad1
  rw [fCheck_k (by decide), fPut4_f (by decide), fPut2_f (by decide), fPut2_f (by decide), fPut_f (by decide), fPut_f (by decide), fPut_f (by decide), fPut_f (by decide), wNew_4]
  rfl
def adS (σ : zS) (i : Nat) (pr : Int32) : zS := sdS (ad4 σ.1 σ.2.2.1 i pr, σ.2.1, σ.2.2) i 9
theorem Inv.ad {σ : zS} {i : Nat} {pr : Int32} (h : Inv σ.1 σ.2.1 σ.2.2) : Inv (adS σ i pr).1 (adS σ i pr).2.1 (adS σ i pr).2.2 := by
  have h' : Inv (ad4 σ.1 σ.2.2.1 i pr) σ.2.1 σ.2.2 := inv_ad4 h
  unfold adS
  exact Inv.sd' h'
theorem Inv.se {σ : zS} {i s : Nat} {kind to : Int32} (h : Inv σ.1 σ.2.1 σ.2.2) : Inv (seS σ i kind s to).1 (seS σ i kind s to).2.1 (seS σ i kind s to).2.2 := Inv.sd (h.of rfl)
/-- a session's packet -/
def pk1 (M : zM) (d i j : Nat) (flag : Int32) : zM := fPut (wNew M d 2 (nI i) (nI j) (M 3 i 0 4)) d (32 + wNew M d 2 (nI i) (nI j) (M 3 i 0 4) 5 i j 6)
def pk2 (M : zM) (d i j : Nat) (flag : Int32) : zM := fPut (pk1 M d i j flag) d (64 * pk1 M d i j flag 5 i j 3 + flag)
def pk3 (M : zM) (d i j : Nat) (flag : Int32) : zM := fPut (fPut (pk2 M d i j flag) d (pk2 M d i j flag 5 i j 9)) d 24
def pk4 (M : zM) (d i j : Nat) (flag : Int32) : zM := fPut4 (pk3 M d i j flag) d (nI (16 * i + j + 1))
def pk5 (M : zM) (d i j : Nat) (flag : Int32) : zM := fPut4 (pk4 M d i j flag) d (pk4 M d i j flag 5 i j 5)
def pk6 (M : zM) (d i j : Nat) (flag : Int32) : zM := fPut4 (pk5 M d i j flag) d (sSlowed (pk5 M d i j flag 5 i j) (pk5 M d i j flag 5 i j 7))
def pk7 (M : zM) (d i j : Nat) (flag : Int32) : zM := fPut4 (fPut4 (pk6 M d i j flag) d (pk6 M d i j flag 5 i j 8)) d 0
theorem pk7_k {M : zM} {d i j κ a b : Nat} {flag : Int32} (h9 : κ ≠ 9) (h10 : κ ≠ 10) : pk7 M d i j flag κ a b = M κ a b := by
  unfold pk7 pk6 pk5 pk4 pk3 pk2 pk1
  rw [fPut4_k h9 h10, fPut4_k h9 h10, fPut4_k h9 h10, fPut4_k h9 h10, fPut4_k h9 h10, fPut_k h9 h10, fPut_k h9 h10, fPut_k h9 h10, fPut_k h9 h10]
  unfold wNew
  rw [up_ne (fun z => h9 z.1), up_ne (fun z => h9 z.1), up_ne (fun z => h9 z.1), up_ne (fun z => h9 z.1), up_ne (fun z => h9 z.1), up_ne (fun z => h9 z.1)]
theorem pk7_c (M : zM) (d i j : Nat) (flag : Int32) : pk7 M d i j flag 6 0 0 2 = M 6 0 0 2 := by rw [pk7_k (by decide) (by decide)]
theorem inv_pk7 {M : zM} {P : Nat → Nat} {D : Nat × Nat} {d i j : Nat} {flag : Int32} (h : Inv M P D) : Inv (pk7 M d i j flag) P D := Inv.of h (pk7_c M d i j flag)
theorem pk7_3 {M : zM} {d i j : Nat} {flag : Int32} : pk7 M d i j flag 9 d 0 3 = nI i := by
  unfold pk7 pk6 pk5 pk4 pk3 pk2 pk1
  rw [fPut4_f (by decide), fPut4_f (by decide), fPut4_f (by decide), fPut4_f (by decide), fPut4_f (by decide), fPut_f (by decide), fPut_f (by decide), fPut_f (by decide), fPut_f (by decide), wNew_3]
theorem pk7_4 {M : zM} {d i j : Nat} {flag : Int32} : pk7 M d i j flag 9 d 0 4 = nI j := by
  unfold pk7 pk6 pk5 pk4 pk3 pk2 pk1
  rw [fPut4_f (by decide), fPut4_f (by decide), fPut4_f (by decide), fPut4_f (by decide), fPut4_f (by decide), fPut_f (by decide), fPut_f (by decide), fPut_f (by decide), fPut_f (by decide), wNew_4]
def pkS (σ : zS) (i j : Nat) (flag : Int32) : zS := sdS (pk7 σ.1 σ.2.2.1 i j flag, σ.2.1, σ.2.2) i i
theorem Inv.pk {σ : zS} {i j : Nat} {flag : Int32} (h : Inv σ.1 σ.2.1 σ.2.2) : Inv (pkS σ i j flag).1 (pkS σ i j flag).2.1 (pkS σ i j flag).2.2 := by
  have h' : Inv (pk7 σ.1 σ.2.2.1 i j flag) σ.2.1 σ.2.2 := inv_pk7 h
  unfold pkS
  exact Inv.sd' h'
/-- comes to be ACTIVE -/
def ac1 (σ : zS) (i : Nat) : zS := seS (adS σ i (rWeighed σ.1 i)) i 3 9 15
def acS (σ : zS) (i : Nat) : zS := (up (up (up (ac1 σ i).1 2 i 0 5 ((ac1 σ i).1 3 i 0 1)) 2 i 0 4 2) 2 i 0 7 (up (up (ac1 σ i).1 2 i 0 5 ((ac1 σ i).1 3 i 0 1)) 2 i 0 4 2 2 i 0 7 + 1), (ac1 σ i).2.1, (ac1 σ i).2.2)
theorem Inv.ac {σ : zS} {i : Nat} (h : Inv σ.1 σ.2.1 σ.2.2) : Inv (acS σ i).1 (acS σ i).2.1 (acS σ i).2.2 := by
  have h1 := Inv.ad (i := i) (pr := rWeighed σ.1 i) h
  have h2 : Inv (ac1 σ i).1 (ac1 σ i).2.1 (ac1 σ i).2.2 := Inv.se (σ := adS σ i (rWeighed σ.1 i)) h1
  unfold acS
  exact Inv.of h2 rfl
def wkS (σ : zS) (i : Nat) : zS := if rWeighed (up σ.1 2 i 0 6 (σ.1 3 i 0 1)) i = 255 then acS (up σ.1 2 i 0 6 (σ.1 3 i 0 1), σ.2.1, σ.2.2) i else (rBackup (up σ.1 2 i 0 6 (σ.1 3 i 0 1)) i, σ.2.1, σ.2.2)
def gbS (σ : zS) (i : Nat) : zS := if σ.1 2 i 0 4 = 2 then adS σ i 0 else σ
def hbM (M : zM) (i k : Nat) : zM := if by_ M k 2 = 0 then up M 2 i 0 5 (imx 1 (rSkew M i)) else if M 3 i 0 2 = 0 then rBackup (up M 2 i 0 6 (rIvl M k)) i else if by_ M k 2 < rWeighed M i then M else rBackup (up M 2 i 0 6 (rIvl M k)) i
def haB (M : zM) (i k : Nat) : Bool := decide (rWeighed M i < by_ M k 2) || (decide (by_ M k 2 = rWeighed M i) && decide (¬ rAbove (M 9 k 0 5) (M 3 i 0 4) = 0))
def haS (σ : zS) (i k : Nat) : zS := if by_ σ.1 k 2 = 0 then (up (adS σ i (rWeighed σ.1 i)).1 2 i 0 5 ((adS σ i (rWeighed σ.1 i)).1 3 i 0 1), (adS σ i (rWeighed σ.1 i)).2.1, (adS σ i (rWeighed σ.1 i)).2.2) else if haB σ.1 i k = true then (rBackup (up σ.1 2 i 0 6 (rIvl σ.1 k)) i, σ.2.1, σ.2.2) else adS σ i (rWeighed σ.1 i)
def tfS (σ : zS) (i : Nat) : zS := if σ.1 2 i 0 4 = 1 then acS σ i else (up (adS σ i (rWeighed σ.1 i)).1 2 i 0 5 ((adS σ i (rWeighed σ.1 i)).1 3 i 0 1), (adS σ i (rWeighed σ.1 i)).2.1, (adS σ i (rWeighed σ.1 i)).2.2)
theorem Inv.wk {σ : zS} {i : Nat} (h : Inv σ.1 σ.2.1 σ.2.2) : Inv (wkS σ i).1 (wkS σ i).2.1 (wkS σ i).2.2 := by
  unfold wkS
  split
  · exact Inv.ac (h.of rfl)
  · exact h.of rfl
theorem Inv.gb {σ : zS} {i : Nat} (h : Inv σ.1 σ.2.1 σ.2.2) : Inv (gbS σ i).1 (gbS σ i).2.1 (gbS σ i).2.2 := by
  unfold gbS
  split
  · exact Inv.ad h
  · exact h
theorem Inv.ha {σ : zS} {i k : Nat} (h : Inv σ.1 σ.2.1 σ.2.2) : Inv (haS σ i k).1 (haS σ i k).2.1 (haS σ i k).2.2 := by
  unfold haS
  split
  · exact (Inv.ad h).of rfl
  · split
    · exact h.of rfl
    · exact Inv.ad h
theorem Inv.tf {σ : zS} {i : Nat} (h : Inv σ.1 σ.2.1 σ.2.2) : Inv (tfS σ i).1 (tfS σ i).2.1 (tfS σ i).2.2 := by
  unfold tfS
  split
  · exact Inv.ac h
  · exact (Inv.ad h).of rfl
set_option maxRecDepth 100000 in
set_option maxHeartbeats 4000000 in
theorem c_R_sendDraft {l : Launch} {G : zG} {V : zV} (w : wC G V) (M : zM) (P : Nat → Nat) (D : Nat × Nat) (i : Nat) (hi : i < 5) (s : Nat) (hI : Inv M P D) (hs : M 9 D.1 0 3 = nI s) (hs16 : s < 16) : zF l y_R_sendDraft b_R_sendDraft 1 none 1 25 G [.ref (V.1 2 i 0)] (eC V M P D) none (eC V (sdS (M, P, D) i s).1 (sdS (M, P, D) i s).2.1 (sdS (M, P, D) i s).2.2) := by
  refine zF.ofZ (by decide) w.2.2.2.2 (Nat.le_of_ble_eq_true rfl) (fun X hXl hN hr C => ?_)
  subst hXl
  show Z X G (zA G) 1 _ (eC V M P D) 0 [(0, .ref (V.1 2 i 0))] []
  obtain ⟨hD1, hD2, hPP, hc, hc60⟩ := id hI
  refine Z_aload_n C 0 d_R_sendDraft_0 rfl rfl ?_
  refine Z_dup C d_R_sendDraft_1 rfl ?_
  refine C_gR C w (by assumption) 9 (by decide) fl_R_53 rfl rfl d_R_sendDraft_2 ?_
  refine Z_iconst (v := 1) C d_R_sendDraft_5 (by decide) ?_
  refine Z_iadd C d_R_sendDraft_6 ?_
  refine C_pR C w (by assumption) 9 (by decide) fl_R_53 rfl rfl rfl rfl rfl d_R_sendDraft_7 ?_
  refine Z_aload_n C 0 d_R_sendDraft_10 rfl rfl ?_
  refine C_gR C w (by assumption) 2 (by decide) fl_R_21 rfl rfl d_R_sendDraft_11 ?_
  refine Z_bipush (v := 7) C d_R_sendDraft_14 (by decide) ?_
  refine C_ldG C w (by assumption) 7 (by decide) (by unfold vp_in; decide) d_R_sendDraft_16 ?_
  refine Z_iconst (v := 1) C d_R_sendDraft_17 (by decide) ?_
  refine Z_iand C d_R_sendDraft_18 ?_
  refine Z_if_ne (tgt := 40) C d_R_sendDraft_19 (by decide) (fun c19 => ?_) (fun c19 => ?_)
  · have c19 : ¬ (M 3 i 0 7 &&& 1) = 0 := c19
    exact Z_vret C hN hr d_R_sendDraft_40 rfl (zeq (by unfold sdS; dsimp only; first | (rw [if_pos c19]; rfl) | rw [if_neg c19]))
  · have c19 : (M 3 i 0 7 &&& 1) = 0 := c19
    refine Z_aload_n C 0 d_R_sendDraft_22 rfl rfl ?_
    refine C_gR C w (by assumption) 1 (by decide) fl_R_15 rfl rfl d_R_sendDraft_23 ?_
    refine Z_aload_n C 0 d_R_sendDraft_26 rfl rfl ?_
    refine C_gR C w (by assumption) 0 (by decide) fl_R_9 rfl rfl d_R_sendDraft_27 ?_
    refine Z_aload_n C 0 d_R_sendDraft_30 rfl rfl ?_
    refine C_gR C w (by assumption) 2 (by decide) fl_R_21 rfl rfl d_R_sendDraft_31 ?_
    refine Z_bipush (v := 6) C d_R_sendDraft_34 (by decide) ?_
    refine C_ldG C w (by assumption) 6 (by decide) (by unfold vp_in; decide) d_R_sendDraft_36 ?_
    refine C_cWn C w mi_W_carryDraft ml_R_127 (c_W_carryDraft w _ _ _ _ _ (cnt M) s hc hc60 hD1 hPP hs hs16) rfl rfl (by decide) rfl (Nat.le_of_ble_eq_true rfl) d_R_sendDraft_37 ?_
    exact Z_vret C hN hr d_R_sendDraft_40 rfl (zeq (by unfold sdS; dsimp only; first | (rw [if_pos c19]; rfl) | rw [if_neg c19]))
set_option maxRecDepth 100000 in
set_option maxHeartbeats 4000000 in
theorem c_R_sendEmpty {l : Launch} {G : zG} {V : zV} (w : wC G V) (M : zM) (P : Nat → Nat) (D : Nat × Nat) (i : Nat) (hi : i < 5) (kind : Int32) (s : Nat) (to : Int32) (hs16 : s < 16) (hI : Inv M P D) : zF l y_R_sendEmpty b_R_sendEmpty 4 none 2 45 G [.ref (V.1 2 i 0), .int kind, .int (nI s), .int to] (eC V M P D) none (eC V (seS (M, P, D) i kind s to).1 (seS (M, P, D) i kind s to).2.1 (seS (M, P, D) i kind s to).2.2) := by
  refine zF.ofZ (by decide) w.2.2.2.2 (Nat.le_of_ble_eq_true rfl) (fun X hXl hN hr C => ?_)
  subst hXl
  show Z X G (zA G) 4 _ (eC V M P D) 0 [(0, .ref (V.1 2 i 0)), (1, .int kind), (2, .int (nI s)), (3, .int to)] []
  obtain ⟨hD1, hD2, hPP, hc, hc60⟩ := id hI
  refine Z_aload_n C 0 d_R_sendEmpty_0 rfl rfl ?_
  refine C_gR C w (by assumption) 1 (by decide) fl_R_15 rfl rfl d_R_sendEmpty_1 ?_
  refine Z_iload_n C 1 d_R_sendEmpty_4 rfl rfl ?_
  refine Z_iload_n C 2 d_R_sendEmpty_5 rfl rfl ?_
  refine Z_iload_n C 3 d_R_sendEmpty_6 rfl rfl ?_
  refine Z_aload_n C 0 d_R_sendEmpty_7 rfl rfl ?_
  refine C_gR C w (by assumption) 2 (by decide) fl_R_21 rfl rfl d_R_sendEmpty_8 ?_
  refine Z_iconst (v := 4) C d_R_sendEmpty_11 (by decide) ?_
  refine C_ldG C w (by assumption) 4 (by decide) (by unfold vp_in; decide) d_R_sendEmpty_12 ?_
  refine C_cWv C w mi_W_newDraft ml_R_81 (c_W_newDraft w _ _ _ (by assumption) _ _ _ _) rfl rfl (by decide) rfl (Nat.le_of_ble_eq_true rfl) d_R_sendEmpty_13 ?_
  refine Z_pop C d_R_sendEmpty_16 rfl ?_
  refine Z_aload_n C 0 d_R_sendEmpty_17 rfl rfl ?_
  refine C_cRn C w (by assumption) mi_R_sendDraft ml_R_101 (c_R_sendDraft w _ _ _ i hi s (hI.of rfl) wNew_3 hs16) rfl rfl (by decide) rfl (Nat.le_of_ble_eq_true rfl) d_R_sendEmpty_18 ?_
  exact Z_vret C hN hr d_R_sendEmpty_21 rfl (zeq (rfl))
set_option maxRecDepth 100000 in
set_option maxHeartbeats 4000000 in
theorem c_R_advertise {l : Launch} {G : zG} {V : zV} (w : wC G V) (M : zM) (P : Nat → Nat) (D : Nat × Nat) (i : Nat) (hi : i < 5) (pr : Int32) (hI : Inv M P D) : zF l y_R_advertise b_R_advertise 3 none 2 45 G [.ref (V.1 2 i 0), .int pr] (eC V M P D) none (eC V (adS (M, P, D) i pr).1 (adS (M, P, D) i pr).2.1 (adS (M, P, D) i pr).2.2) := by
  refine zF.ofZ (by decide) w.2.2.2.2 (Nat.le_of_ble_eq_true rfl) (fun X hXl hN hr C => ?_)
  subst hXl
  show Z X G (zA G) 3 _ (eC V M P D) 0 [(0, .ref (V.1 2 i 0)), (1, .int pr)] []
  obtain ⟨hD1, hD2, hPP, hc, hc60⟩ := id hI
  refine Z_aload_n C 0 d_R_advertise_0 rfl rfl ?_
  refine C_gR C w (by assumption) 1 (by decide) fl_R_15 rfl rfl d_R_advertise_1 ?_
  refine Z_iconst (v := 1) C d_R_advertise_4 (by decide) ?_
  refine Z_bipush (v := 9) C d_R_advertise_5 (by decide) ?_
  refine Z_bipush (v := 15) C d_R_advertise_7 (by decide) ?_
  refine Z_aload_n C 0 d_R_advertise_9 rfl rfl ?_
  refine C_gR C w (by assumption) 2 (by decide) fl_R_21 rfl rfl d_R_advertise_10 ?_
  refine Z_iconst (v := 4) C d_R_advertise_13 (by decide) ?_
  refine C_ldG C w (by assumption) 4 (by decide) (by unfold vp_in; decide) d_R_advertise_14 ?_
  refine C_cWv C w mi_W_newDraft ml_R_81 (c_W_newDraft w _ _ _ (by assumption) _ _ _ _) rfl rfl (by decide) rfl (Nat.le_of_ble_eq_true rfl) d_R_advertise_15 ?_
  refine Z_astore_n C d_R_advertise_18 rfl (by decide) rfl ?_
  refine Z_aload_n C 0 d_R_advertise_19 rfl rfl ?_
  refine Z_bipush (v := 49) C d_R_advertise_20 (by decide) ?_
  refine C_cFn C w (by assumption) mi_F_put ml_R_87 (c_F_put w _ _ _ _ (by assumption) _) rfl rfl (by decide) rfl (Nat.le_of_ble_eq_true rfl) d_R_advertise_22 ?_
  refine Z_aload_n C 0 d_R_advertise_25 rfl rfl ?_
  refine Z_aload_n C 1 d_R_advertise_26 rfl rfl ?_
  refine C_gR C w (by assumption) 2 (by decide) fl_R_21 rfl rfl d_R_advertise_27 ?_
  refine Z_iconst (v := 3) C d_R_advertise_30 (by decide) ?_
  refine C_ldG C w (by assumption) 3 (by decide) (by unfold vp_in; decide) d_R_advertise_31 ?_
  refine C_cFn C w (by assumption) mi_F_put ml_R_87 (c_F_put w _ _ _ _ (by assumption) _) rfl rfl (by decide) rfl (Nat.le_of_ble_eq_true rfl) d_R_advertise_32 ?_
  refine Z_aload_n C 0 d_R_advertise_35 rfl rfl ?_
  refine Z_iload_n C 2 d_R_advertise_36 rfl rfl ?_
  refine C_cFn C w (by assumption) mi_F_put ml_R_87 (c_F_put w _ _ _ _ (by assumption) _) rfl rfl (by decide) rfl (Nat.le_of_ble_eq_true rfl) d_R_advertise_37 ?_
  refine Z_aload_n C 0 d_R_advertise_40 rfl rfl ?_
  refine Z_iconst (v := 1) C d_R_advertise_41 (by decide) ?_
  refine C_cFn C w (by assumption) mi_F_put ml_R_87 (c_F_put w _ _ _ _ (by assumption) _) rfl rfl (by decide) rfl (Nat.le_of_ble_eq_true rfl) d_R_advertise_42 ?_
  refine Z_aload_n C 0 d_R_advertise_45 rfl rfl ?_
  refine Z_aload_n C 1 d_R_advertise_46 rfl rfl ?_
  refine C_gR C w (by assumption) 2 (by decide) fl_R_21 rfl rfl d_R_advertise_47 ?_
  refine Z_iconst (v := 1) C d_R_advertise_50 (by decide) ?_
  refine C_ldG C w (by assumption) 1 (by decide) (by unfold vp_in; decide) d_R_advertise_51 ?_
  refine C_cFn C w (by assumption) mi_F_putTwo ml_R_92 (c_F_putTwo w _ _ _ _ (by assumption) _) rfl rfl (by decide) rfl (Nat.le_of_ble_eq_true rfl) d_R_advertise_52 ?_
  refine Z_aload_n C 0 d_R_advertise_55 rfl rfl ?_
  refine Z_iconst (v := 0) C d_R_advertise_56 (by decide) ?_
  refine C_cFn C w (by assumption) mi_F_putTwo ml_R_92 (c_F_putTwo w _ _ _ _ (by assumption) _) rfl rfl (by decide) rfl (Nat.le_of_ble_eq_true rfl) d_R_advertise_57 ?_
  refine Z_aload_n C 0 d_R_advertise_60 rfl rfl ?_
  refine Z_aload_n C 1 d_R_advertise_61 rfl rfl ?_
  refine C_gR C w (by assumption) 2 (by decide) fl_R_21 rfl rfl d_R_advertise_62 ?_
  refine Z_iconst (v := 5) C d_R_advertise_65 (by decide) ?_
  refine C_ldG C w (by assumption) 5 (by decide) (by unfold vp_in; decide) d_R_advertise_66 ?_
  refine C_cFn C w (by assumption) mi_F_putFour ml_R_95 (c_F_putFour w _ _ _ _ (by assumption) _) rfl rfl (by decide) rfl (Nat.le_of_ble_eq_true rfl) d_R_advertise_67 ?_
  refine Z_aload_n C 0 d_R_advertise_70 rfl rfl ?_
  refine Z_bipush (v := 6) C d_R_advertise_71 (by decide) ?_
  refine C_cFn C w (by assumption) mi_F_putCheckAt ml_R_98 (c_F_putCheckAt w _ _ _ _ (by assumption) _ (by decide)) rfl rfl (by decide) rfl (Nat.le_of_ble_eq_true rfl) d_R_advertise_73 ?_
  refine Z_aload_n C 1 d_R_advertise_76 rfl rfl ?_
  refine C_cRn C w (by assumption) mi_R_sendDraft ml_R_101 (c_R_sendDraft w (ad4 M D.1 i pr) _ _ i hi 9 (inv_ad4 hI) ad4_3 (by decide)) rfl rfl (by decide) rfl (Nat.le_of_ble_eq_true rfl) d_R_advertise_77 ?_
  exact Z_vret C hN hr d_R_advertise_80 rfl (zeq (rfl))
set_option maxRecDepth 100000 in
set_option maxHeartbeats 4000000 in
theorem c_R_sendPacket {l : Launch} {G : zG} {V : zV} (w : wC G V) (M : zM) (P : Nat → Nat) (D : Nat × Nat) (i j : Nat) (hi : i < 5) (hj : j < 5) (flag : Int32) (hI : Inv M P D) : zF l y_R_sendPacket b_R_sendPacket 4 none 2 45 G [.ref (V.1 2 i 0), .ref (V.1 5 i j), .int flag] (eC V M P D) none (eC V (pkS (M, P, D) i j flag).1 (pkS (M, P, D) i j flag).2.1 (pkS (M, P, D) i j flag).2.2) := by
  refine zF.ofZ (by decide) w.2.2.2.2 (Nat.le_of_ble_eq_true rfl) (fun X hXl hN hr C => ?_)
  subst hXl
  show Z X G (zA G) 4 _ (eC V M P D) 0 [(0, .ref (V.1 2 i 0)), (1, .ref (V.1 5 i j)), (2, .int flag)] []
  obtain ⟨hD1, hD2, hPP, hc, hc60⟩ := id hI
  refine Z_aload_n C 0 d_R_sendPacket_0 rfl rfl ?_
  refine C_gR C w (by assumption) 1 (by decide) fl_R_15 rfl rfl d_R_sendPacket_1 ?_
  refine Z_iconst (v := 2) C d_R_sendPacket_4 (by decide) ?_
  refine Z_aload_n C 0 d_R_sendPacket_5 rfl rfl ?_
  refine C_gR C w (by assumption) 0 (by decide) fl_R_9 rfl rfl d_R_sendPacket_6 ?_
  refine Z_aload_n C 1 d_R_sendPacket_9 rfl rfl ?_
  refine C_gS C w (by assumption) (by assumption) 1 (by decide) fl_R_104 rfl rfl d_R_sendPacket_10 ?_
  refine Z_aload_n C 0 d_R_sendPacket_13 rfl rfl ?_
  refine C_gR C w (by assumption) 2 (by decide) fl_R_21 rfl rfl d_R_sendPacket_14 ?_
  refine Z_iconst (v := 4) C d_R_sendPacket_17 (by decide) ?_
  refine C_ldG C w (by assumption) 4 (by decide) (by unfold vp_in; decide) d_R_sendPacket_18 ?_
  refine C_cWv C w mi_W_newDraft ml_R_81 (c_W_newDraft w _ _ _ (by assumption) _ _ _ _) rfl rfl (by decide) rfl (Nat.le_of_ble_eq_true rfl) d_R_sendPacket_19 ?_
  refine Z_astore_n C d_R_sendPacket_22 rfl (by decide) rfl ?_
  refine Z_aload_n C 0 d_R_sendPacket_23 rfl rfl ?_
  refine Z_bipush (v := 32) C d_R_sendPacket_24 (by decide) ?_
  refine Z_aload_n C 2 d_R_sendPacket_26 rfl rfl ?_
  refine C_gS C w (by assumption) (by assumption) 6 (by decide) fl_R_107 rfl rfl d_R_sendPacket_27 ?_
  refine Z_iadd C d_R_sendPacket_30 ?_
  refine C_cFn C w (by assumption) mi_F_put ml_R_87 (c_F_put w _ _ _ _ (by assumption) _) rfl rfl (by decide) rfl (Nat.le_of_ble_eq_true rfl) d_R_sendPacket_31 ?_
  refine Z_aload_n C 0 d_R_sendPacket_34 rfl rfl ?_
  refine Z_bipush (v := 64) C d_R_sendPacket_35 (by decide) ?_
  refine Z_aload_n C 2 d_R_sendPacket_37 rfl rfl ?_
  refine C_gS C w (by assumption) (by assumption) 3 (by decide) fl_R_73 rfl rfl d_R_sendPacket_38 ?_
  refine Z_imul C d_R_sendPacket_41 ?_
  refine Z_iload_n C 3 d_R_sendPacket_42 rfl rfl ?_
  refine Z_iadd C d_R_sendPacket_43 ?_
  refine C_cFn C w (by assumption) mi_F_put ml_R_87 (c_F_put w _ _ _ _ (by assumption) _) rfl rfl (by decide) rfl (Nat.le_of_ble_eq_true rfl) d_R_sendPacket_44 ?_
  refine Z_aload_n C 0 d_R_sendPacket_47 rfl rfl ?_
  refine Z_aload_n C 2 d_R_sendPacket_48 rfl rfl ?_
  refine C_gS C w (by assumption) (by assumption) 9 (by decide) fl_R_110 rfl rfl d_R_sendPacket_49 ?_
  refine C_cFn C w (by assumption) mi_F_put ml_R_87 (c_F_put w _ _ _ _ (by assumption) _) rfl rfl (by decide) rfl (Nat.le_of_ble_eq_true rfl) d_R_sendPacket_52 ?_
  refine Z_aload_n C 0 d_R_sendPacket_55 rfl rfl ?_
  refine Z_bipush (v := 24) C d_R_sendPacket_56 (by decide) ?_
  refine C_cFn C w (by assumption) mi_F_put ml_R_87 (c_F_put w _ _ _ _ (by assumption) _) rfl rfl (by decide) rfl (Nat.le_of_ble_eq_true rfl) d_R_sendPacket_58 ?_
  refine Z_aload_n C 0 d_R_sendPacket_61 rfl rfl ?_
  refine Z_aload_n C 2 d_R_sendPacket_62 rfl rfl ?_
  refine C_gS C w (by assumption) (by assumption) 0 (by decide) fl_R_113 rfl rfl d_R_sendPacket_63 ?_
  refine C_cFn C w (by assumption) mi_F_putFour ml_R_95 (c_F_putFour w _ _ _ _ (by assumption) _) rfl rfl (by decide) rfl (Nat.le_of_ble_eq_true rfl) d_R_sendPacket_66 ?_
  refine Z_aload_n C 0 d_R_sendPacket_69 rfl rfl ?_
  refine Z_aload_n C 2 d_R_sendPacket_70 rfl rfl ?_
  refine C_gS C w (by assumption) (by assumption) 5 (by decide) fl_R_114 rfl rfl d_R_sendPacket_71 ?_
  refine C_cFn C w (by assumption) mi_F_putFour ml_R_95 (c_F_putFour w _ _ _ _ (by assumption) _) rfl rfl (by decide) rfl (Nat.le_of_ble_eq_true rfl) d_R_sendPacket_74 ?_
  refine Z_aload_n C 0 d_R_sendPacket_77 rfl rfl ?_
  refine Z_aload_n C 2 d_R_sendPacket_78 rfl rfl ?_
  refine Z_aload_n C 2 d_R_sendPacket_79 rfl rfl ?_
  refine C_gS C w (by assumption) (by assumption) 7 (by decide) fl_R_117 rfl rfl d_R_sendPacket_80 ?_
  refine C_cSv C w (by assumption) (by assumption) mi_S_slowed ml_R_120 (c_S_slowed w _ _ _ _ _ (by assumption) (by assumption) _) rfl rfl (by decide) rfl (Nat.le_of_ble_eq_true rfl) d_R_sendPacket_83 ?_
  refine C_cFn C w (by assumption) mi_F_putFour ml_R_95 (c_F_putFour w _ _ _ _ (by assumption) _) rfl rfl (by decide) rfl (Nat.le_of_ble_eq_true rfl) d_R_sendPacket_86 ?_
  refine Z_aload_n C 0 d_R_sendPacket_89 rfl rfl ?_
  refine Z_aload_n C 2 d_R_sendPacket_90 rfl rfl ?_
  refine C_gS C w (by assumption) (by assumption) 8 (by decide) fl_R_124 rfl rfl d_R_sendPacket_91 ?_
  refine C_cFn C w (by assumption) mi_F_putFour ml_R_95 (c_F_putFour w _ _ _ _ (by assumption) _) rfl rfl (by decide) rfl (Nat.le_of_ble_eq_true rfl) d_R_sendPacket_94 ?_
  refine Z_aload_n C 0 d_R_sendPacket_97 rfl rfl ?_
  refine Z_iconst (v := 0) C d_R_sendPacket_98 (by decide) ?_
  refine C_cFn C w (by assumption) mi_F_putFour ml_R_95 (c_F_putFour w _ _ _ _ (by assumption) _) rfl rfl (by decide) rfl (Nat.le_of_ble_eq_true rfl) d_R_sendPacket_99 ?_
  refine Z_aload_n C 1 d_R_sendPacket_102 rfl rfl ?_
  refine C_cRn C w (by assumption) mi_R_sendDraft ml_R_101 (c_R_sendDraft w (pk7 M D.1 i j flag) _ _ i hi i (inv_pk7 hI) pk7_3 (by omega)) rfl rfl (by decide) rfl (Nat.le_of_ble_eq_true rfl) d_R_sendPacket_103 ?_
  exact Z_vret C hN hr d_R_sendPacket_106 rfl (zeq (rfl))
set_option maxRecDepth 100000 in
set_option maxHeartbeats 4000000 in
theorem c_R_becomeActive {l : Launch} {G : zG} {V : zV} (w : wC G V) (M : zM) (P : Nat → Nat) (D : Nat × Nat) (i : Nat) (hi : i < 5) (hI : Inv M P D) : zF l y_R_becomeActive b_R_becomeActive 1 none 3 68 G [.ref (V.1 2 i 0)] (eC V M P D) none (eC V (acS (M, P, D) i).1 (acS (M, P, D) i).2.1 (acS (M, P, D) i).2.2) := by
  refine zF.ofZ (by decide) w.2.2.2.2 (Nat.le_of_ble_eq_true rfl) (fun X hXl hN hr C => ?_)
  subst hXl
  show Z X G (zA G) 1 _ (eC V M P D) 0 [(0, .ref (V.1 2 i 0))] []
  refine Z_aload_n C 0 d_R_becomeActive_0 rfl rfl ?_
  refine Z_aload_n C 0 d_R_becomeActive_1 rfl rfl ?_
  refine C_cRv C w (by assumption) mi_R_weighed ml_R_40 (c_R_weighed w _ _ _ _ (by assumption)) rfl rfl (by decide) rfl (Nat.le_of_ble_eq_true rfl) d_R_becomeActive_2 ?_
  refine C_cRn C w (by assumption) mi_R_advertise ml_R_65 (c_R_advertise w _ _ _ _ (by assumption) _ (by assumption)) rfl rfl (by decide) rfl (Nat.le_of_ble_eq_true rfl) d_R_becomeActive_5 ?_
  refine Z_aload_n C 0 d_R_becomeActive_8 rfl rfl ?_
  refine Z_iconst (v := 3) C d_R_becomeActive_9 (by decide) ?_
  refine Z_bipush (v := 9) C d_R_becomeActive_10 (by decide) ?_
  refine Z_bipush (v := 15) C d_R_becomeActive_12 (by decide) ?_
  refine C_cRn C w (by assumption) mi_R_sendEmpty ml_R_74 (c_R_sendEmpty w _ _ _ i hi 3 9 15 (by decide) (Inv.ad (σ := (M, P, D)) hI)) rfl rfl (by decide) rfl (Nat.le_of_ble_eq_true rfl) d_R_becomeActive_14 ?_
  refine Z_aload_n C 0 d_R_becomeActive_17 rfl rfl ?_
  refine Z_aload_n C 0 d_R_becomeActive_18 rfl rfl ?_
  refine C_gR C w (by assumption) 2 (by decide) fl_R_21 rfl rfl d_R_becomeActive_19 ?_
  refine Z_iconst (v := 1) C d_R_becomeActive_22 (by decide) ?_
  refine C_ldG C w (by assumption) 1 (by decide) (by unfold vp_in; decide) d_R_becomeActive_23 ?_
  refine C_pR C w (by assumption) 5 (by decide) fl_R_37 rfl rfl rfl rfl rfl d_R_becomeActive_24 ?_
  refine Z_aload_n C 0 d_R_becomeActive_27 rfl rfl ?_
  refine Z_iconst (v := 2) C d_R_becomeActive_28 (by decide) ?_
  refine C_pR C w (by assumption) 4 (by decide) fl_R_34 rfl rfl rfl rfl rfl d_R_becomeActive_29 ?_
  refine Z_aload_n C 0 d_R_becomeActive_32 rfl rfl ?_
  refine Z_dup C d_R_becomeActive_33 rfl ?_
  refine C_gR C w (by assumption) 7 (by decide) fl_R_47 rfl rfl d_R_becomeActive_34 ?_
  refine Z_iconst (v := 1) C d_R_becomeActive_37 (by decide) ?_
  refine Z_iadd C d_R_becomeActive_38 ?_
  refine C_pR C w (by assumption) 7 (by decide) fl_R_47 rfl rfl rfl rfl rfl d_R_becomeActive_39 ?_
  exact Z_vret C hN hr d_R_becomeActive_42 rfl (zeq (rfl))
set_option maxRecDepth 100000 in
set_option maxHeartbeats 4000000 in
theorem c_R_wake {l : Launch} {G : zG} {V : zV} (w : wC G V) (M : zM) (P : Nat → Nat) (D : Nat × Nat) (i : Nat) (hi : i < 5) (hI : Inv M P D) : zF l y_R_wake b_R_wake 1 none 4 88 G [.ref (V.1 2 i 0)] (eC V M P D) none (eC V (wkS (M, P, D) i).1 (wkS (M, P, D) i).2.1 (wkS (M, P, D) i).2.2) := by
  refine zF.ofZ (by decide) w.2.2.2.2 (Nat.le_of_ble_eq_true rfl) (fun X hXl hN hr C => ?_)
  subst hXl
  show Z X G (zA G) 1 _ (eC V M P D) 0 [(0, .ref (V.1 2 i 0))] []
  refine Z_aload_n C 0 d_R_wake_0 rfl rfl ?_
  refine Z_aload_n C 0 d_R_wake_1 rfl rfl ?_
  refine C_gR C w (by assumption) 2 (by decide) fl_R_21 rfl rfl d_R_wake_2 ?_
  refine Z_iconst (v := 1) C d_R_wake_5 (by decide) ?_
  refine C_ldG C w (by assumption) 1 (by decide) (by unfold vp_in; decide) d_R_wake_6 ?_
  refine C_pR C w (by assumption) 6 (by decide) fl_R_44 rfl rfl rfl rfl rfl d_R_wake_7 ?_
  refine Z_aload_n C 0 d_R_wake_10 rfl rfl ?_
  refine C_cRv C w (by assumption) mi_R_weighed ml_R_40 (c_R_weighed w _ _ _ _ (by assumption)) rfl rfl (by decide) rfl (Nat.le_of_ble_eq_true rfl) d_R_wake_11 ?_
  refine Z_sipush (v := 255) C d_R_wake_14 (by decide) ?_
  refine Z_icmp_ne (tgt := 27) C d_R_wake_17 (by decide) (fun c17 => ?_) (fun c17 => ?_)
  · skip
    refine Z_aload_n C 0 d_R_wake_27 rfl rfl ?_
    refine C_cRn C w (by assumption) mi_R_becomeBackup ml_R_62 (c_R_becomeBackup w _ _ _ _ (by assumption)) rfl rfl (by decide) rfl (Nat.le_of_ble_eq_true rfl) d_R_wake_28 ?_
    exact Z_vret C hN hr d_R_wake_31 rfl (zeq (by unfold wkS; first | rw [if_pos c17] | rw [if_neg c17]))
  · skip
    refine Z_aload_n C 0 d_R_wake_20 rfl rfl ?_
    refine C_cRn C w (by assumption) mi_R_becomeActive ml_R_59 (c_R_becomeActive w _ _ _ i hi (hI.of rfl)) rfl rfl (by decide) rfl (Nat.le_of_ble_eq_true rfl) d_R_wake_21 ?_
    refine Z_goto (tgt := 31) C d_R_wake_24 (by decide) ?_
    exact Z_vret C hN hr d_R_wake_31 rfl (zeq (by unfold wkS; first | rw [if_pos c17] | rw [if_neg c17]))
set_option maxRecDepth 100000 in
set_option maxHeartbeats 4000000 in
theorem c_R_sayGoodbye {l : Launch} {G : zG} {V : zV} (w : wC G V) (M : zM) (P : Nat → Nat) (D : Nat × Nat) (i : Nat) (hi : i < 5) (hI : Inv M P D) : zF l y_R_sayGoodbye b_R_sayGoodbye 1 none 3 67 G [.ref (V.1 2 i 0)] (eC V M P D) none (eC V (gbS (M, P, D) i).1 (gbS (M, P, D) i).2.1 (gbS (M, P, D) i).2.2) := by
  refine zF.ofZ (by decide) w.2.2.2.2 (Nat.le_of_ble_eq_true rfl) (fun X hXl hN hr C => ?_)
  subst hXl
  show Z X G (zA G) 1 _ (eC V M P D) 0 [(0, .ref (V.1 2 i 0))] []
  refine Z_aload_n C 0 d_R_sayGoodbye_0 rfl rfl ?_
  refine C_gR C w (by assumption) 4 (by decide) fl_R_34 rfl rfl d_R_sayGoodbye_1 ?_
  refine Z_iconst (v := 2) C d_R_sayGoodbye_4 (by decide) ?_
  refine Z_icmp_ne (tgt := 13) C d_R_sayGoodbye_5 (by decide) (fun c5 => ?_) (fun c5 => ?_)
  · skip
    exact Z_vret C hN hr d_R_sayGoodbye_13 rfl (zeq (by unfold gbS; first | rw [if_pos c5] | rw [if_neg c5]))
  · skip
    refine Z_aload_n C 0 d_R_sayGoodbye_8 rfl rfl ?_
    refine Z_iconst (v := 0) C d_R_sayGoodbye_9 (by decide) ?_
    refine C_cRn C w (by assumption) mi_R_advertise ml_R_65 (c_R_advertise w _ _ _ _ (by assumption) _ (by assumption)) rfl rfl (by decide) rfl (Nat.le_of_ble_eq_true rfl) d_R_sayGoodbye_10 ?_
    exact Z_vret C hN hr d_R_sayGoodbye_13 rfl (zeq (by unfold gbS; first | rw [if_pos c5] | rw [if_neg c5]))
set_option maxRecDepth 100000 in
set_option maxHeartbeats 4000000 in
theorem c_R_hearAsBackup {l : Launch} {G : zG} {V : zV} (w : wC G V) (M : zM) (P : Nat → Nat) (D : Nat × Nat) (i : Nat) (hi : i < 5) (k : Nat) (hk : k < 63) : zF l y_R_hearAsBackup b_R_hearAsBackup 3 none 3 62 G [.ref (V.1 2 i 0), .ref (V.1 9 k 0)] (eC V M P D) none (eC V (hbM M i k) P D) := by
  refine zF.ofZ (by decide) w.2.2.2.2 (Nat.le_of_ble_eq_true rfl) (fun X hXl hN hr C => ?_)
  subst hXl
  show Z X G (zA G) 3 _ (eC V M P D) 0 [(0, .ref (V.1 2 i 0)), (1, .ref (V.1 9 k 0))] []
  refine Z_aload_n C 1 d_R_hearAsBackup_0 rfl rfl ?_
  refine Z_iconst (v := 2) C d_R_hearAsBackup_1 (by decide) ?_
  refine C_cFv C w (by assumption) mi_F_byteAt ml_R_162 (c_F_byteAt w _ _ _ _ (by assumption) _) rfl rfl (by decide) rfl (Nat.le_of_ble_eq_true rfl) d_R_hearAsBackup_2 ?_
  refine Z_istore_n C d_R_hearAsBackup_5 rfl (by decide) rfl ?_
  refine Z_iload_n C 0 d_R_hearAsBackup_6 rfl rfl ?_
  refine Z_if_ne (tgt := 25) C d_R_hearAsBackup_7 (by decide) (fun c7 => ?_) (fun c7 => ?_)
  · skip
    refine Z_aload_n C 1 d_R_hearAsBackup_25 rfl rfl ?_
    refine C_gR C w (by assumption) 2 (by decide) fl_R_21 rfl rfl d_R_hearAsBackup_26 ?_
    refine Z_iconst (v := 2) C d_R_hearAsBackup_29 (by decide) ?_
    refine C_ldG C w (by assumption) 2 (by decide) (by unfold vp_in; decide) d_R_hearAsBackup_30 ?_
    refine Z_if_eq (tgt := 42) C d_R_hearAsBackup_31 (by decide) (fun c31 => ?_) (fun c31 => ?_)
    · skip
      refine Z_aload_n C 1 d_R_hearAsBackup_42 rfl rfl ?_
      refine Z_aload_n C 2 d_R_hearAsBackup_43 rfl rfl ?_
      refine C_csv C ms_R_intervalIn ml_R_178 (c_R_intervalIn w _ _ _ _ (by assumption)) rfl (by decide) rfl (Nat.le_of_ble_eq_true rfl) d_R_hearAsBackup_44 ?_
      refine C_pR C w (by assumption) 6 (by decide) fl_R_44 rfl rfl rfl rfl rfl d_R_hearAsBackup_47 ?_
      refine Z_aload_n C 1 d_R_hearAsBackup_50 rfl rfl ?_
      refine C_cRn C w (by assumption) mi_R_becomeBackup ml_R_62 (c_R_becomeBackup w _ _ _ _ (by assumption)) rfl rfl (by decide) rfl (Nat.le_of_ble_eq_true rfl) d_R_hearAsBackup_51 ?_
      exact Z_vret C hN hr d_R_hearAsBackup_54 rfl (zeq (by apply eC_M; unfold hbM; first | (rw [if_pos c7]; rfl) | (rw [if_neg c7, if_pos c31]) | (rw [if_neg c7, if_neg c31, if_pos c39]) | (rw [if_neg c7, if_neg c31, if_neg c39])))
    · skip
      refine Z_iload_n C 0 d_R_hearAsBackup_34 rfl rfl ?_
      refine Z_aload_n C 1 d_R_hearAsBackup_35 rfl rfl ?_
      refine C_cRv C w (by assumption) mi_R_weighed ml_R_40 (c_R_weighed w _ _ _ _ (by assumption)) rfl rfl (by decide) rfl (Nat.le_of_ble_eq_true rfl) d_R_hearAsBackup_36 ?_
      refine Z_icmp_lt (tgt := 54) C d_R_hearAsBackup_39 (by decide) (fun c39 => ?_) (fun c39 => ?_)
      · skip
        exact Z_vret C hN hr d_R_hearAsBackup_54 rfl (zeq (by apply eC_M; unfold hbM; first | (rw [if_pos c7]; rfl) | (rw [if_neg c7, if_pos c31]) | (rw [if_neg c7, if_neg c31, if_pos c39]) | (rw [if_neg c7, if_neg c31, if_neg c39])))
      · skip
        refine Z_aload_n C 1 d_R_hearAsBackup_42 rfl rfl ?_
        refine Z_aload_n C 2 d_R_hearAsBackup_43 rfl rfl ?_
        refine C_csv C ms_R_intervalIn ml_R_178 (c_R_intervalIn w _ _ _ _ (by assumption)) rfl (by decide) rfl (Nat.le_of_ble_eq_true rfl) d_R_hearAsBackup_44 ?_
        refine C_pR C w (by assumption) 6 (by decide) fl_R_44 rfl rfl rfl rfl rfl d_R_hearAsBackup_47 ?_
        refine Z_aload_n C 1 d_R_hearAsBackup_50 rfl rfl ?_
        refine C_cRn C w (by assumption) mi_R_becomeBackup ml_R_62 (c_R_becomeBackup w _ _ _ _ (by assumption)) rfl rfl (by decide) rfl (Nat.le_of_ble_eq_true rfl) d_R_hearAsBackup_51 ?_
        exact Z_vret C hN hr d_R_hearAsBackup_54 rfl (zeq (by apply eC_M; unfold hbM; first | (rw [if_pos c7]; rfl) | (rw [if_neg c7, if_pos c31]) | (rw [if_neg c7, if_neg c31, if_pos c39]) | (rw [if_neg c7, if_neg c31, if_neg c39])))
  · skip
    refine Z_aload_n C 1 d_R_hearAsBackup_10 rfl rfl ?_
    refine Z_iconst (v := 1) C d_R_hearAsBackup_11 (by decide) ?_
    refine Z_aload_n C 1 d_R_hearAsBackup_12 rfl rfl ?_
    refine C_cRv C w (by assumption) mi_R_skew ml_R_78 (c_R_skew w _ _ _ _ (by assumption)) rfl rfl (by decide) rfl (Nat.le_of_ble_eq_true rfl) d_R_hearAsBackup_13 ?_
    refine Z_mmax C ml_R_172 mx_s ma_i mx_c ⟨Nat.le_of_ble_eq_true rfl, Nat.le_of_ble_eq_true rfl⟩ d_R_hearAsBackup_16 ?_
    refine C_pR C w (by assumption) 5 (by decide) fl_R_37 rfl rfl rfl rfl rfl d_R_hearAsBackup_19 ?_
    refine Z_goto (tgt := 54) C d_R_hearAsBackup_22 (by decide) ?_
    exact Z_vret C hN hr d_R_hearAsBackup_54 rfl (zeq (by apply eC_M; unfold hbM; first | (rw [if_pos c7]; rfl) | (rw [if_neg c7, if_pos c31]) | (rw [if_neg c7, if_neg c31, if_pos c39]) | (rw [if_neg c7, if_neg c31, if_neg c39])))
set_option maxRecDepth 100000 in
set_option maxHeartbeats 4000000 in
theorem c_R_hearAsActive {l : Launch} {G : zG} {V : zV} (w : wC G V) (M : zM) (P : Nat → Nat) (D : Nat × Nat) (i : Nat) (hi : i < 5) (k : Nat) (hk : k < 63) (hI : Inv M P D) : zF l y_R_hearAsActive b_R_hearAsActive 4 none 3 67 G [.ref (V.1 2 i 0), .ref (V.1 9 k 0)] (eC V M P D) none (eC V (haS (M, P, D) i k).1 (haS (M, P, D) i k).2.1 (haS (M, P, D) i k).2.2) := by
  refine zF.ofZ (by decide) w.2.2.2.2 (Nat.le_of_ble_eq_true rfl) (fun X hXl hN hr C => ?_)
  subst hXl
  show Z X G (zA G) 4 _ (eC V M P D) 0 [(0, .ref (V.1 2 i 0)), (1, .ref (V.1 9 k 0))] []
  refine Z_aload_n C 1 d_R_hearAsActive_0 rfl rfl ?_
  refine Z_iconst (v := 2) C d_R_hearAsActive_1 (by decide) ?_
  refine C_cFv C w (by assumption) mi_F_byteAt ml_R_162 (c_F_byteAt w _ _ _ _ (by assumption) _) rfl rfl (by decide) rfl (Nat.le_of_ble_eq_true rfl) d_R_hearAsActive_2 ?_
  refine Z_istore_n C d_R_hearAsActive_5 rfl (by decide) rfl ?_
  refine Z_aload_n C 1 d_R_hearAsActive_6 rfl rfl ?_
  refine C_cRv C w (by assumption) mi_R_weighed ml_R_40 (c_R_weighed w _ _ _ _ (by assumption)) rfl rfl (by decide) rfl (Nat.le_of_ble_eq_true rfl) d_R_hearAsActive_7 ?_
  refine Z_istore_n C d_R_hearAsActive_10 rfl (by decide) rfl ?_
  refine Z_iload_n C 1 d_R_hearAsActive_11 rfl rfl ?_
  refine Z_if_ne (tgt := 33) C d_R_hearAsActive_12 (by decide) (fun c12 => ?_) (fun c12 => ?_)
  · skip
    refine Z_iload_n C 1 d_R_hearAsActive_33 rfl rfl ?_
    refine Z_iload_n C 0 d_R_hearAsActive_34 rfl rfl ?_
    refine Z_icmp_gt (tgt := 59) C d_R_hearAsActive_35 (by decide) (fun c35 => ?_) (fun c35 => ?_)
    · skip
      refine Z_aload_n C 2 d_R_hearAsActive_59 rfl rfl ?_
      refine Z_aload_n C 3 d_R_hearAsActive_60 rfl rfl ?_
      refine C_csv C ms_R_intervalIn ml_R_178 (c_R_intervalIn w _ _ _ _ (by assumption)) rfl (by decide) rfl (Nat.le_of_ble_eq_true rfl) d_R_hearAsActive_61 ?_
      refine C_pR C w (by assumption) 6 (by decide) fl_R_44 rfl rfl rfl rfl rfl d_R_hearAsActive_64 ?_
      refine Z_aload_n C 2 d_R_hearAsActive_67 rfl rfl ?_
      refine C_cRn C w (by assumption) mi_R_becomeBackup ml_R_62 (c_R_becomeBackup w _ _ _ _ (by assumption)) rfl rfl (by decide) rfl (Nat.le_of_ble_eq_true rfl) d_R_hearAsActive_68 ?_
      refine Z_goto (tgt := 79) C d_R_hearAsActive_71 (by decide) ?_
      exact Z_vret C hN hr d_R_hearAsActive_79 rfl (zeq (by unfold haS; first | (rw [if_pos c12]; done) | (rw [if_neg c12, if_pos (by simp [haB, ← Int32.not_le, c12, c35])]; done) | (rw [if_neg c12, if_neg (by simp [haB, ← Int32.not_le, c12, c35])])))
    · skip
      refine Z_iload_n C 1 d_R_hearAsActive_38 rfl rfl ?_
      refine Z_iload_n C 0 d_R_hearAsActive_39 rfl rfl ?_
      refine Z_icmp_ne (tgt := 74) C d_R_hearAsActive_40 (by decide) (fun c40 => ?_) (fun c40 => ?_)
      · skip
        refine Z_aload_n C 2 d_R_hearAsActive_74 rfl rfl ?_
        refine Z_iload_n C 0 d_R_hearAsActive_75 rfl rfl ?_
        refine C_cRn C w (by assumption) mi_R_advertise ml_R_65 (c_R_advertise w _ _ _ _ (by assumption) _ (by assumption)) rfl rfl (by decide) rfl (Nat.le_of_ble_eq_true rfl) d_R_hearAsActive_76 ?_
        exact Z_vret C hN hr d_R_hearAsActive_79 rfl (zeq (by unfold haS; first | (rw [if_pos c12]; done) | (rw [if_neg c12, if_pos (by simp [haB, ← Int32.not_le, c12, c35, c40])]; done) | (rw [if_neg c12, if_neg (by simp [haB, ← Int32.not_le, c12, c35, c40])])))
      · skip
        refine Z_aload_n C 3 d_R_hearAsActive_43 rfl rfl ?_
        refine C_gF C w (by assumption) 5 (by decide) fl_R_153 rfl rfl d_R_hearAsActive_44 ?_
        refine Z_aload_n C 2 d_R_hearAsActive_47 rfl rfl ?_
        refine C_gR C w (by assumption) 2 (by decide) fl_R_21 rfl rfl d_R_hearAsActive_48 ?_
        refine Z_iconst (v := 4) C d_R_hearAsActive_51 (by decide) ?_
        refine C_ldG C w (by assumption) 4 (by decide) (by unfold vp_in; decide) d_R_hearAsActive_52 ?_
        refine C_csv C ms_R_isAbove ml_R_182 (c_R_isAbove w _ _ _ _ _) rfl (by decide) rfl (Nat.le_of_ble_eq_true rfl) d_R_hearAsActive_53 ?_
        refine Z_if_eq (tgt := 74) C d_R_hearAsActive_56 (by decide) (fun c56 => ?_) (fun c56 => ?_)
        · skip
          refine Z_aload_n C 2 d_R_hearAsActive_74 rfl rfl ?_
          refine Z_iload_n C 0 d_R_hearAsActive_75 rfl rfl ?_
          refine C_cRn C w (by assumption) mi_R_advertise ml_R_65 (c_R_advertise w _ _ _ _ (by assumption) _ (by assumption)) rfl rfl (by decide) rfl (Nat.le_of_ble_eq_true rfl) d_R_hearAsActive_76 ?_
          exact Z_vret C hN hr d_R_hearAsActive_79 rfl (zeq (by unfold haS; first | (rw [if_pos c12]; done) | (rw [if_neg c12, if_pos (by simp [haB, ← Int32.not_le, c12, c35, c40, c56])]; done) | (rw [if_neg c12, if_neg (by simp [haB, ← Int32.not_le, c12, c35, c40, c56])])))
        · skip
          refine Z_aload_n C 2 d_R_hearAsActive_59 rfl rfl ?_
          refine Z_aload_n C 3 d_R_hearAsActive_60 rfl rfl ?_
          refine C_csv C ms_R_intervalIn ml_R_178 (c_R_intervalIn w _ _ _ _ (by assumption)) rfl (by decide) rfl (Nat.le_of_ble_eq_true rfl) d_R_hearAsActive_61 ?_
          refine C_pR C w (by assumption) 6 (by decide) fl_R_44 rfl rfl rfl rfl rfl d_R_hearAsActive_64 ?_
          refine Z_aload_n C 2 d_R_hearAsActive_67 rfl rfl ?_
          refine C_cRn C w (by assumption) mi_R_becomeBackup ml_R_62 (c_R_becomeBackup w _ _ _ _ (by assumption)) rfl rfl (by decide) rfl (Nat.le_of_ble_eq_true rfl) d_R_hearAsActive_68 ?_
          refine Z_goto (tgt := 79) C d_R_hearAsActive_71 (by decide) ?_
          exact Z_vret C hN hr d_R_hearAsActive_79 rfl (zeq (by unfold haS; first | (rw [if_pos c12]; done) | (rw [if_neg c12, if_pos (by simp [haB, ← Int32.not_le, c12, c35, c40, c56])]; done) | (rw [if_neg c12, if_neg (by simp [haB, ← Int32.not_le, c12, c35, c40, c56])])))
  · skip
    refine Z_aload_n C 2 d_R_hearAsActive_15 rfl rfl ?_
    refine Z_iload_n C 0 d_R_hearAsActive_16 rfl rfl ?_
    refine C_cRn C w (by assumption) mi_R_advertise ml_R_65 (c_R_advertise w _ _ _ _ (by assumption) _ (by assumption)) rfl rfl (by decide) rfl (Nat.le_of_ble_eq_true rfl) d_R_hearAsActive_17 ?_
    refine Z_aload_n C 2 d_R_hearAsActive_20 rfl rfl ?_
    refine Z_aload_n C 2 d_R_hearAsActive_21 rfl rfl ?_
    refine C_gR C w (by assumption) 2 (by decide) fl_R_21 rfl rfl d_R_hearAsActive_22 ?_
    refine Z_iconst (v := 1) C d_R_hearAsActive_25 (by decide) ?_
    refine C_ldG C w (by assumption) 1 (by decide) (by unfold vp_in; decide) d_R_hearAsActive_26 ?_
    refine C_pR C w (by assumption) 5 (by decide) fl_R_37 rfl rfl rfl rfl rfl d_R_hearAsActive_27 ?_
    refine Z_goto (tgt := 79) C d_R_hearAsActive_30 (by decide) ?_
    exact Z_vret C hN hr d_R_hearAsActive_79 rfl (zeq (by unfold haS; first | (rw [if_pos c12]; done) | (rw [if_neg c12, if_pos (by simp [haB, ← Int32.not_le, c12])]; done) | (rw [if_neg c12, if_neg (by simp [haB, ← Int32.not_le, c12])])))
set_option maxRecDepth 100000 in
set_option maxHeartbeats 4000000 in
theorem c_R_timerFires {l : Launch} {G : zG} {V : zV} (w : wC G V) (M : zM) (P : Nat → Nat) (D : Nat × Nat) (i : Nat) (hi : i < 5) (hI : Inv M P D) : zF l y_R_timerFires b_R_timerFires 1 none 4 88 G [.ref (V.1 2 i 0)] (eC V M P D) none (eC V (tfS (M, P, D) i).1 (tfS (M, P, D) i).2.1 (tfS (M, P, D) i).2.2) := by
  refine zF.ofZ (by decide) w.2.2.2.2 (Nat.le_of_ble_eq_true rfl) (fun X hXl hN hr C => ?_)
  subst hXl
  show Z X G (zA G) 1 _ (eC V M P D) 0 [(0, .ref (V.1 2 i 0))] []
  refine Z_aload_n C 0 d_R_timerFires_0 rfl rfl ?_
  refine C_gR C w (by assumption) 4 (by decide) fl_R_34 rfl rfl d_R_timerFires_1 ?_
  refine Z_iconst (v := 1) C d_R_timerFires_4 (by decide) ?_
  refine Z_icmp_ne (tgt := 15) C d_R_timerFires_5 (by decide) (fun c5 => ?_) (fun c5 => ?_)
  · skip
    refine Z_aload_n C 0 d_R_timerFires_15 rfl rfl ?_
    refine Z_aload_n C 0 d_R_timerFires_16 rfl rfl ?_
    refine C_cRv C w (by assumption) mi_R_weighed ml_R_40 (c_R_weighed w _ _ _ _ (by assumption)) rfl rfl (by decide) rfl (Nat.le_of_ble_eq_true rfl) d_R_timerFires_17 ?_
    refine C_cRn C w (by assumption) mi_R_advertise ml_R_65 (c_R_advertise w _ _ _ _ (by assumption) _ (by assumption)) rfl rfl (by decide) rfl (Nat.le_of_ble_eq_true rfl) d_R_timerFires_20 ?_
    refine Z_aload_n C 0 d_R_timerFires_23 rfl rfl ?_
    refine Z_aload_n C 0 d_R_timerFires_24 rfl rfl ?_
    refine C_gR C w (by assumption) 2 (by decide) fl_R_21 rfl rfl d_R_timerFires_25 ?_
    refine Z_iconst (v := 1) C d_R_timerFires_28 (by decide) ?_
    refine C_ldG C w (by assumption) 1 (by decide) (by unfold vp_in; decide) d_R_timerFires_29 ?_
    refine C_pR C w (by assumption) 5 (by decide) fl_R_37 rfl rfl rfl rfl rfl d_R_timerFires_30 ?_
    exact Z_vret C hN hr d_R_timerFires_33 rfl (zeq (by unfold tfS; first | rw [if_pos c5] | rw [if_neg c5]))
  · skip
    refine Z_aload_n C 0 d_R_timerFires_8 rfl rfl ?_
    refine C_cRn C w (by assumption) mi_R_becomeActive ml_R_59 (c_R_becomeActive w _ _ _ _ (by assumption) (by assumption)) rfl rfl (by decide) rfl (Nat.le_of_ble_eq_true rfl) d_R_timerFires_9 ?_
    refine Z_goto (tgt := 33) C d_R_timerFires_12 (by decide) ?_
    exact Z_vret C hN hr d_R_timerFires_33 rfl (zeq (by unfold tfS; first | rw [if_pos c5] | rw [if_neg c5]))
end
section
section ZNl
variable {X : zX} {G : zG} {A : Nat → Prop} {nL : Nat} {Q : State → Prop} {K : zK} {pc : Nat} {lv : List (Nat × Value)} {st : List Value} {cc : ByteArray} {own : String} {fr lo : Nat}
theorem Z_aload_nN (C : zC X G A cc nL own fr lo) (j : Nat) {k : Fin 4} {i : Nat} (hd : decode cc pc = .ok (.aload_n k, 1)) (hi : (k : Nat) = i) (hx : lv[j]? = some (i, .null)) (k : Z X G A nL Q K (pc + 1) lv (.null :: st)) : Z X G A nL Q K pc lv st := fun f H locs ls hf hP hS hl => lv_aload_nN C.1.1 C.1.2.1 hd hi (lv_at hl j hx) (k f H locs ls hf hP hS hl)
theorem Z_astore_nN {lv' : List (Nat × Value)} (C : zC X G A cc nL own fr lo) {k : Fin 4} {i : Nat} (hd : decode cc pc = .ok (.astore_n k, 1)) (hi : (k : Nat) = i) (hn : i < nL) (he : (i, Value.null) :: lv.filter (fun q => !(q.1 == i) && !(q.1 + 1 == i && q.2.category == 2)) = lv') (k : Z X G A nL Q K (pc + 1) lv' st) : Z X G A nL Q K pc lv (.null :: st) := fun f H locs ls hf hP hS hl => lv_astore_nN C.1.1 C.1.2.1 hd hi hl hn he (fun ls hl => k f H locs ls hf hP hS hl)
end ZNl
theorem rMeant_lt {M : zM} {i k s : Nat} : ∀ n s0, rMeant M i k n s0 = some s → s < s0 + n := by
  intro n
  induction n with
  | zero => intro s0 h; cases h
  | succ n ih =>
    intro s0 h
    unfold rMeant at h
    repeat' split at h
    all_goals first | (have := ih (s0 + 1) h; omega) | (cases h; omega)
/-! what a router hears; its timers -/
def hp1 (M : zM) (i k s : Nat) : zM := rw4 M 5 i s (sLearn (M 5 i s) (M 9 k 0) (M 10 k 0))
def hp2 (σ : zS) (i k s : Nat) : zS := if (by_ (hp1 σ.1 i k s) k 1 &&& 32) = 0 then (hp1 σ.1 i k s, σ.2.1, σ.2.2) else pkS (hp1 σ.1 i k s, σ.2.1, σ.2.2) i s 16
def hp3 (σ : zS) (i k s : Nat) : zS := if sChanged (σ.1 5 i s) (σ.1 9 k 0) (σ.1 10 k 0) = 0 then hp2 σ i k s else (rw4 (hp2 σ i k s).1 5 i s (sHurry ((hp2 σ i k s).1 5 i s)), (hp2 σ i k s).2.1, (hp2 σ i k s).2.2)
def hpT (M : zM) (i k : Nat) : Option Nat := if rWhole M k = 0 then none else rMeant M i k 5 0
def hpS (σ : zS) (i k : Nat) : zS := match hpT σ.1 i k with
  | none => σ
  | some s => hp3 σ i k s
def hpR (M : zM) (i k : Nat) : Int32 := match hpT M i k with
  | none => 0
  | some _ => 1
theorem hpT_lt {M : zM} {i k s : Nat} (h : hpT M i k = some s) : s < 5 := by
  unfold hpT at h
  split at h
  · cases h
  · have := rMeant_lt 5 0 h; omega
theorem inv_hp2 {σ : zS} {i k s : Nat} (h : Inv σ.1 σ.2.1 σ.2.2) : Inv (hp2 σ i k s).1 (hp2 σ i k s).2.1 (hp2 σ i k s).2.2 := by
  have h1 : Inv (hp1 σ.1 i k s) σ.2.1 σ.2.2 := h.of rfl
  unfold hp2
  split
  · exact h1
  · exact Inv.pk (σ := (hp1 σ.1 i k s, σ.2.1, σ.2.2)) h1
theorem Inv.hp {σ : zS} {i k : Nat} (h : Inv σ.1 σ.2.1 σ.2.2) : Inv (hpS σ i k).1 (hpS σ i k).2.1 (hpS σ i k).2.2 := by
  unfold hpS
  split
  · exact h
  · unfold hp3
    split
    · exact inv_hp2 h
    · exact (inv_hp2 h).of rfl
def he1 (M : zM) (i : Nat) : zM := up M 2 i 0 8 (M 2 i 0 8 + 1)
def heS (σ : zS) (i k : Nat) : zS := if σ.1 9 k 0 2 = 1 then (if rFor σ.1 i k = 0 then σ else if he1 σ.1 i 2 i 0 4 = 2 then haS (he1 σ.1 i, σ.2.1, σ.2.2) i k else (hbM (he1 σ.1 i) i k, σ.2.1, σ.2.2)) else if σ.1 9 k 0 2 = 2 then hpS σ i k else if σ.1 9 k 0 2 = 3 then (if ¬ σ.1 2 i 0 4 = 2 then σ else if σ.1 9 k 0 3 = 9 then σ else seS σ i 4 9 (σ.1 9 k 0 3)) else if σ.1 9 k 0 2 = 4 then (up σ.1 2 i 0 10 (σ.1 9 k 0 5), σ.2.1, σ.2.2) else σ
def heR (M : zM) (i k : Nat) : Int32 := if M 9 k 0 2 = 1 then (if rFor M i k = 0 then 0 else 1) else if M 9 k 0 2 = 2 then hpR M i k else 0
theorem Inv.he {σ : zS} {i k : Nat} (h : Inv σ.1 σ.2.1 σ.2.2) : Inv (heS σ i k).1 (heS σ i k).2.1 (heS σ i k).2.2 := by
  have h1 : Inv (he1 σ.1 i) σ.2.1 σ.2.2 := h.of rfl
  unfold heS
  split
  · split
    · exact h
    · split
      · exact Inv.ha (σ := (he1 σ.1 i, σ.2.1, σ.2.2)) h1
      · exact h1.of (by unfold hbM; repeat' split
                        all_goals rfl)
  · split
    · exact Inv.hp h
    · split
      · split
        · exact h
        · split
          · exact h
          · exact Inv.se h
      · split
        · exact h.of rfl
        · exact h
/-- a session's timers -/
def rs1 (M : zM) (i j : Nat) : zM := rw4 M 5 i j (sDetect (M 5 i j))
def rs2 (M : zM) (i j : Nat) : zM := rw4 (rs1 M i j) 5 i j (sFires (rs1 M i j 5 i j))
def rs3 (σ : zS) (i j : Nat) : zS := pkS (rs2 σ.1 i j, σ.2.1, σ.2.2) i j (if rs2 σ.1 i j 5 i j 13 = 0 then 0 else 32)
def rsS (σ : zS) (i j : Nat) : zS := if sFired (rs1 σ.1 i j 5 i j) = 0 then (rs2 σ.1 i j, σ.2.1, σ.2.2) else (up (rs3 σ i j).1 5 i j 16 (sPause ((rs3 σ i j).1 5 i j)), (rs3 σ i j).2.1, (rs3 σ i j).2.2)
theorem Inv.rs {σ : zS} {i j : Nat} (h : Inv σ.1 σ.2.1 σ.2.2) : Inv (rsS σ i j).1 (rsS σ i j).2.1 (rsS σ i j).2.2 := by
  have h1 : Inv (rs2 σ.1 i j) σ.2.1 σ.2.2 := h.of rfl
  have h2 : Inv (rs3 σ i j).1 (rs3 σ i j).2.1 (rs3 σ i j).2.2 := Inv.pk (σ := (rs2 σ.1 i j, σ.2.1, σ.2.2)) h1
  unfold rsS
  split
  · exact h1
  · exact h2.of rfl
def rtStep (i s : Nat) (σ : zS) : zS := if σ.1 5 i s 2 = 0 then σ else rsS σ i s
def rtl (i : Nat) : Nat → Nat → zS → zS
  | 0, _, σ => σ
  | n + 1, s, σ => rtl i n (s + 1) (rtStep i s σ)
def rt1 (M : zM) (i : Nat) : zM := up M 2 i 0 5 (M 2 i 0 5 - 1)
def rt2 (σ : zS) (i : Nat) : zS := if 0 < rt1 σ.1 i 2 i 0 5 then (rt1 σ.1 i, σ.2.1, σ.2.2) else tfS (rt1 σ.1 i, σ.2.1, σ.2.2) i
def rtS (σ : zS) (i : Nat) : zS := if σ.1 2 i 0 4 = 0 then σ else rtl i 5 0 (rt2 σ i)
theorem inv_rt2 {σ : zS} {i : Nat} (h : Inv σ.1 σ.2.1 σ.2.2) : Inv (rt2 σ i).1 (rt2 σ i).2.1 (rt2 σ i).2.2 := by
  have h1 : Inv (rt1 σ.1 i) σ.2.1 σ.2.2 := h.of rfl
  unfold rt2
  split
  · exact h1
  · exact Inv.tf (σ := (rt1 σ.1 i, σ.2.1, σ.2.2)) h1
theorem inv_rtStep {σ : zS} {i s : Nat} (h : Inv σ.1 σ.2.1 σ.2.2) : Inv (rtStep i s σ).1 (rtStep i s σ).2.1 (rtStep i s σ).2.2 := by
  unfold rtStep
  split
  · exact h
  · exact Inv.rs h
theorem inv_rtl {i : Nat} : ∀ (n s : Nat) (σ : zS), Inv σ.1 σ.2.1 σ.2.2 → Inv (rtl i n s σ).1 (rtl i n s σ).2.1 (rtl i n s σ).2.2 := by
  intro n
  induction n with
  | zero => intro s σ h; exact h
  | succ n ih => intro s σ h; exact ih (s + 1) _ (inv_rtStep h)
theorem Inv.rt {σ : zS} {i : Nat} (h : Inv σ.1 σ.2.1 σ.2.2) : Inv (rtS σ i).1 (rtS σ i).2.1 (rtS σ i).2.2 := by
  unfold rtS
  split
  · exact h
  · exact inv_rtl 5 0 _ (inv_rt2 h)
theorem hpR_n (M : zM) (i k : Nat) : narrow .boolean (.int (hpR M i k)) = .int (hpR M i k) := by
  unfold hpR
  split
  · decide
  · decide

set_option maxRecDepth 100000 in
set_option maxHeartbeats 4000000 in
theorem c_R_hearPacket {l : Launch} {G : zG} {V : zV} (w : wC G V) (M : zM) (P : Nat → Nat) (D : Nat × Nat) (i : Nat) (hi : i < 5) (k : Nat) (hk : k < 63) (hI : Inv M P D) : zF l y_R_hearPacket b_R_hearPacket 4 (some .boolean) 4 83 G [.ref (V.1 2 i 0), .ref (V.1 9 k 0)] (eC V M P D) (some (.int (hpR M i k))) (eC V (hpS (M, P, D) i k).1 (hpS (M, P, D) i k).2.1 (hpS (M, P, D) i k).2.2) := by
  refine zF.ofZ (by decide) w.2.2.2.2 (Nat.le_of_ble_eq_true rfl) (fun X hXl hN hr C => ?_)
  subst hXl
  show Z X G (zA G) 4 _ (eC V M P D) 0 [(0, .ref (V.1 2 i 0)), (1, .ref (V.1 9 k 0))] []
  refine Z_aload_n C 1 d_R_hearPacket_0 rfl rfl ?_
  refine C_csv C ms_R_isWhole ml_R_191 (c_R_isWhole w _ _ _ _ (by assumption)) rfl (by decide) rfl (Nat.le_of_ble_eq_true rfl) d_R_hearPacket_1 ?_
  refine Z_if_eq (tgt := 15) C d_R_hearPacket_4 (by decide) (fun c4 => ?_) (fun c4 => ?_)
  · skip
    have hT : hpT M i k = none := by unfold hpT; rw [if_pos c4]
    refine Z_null C d_R_hearPacket_15 ?_
    refine Z_astore_nN C d_R_hearPacket_16 rfl (by decide) rfl ?_
    refine Z_aload_nN C 0 d_R_hearPacket_17 rfl rfl ?_
    refine Z_ifnonnullN C d_R_hearPacket_18 ?_
    refine Z_iconst (v := 0) C d_R_hearPacket_21 (by decide) ?_
    exact Z_zret C hN hr (by decide) d_R_hearPacket_22 (by unfold hpR; rw [hT]) (zeq (by unfold hpS; simp only [hT]))
  · skip
    refine Z_aload_n C 0 d_R_hearPacket_7 rfl rfl ?_
    refine Z_aload_n C 1 d_R_hearPacket_8 rfl rfl ?_
    refine C_cRv C w (by assumption) mi_R_sessionMeant ml_R_194 (c_R_sessionMeant w _ _ _ _ (by assumption) _ (by assumption)) rfl rfl (by decide) rfl (Nat.le_of_ble_eq_true rfl) d_R_hearPacket_9 ?_
    rcases hm : rMeant M i k 5 0 with _ | s
    · have hT : hpT M i k = none := by unfold hpT; rw [if_neg c4, hm]
      refine zst (st' := [.null]) rfl ?_
      refine Z_goto (tgt := 16) C d_R_hearPacket_12 (by decide) ?_
      refine Z_astore_nN C d_R_hearPacket_16 rfl (by decide) rfl ?_
      refine Z_aload_nN C 0 d_R_hearPacket_17 rfl rfl ?_
      refine Z_ifnonnullN C d_R_hearPacket_18 ?_
      refine Z_iconst (v := 0) C d_R_hearPacket_21 (by decide) ?_
      exact Z_zret C hN hr (by decide) d_R_hearPacket_22 (by unfold hpR; rw [hT]) (zeq (by unfold hpS; simp only [hT]))
    · have hT : hpT M i k = some s := by unfold hpT; rw [if_neg c4, hm]
      have hs : s < 5 := hpT_lt hT
      have hw : hpS (M, P, D) i k = hp3 (M, P, D) i k s := by unfold hpS; simp only [hT]
      refine zst (st' := [.ref (V.1 5 i s)]) rfl ?_
      refine Z_goto (tgt := 16) C d_R_hearPacket_12 (by decide) ?_
      refine Z_astore_n C d_R_hearPacket_16 rfl (by decide) rfl ?_
      refine Z_aload_n C 0 d_R_hearPacket_17 rfl rfl ?_
      refine Z_ifnonnull (tgt := 23) C d_R_hearPacket_18 (by decide) ?_
      refine Z_aload_n C 0 d_R_hearPacket_23 rfl rfl ?_
      refine Z_aload_n C 2 d_R_hearPacket_24 rfl rfl ?_
      refine C_cSv C w (by assumption) (by assumption) mi_S_learn ml_R_198 (c_S_learn w _ _ _ _ _ (by assumption) (by assumption) _ (by assumption)) rfl rfl (by decide) rfl (Nat.le_of_ble_eq_true rfl) d_R_hearPacket_25 ?_
      refine Z_istore_n C d_R_hearPacket_28 rfl (by decide) rfl ?_
      refine Z_aload_n C 3 d_R_hearPacket_29 rfl rfl ?_
      refine Z_iconst (v := 1) C d_R_hearPacket_30 (by decide) ?_
      refine C_cFv C w (by assumption) mi_F_byteAt ml_R_162 (c_F_byteAt w _ _ _ _ (by assumption) _) rfl rfl (by decide) rfl (Nat.le_of_ble_eq_true rfl) d_R_hearPacket_31 ?_
      refine Z_bipush (v := 32) C d_R_hearPacket_34 (by decide) ?_
      refine Z_iand C d_R_hearPacket_36 ?_
      refine Z_if_eq (tgt := 47) C d_R_hearPacket_37 (by decide) (fun c37 => ?_) (fun c37 => ?_)
      · have c37 : (by_ (hp1 M i k s) k 1 &&& 32) = 0 := c37
        refine zKk (K' := eC V (hp2 (M, P, D) i k s).1 (hp2 (M, P, D) i k s).2.1 (hp2 (M, P, D) i k s).2.2) (zeq (by unfold hp2; dsimp only; first | (rw [if_pos c37]; done) | (rw [if_neg c37]; done) | (rw [if_pos c37]; rfl) | (rw [if_neg c37]; rfl))) ?_
        refine Z_iload_n C 0 d_R_hearPacket_47 rfl rfl ?_
        refine Z_if_eq (tgt := 55) C d_R_hearPacket_48 (by decide) (fun c48 => ?_) (fun c48 => ?_)
        · skip
          refine Z_iconst (v := 1) C d_R_hearPacket_55 (by decide) ?_
          exact Z_zret C hN hr (by decide) d_R_hearPacket_56 (by unfold hpR; rw [hT]) (zeq (by rw [hw]; unfold hp3; dsimp only; first | (rw [if_pos c48]; done) | (rw [if_neg c48]; done) | (rw [if_pos c48]; rfl) | (rw [if_neg c48]; rfl)))
        · skip
          refine Z_aload_n C 1 d_R_hearPacket_51 rfl rfl ?_
          refine C_cSn C w (by assumption) (by assumption) mi_S_hurrySend ml_R_205 (c_S_hurrySend w _ _ _ _ _ (by assumption) (by assumption)) rfl rfl (by decide) rfl (Nat.le_of_ble_eq_true rfl) d_R_hearPacket_52 ?_
          refine Z_iconst (v := 1) C d_R_hearPacket_55 (by decide) ?_
          exact Z_zret C hN hr (by decide) d_R_hearPacket_56 (by unfold hpR; rw [hT]) (zeq (by rw [hw]; unfold hp3; dsimp only; first | (rw [if_pos c48]; done) | (rw [if_neg c48]; done) | (rw [if_pos c48]; rfl) | (rw [if_neg c48]; rfl)))
      · have c37 : ¬ (by_ (hp1 M i k s) k 1 &&& 32) = 0 := c37
        refine Z_aload_n C 2 d_R_hearPacket_40 rfl rfl ?_
        refine Z_aload_n C 1 d_R_hearPacket_41 rfl rfl ?_
        refine Z_bipush (v := 16) C d_R_hearPacket_42 (by decide) ?_
        refine C_cRn C w (by assumption) mi_R_sendPacket ml_R_201 (c_R_sendPacket w (hp1 M i k s) _ _ i s hi hs 16 (hI.of rfl)) rfl rfl (by decide) rfl (Nat.le_of_ble_eq_true rfl) d_R_hearPacket_44 ?_
        refine zKk (K' := eC V (hp2 (M, P, D) i k s).1 (hp2 (M, P, D) i k s).2.1 (hp2 (M, P, D) i k s).2.2) (zeq (by unfold hp2; dsimp only; first | (rw [if_pos c37]; done) | (rw [if_neg c37]; done) | (rw [if_pos c37]; rfl) | (rw [if_neg c37]; rfl))) ?_
        refine Z_iload_n C 0 d_R_hearPacket_47 rfl rfl ?_
        refine Z_if_eq (tgt := 55) C d_R_hearPacket_48 (by decide) (fun c48 => ?_) (fun c48 => ?_)
        · skip
          refine Z_iconst (v := 1) C d_R_hearPacket_55 (by decide) ?_
          exact Z_zret C hN hr (by decide) d_R_hearPacket_56 (by unfold hpR; rw [hT]) (zeq (by rw [hw]; unfold hp3; dsimp only; first | (rw [if_pos c48]; done) | (rw [if_neg c48]; done) | (rw [if_pos c48]; rfl) | (rw [if_neg c48]; rfl)))
        · skip
          refine Z_aload_n C 1 d_R_hearPacket_51 rfl rfl ?_
          refine C_cSn C w (by assumption) (by assumption) mi_S_hurrySend ml_R_205 (c_S_hurrySend w _ _ _ _ _ (by assumption) (by assumption)) rfl rfl (by decide) rfl (Nat.le_of_ble_eq_true rfl) d_R_hearPacket_52 ?_
          refine Z_iconst (v := 1) C d_R_hearPacket_55 (by decide) ?_
          exact Z_zret C hN hr (by decide) d_R_hearPacket_56 (by unfold hpR; rw [hT]) (zeq (by rw [hw]; unfold hp3; dsimp only; first | (rw [if_pos c48]; done) | (rw [if_neg c48]; done) | (rw [if_pos c48]; rfl) | (rw [if_neg c48]; rfl)))
set_option maxRecDepth 100000 in
set_option maxHeartbeats 4000000 in
theorem c_R_hear {l : Launch} {G : zG} {V : zV} (w : wC G V) (M : zM) (P : Nat → Nat) (D : Nat × Nat) (i : Nat) (hi : i < 5) (k : Nat) (hk : k < 63) (hI : Inv M P D) : zF l y_R_hear b_R_hear 2 (some .boolean) 5 106 G [.ref (V.1 2 i 0), .ref (V.1 9 k 0)] (eC V M P D) (some (.int (heR M i k))) (eC V (heS (M, P, D) i k).1 (heS (M, P, D) i k).2.1 (heS (M, P, D) i k).2.2) := by
  refine zF.ofZ (by decide) w.2.2.2.2 (Nat.le_of_ble_eq_true rfl) (fun X hXl hN hr C => ?_)
  subst hXl
  show Z X G (zA G) 2 _ (eC V M P D) 0 [(0, .ref (V.1 2 i 0)), (1, .ref (V.1 9 k 0))] []
  refine Z_aload_n C 1 d_R_hear_0 rfl rfl ?_
  refine C_gF C w (by assumption) 2 (by decide) fl_R_133 rfl rfl d_R_hear_1 ?_
  refine Z_tsw C d_R_hear_4 [(1, 36), (2, 79), (3, 85), (4, 115)] 125 (by decide +kernel) (by decide +kernel) (by decide) ?_ ?_
  · simp only [List.forall_mem_cons]
    refine ⟨fun c4 => ?_, fun c4 => ?_, fun c4 => ?_, fun c4 => ?_, fun _ h => absurd h List.not_mem_nil⟩
    · skip
      refine Z_aload_n C 0 d_R_hear_36 rfl rfl ?_
      refine Z_aload_n C 1 d_R_hear_37 rfl rfl ?_
      refine C_cRv C w (by assumption) mi_R_isForUs ml_R_136 (c_R_isForUs w _ _ _ _ (by assumption) _ (by assumption)) rfl rfl (by decide) rfl (Nat.le_of_ble_eq_true rfl) d_R_hear_38 ?_
      refine Z_if_ne (tgt := 46) C d_R_hear_41 (by decide) (fun c41 => ?_) (fun c41 => ?_)
      · skip
        refine Z_aload_n C 0 d_R_hear_46 rfl rfl ?_
        refine Z_dup C d_R_hear_47 rfl ?_
        refine C_gR C w (by assumption) 8 (by decide) fl_R_50 rfl rfl d_R_hear_48 ?_
        refine Z_iconst (v := 1) C d_R_hear_51 (by decide) ?_
        refine Z_iadd C d_R_hear_52 ?_
        refine C_pR C w (by assumption) 8 (by decide) fl_R_50 rfl rfl rfl rfl rfl d_R_hear_53 ?_
        refine Z_aload_n C 0 d_R_hear_56 rfl rfl ?_
        refine C_gR C w (by assumption) 4 (by decide) fl_R_34 rfl rfl d_R_hear_57 ?_
        refine Z_iconst (v := 2) C d_R_hear_60 (by decide) ?_
        refine Z_icmp_ne (tgt := 72) C d_R_hear_61 (by decide) (fun c61 => ?_) (fun c61 => ?_)
        · have c61 : ¬ he1 M i 2 i 0 4 = 2 := c61
          refine Z_aload_n C 0 d_R_hear_72 rfl rfl ?_
          refine Z_aload_n C 1 d_R_hear_73 rfl rfl ?_
          refine C_cRn C w (by assumption) mi_R_hearAsBackup ml_R_144 (c_R_hearAsBackup w (he1 M i) _ _ i hi k hk) rfl rfl (by decide) rfl (Nat.le_of_ble_eq_true rfl) d_R_hear_74 ?_
          refine Z_iconst (v := 1) C d_R_hear_77 (by decide) ?_
          exact Z_zret C hN hr (by first | decide | exact hpR_n _ _ _) d_R_hear_78 (by unfold heR; simp [c4, c4, c41, c61]) (zeq (by unfold heS; simp [c4, c4, c41, c61]; try rfl))
        · have c61 : he1 M i 2 i 0 4 = 2 := c61
          refine Z_aload_n C 0 d_R_hear_64 rfl rfl ?_
          refine Z_aload_n C 1 d_R_hear_65 rfl rfl ?_
          refine C_cRn C w (by assumption) mi_R_hearAsActive ml_R_140 (c_R_hearAsActive w (he1 M i) _ _ i hi k hk (hI.of rfl)) rfl rfl (by decide) rfl (Nat.le_of_ble_eq_true rfl) d_R_hear_66 ?_
          refine Z_goto (tgt := 77) C d_R_hear_69 (by decide) ?_
          refine Z_iconst (v := 1) C d_R_hear_77 (by decide) ?_
          exact Z_zret C hN hr (by first | decide | exact hpR_n _ _ _) d_R_hear_78 (by unfold heR; simp [c4, c4, c41, c61]) (zeq (by unfold heS; simp [c4, c4, c41, c61]; try rfl))
      · skip
        refine Z_iconst (v := 0) C d_R_hear_44 (by decide) ?_
        exact Z_zret C hN hr (by first | decide | exact hpR_n _ _ _) d_R_hear_45 (by unfold heR; simp [c4, c4, c41]) (zeq (by unfold heS; simp [c4, c4, c41]; try rfl))
    · skip
      refine Z_aload_n C 0 d_R_hear_79 rfl rfl ?_
      refine Z_aload_n C 1 d_R_hear_80 rfl rfl ?_
      refine C_cRv C w (by assumption) mi_R_hearPacket ml_R_147 (c_R_hearPacket w _ _ _ _ (by assumption) _ (by assumption) (by assumption)) rfl rfl (by decide) rfl (Nat.le_of_ble_eq_true rfl) d_R_hear_81 ?_
      exact Z_zret C hN hr (by first | decide | exact hpR_n _ _ _) d_R_hear_84 (by unfold heR; simp [c4, c4]) (zeq (by unfold heS; simp [c4, c4]; try rfl))
    · skip
      refine Z_aload_n C 0 d_R_hear_85 rfl rfl ?_
      refine C_gR C w (by assumption) 4 (by decide) fl_R_34 rfl rfl d_R_hear_86 ?_
      refine Z_iconst (v := 2) C d_R_hear_89 (by decide) ?_
      refine Z_icmp_ne (tgt := 113) C d_R_hear_90 (by decide) (fun c90 => ?_) (fun c90 => ?_)
      · skip
        refine Z_iconst (v := 0) C d_R_hear_113 (by decide) ?_
        exact Z_zret C hN hr (by first | decide | exact hpR_n _ _ _) d_R_hear_114 (by unfold heR; simp [c4, c4, c90]) (zeq (by unfold heS; simp [c4, c4, c90]; try rfl))
      · skip
        refine Z_aload_n C 1 d_R_hear_93 rfl rfl ?_
        refine C_gF C w (by assumption) 3 (by decide) fl_R_150 rfl rfl d_R_hear_94 ?_
        refine Z_bipush (v := 9) C d_R_hear_97 (by decide) ?_
        refine Z_icmp_eq (tgt := 113) C d_R_hear_99 (by decide) (fun c99 => ?_) (fun c99 => ?_)
        · skip
          refine Z_iconst (v := 0) C d_R_hear_113 (by decide) ?_
          exact Z_zret C hN hr (by first | decide | exact hpR_n _ _ _) d_R_hear_114 (by unfold heR; simp [c4, c4, c90, c99]) (zeq (by unfold heS; simp [c4, c4, c90, c99]; try rfl))
        · skip
          refine Z_aload_n C 0 d_R_hear_102 rfl rfl ?_
          refine Z_iconst (v := 4) C d_R_hear_103 (by decide) ?_
          refine Z_bipush (v := 9) C d_R_hear_104 (by decide) ?_
          refine Z_aload_n C 1 d_R_hear_106 rfl rfl ?_
          refine C_gF C w (by assumption) 3 (by decide) fl_R_150 rfl rfl d_R_hear_107 ?_
          refine C_cRn C w (by assumption) mi_R_sendEmpty ml_R_74 (c_R_sendEmpty w _ _ _ i hi 4 9 _ (by decide) hI) rfl rfl (by decide) rfl (Nat.le_of_ble_eq_true rfl) d_R_hear_110 ?_
          refine Z_iconst (v := 0) C d_R_hear_113 (by decide) ?_
          exact Z_zret C hN hr (by first | decide | exact hpR_n _ _ _) d_R_hear_114 (by unfold heR; simp [c4, c4, c90, c99]) (zeq (by unfold heS; simp [c4, c4, c90, c99]; try rfl))
    · skip
      refine Z_aload_n C 0 d_R_hear_115 rfl rfl ?_
      refine Z_aload_n C 1 d_R_hear_116 rfl rfl ?_
      refine C_gF C w (by assumption) 5 (by decide) fl_R_153 rfl rfl d_R_hear_117 ?_
      refine C_pR C w (by assumption) 10 (by decide) fl_R_56 rfl rfl rfl rfl rfl d_R_hear_120 ?_
      refine Z_iconst (v := 0) C d_R_hear_123 (by decide) ?_
      exact Z_zret C hN hr (by first | decide | exact hpR_n _ _ _) d_R_hear_124 (by unfold heR; simp [c4, c4]) (zeq (by unfold heS; simp [c4, c4]; try rfl))
  · intro c4
    simp only [List.forall_mem_cons] at c4
    refine Z_iconst (v := 0) C d_R_hear_125 (by decide) ?_
    exact Z_zret C hN hr (by first | decide | exact hpR_n _ _ _) d_R_hear_126 (by unfold heR; simp [c4, c4]) (zeq (by unfold heS; simp [c4, c4]; try rfl))
set_option maxRecDepth 100000 in
set_option maxHeartbeats 4000000 in
theorem c_R_runSession {l : Launch} {G : zG} {V : zV} (w : wC G V) (M : zM) (P : Nat → Nat) (D : Nat × Nat) (i j : Nat) (hi : i < 5) (hj : j < 5) (hI : Inv M P D) : zF l y_R_runSession b_R_runSession 2 none 3 68 G [.ref (V.1 2 i 0), .ref (V.1 5 i j)] (eC V M P D) none (eC V (rsS (M, P, D) i j).1 (rsS (M, P, D) i j).2.1 (rsS (M, P, D) i j).2.2) := by
  refine zF.ofZ (by decide) w.2.2.2.2 (Nat.le_of_ble_eq_true rfl) (fun X hXl hN hr C => ?_)
  subst hXl
  show Z X G (zA G) 2 _ (eC V M P D) 0 [(0, .ref (V.1 2 i 0)), (1, .ref (V.1 5 i j))] []
  refine Z_aload_n C 1 d_R_runSession_0 rfl rfl ?_
  refine C_cSn C w (by assumption) (by assumption) mi_S_runDetect ml_R_215 (c_S_runDetect w _ _ _ _ _ (by assumption) (by assumption)) rfl rfl (by decide) rfl (Nat.le_of_ble_eq_true rfl) d_R_runSession_1 ?_
  refine Z_aload_n C 1 d_R_runSession_4 rfl rfl ?_
  refine C_cSv C w (by assumption) (by assumption) mi_S_sendFires ml_R_218 (c_S_sendFires w _ _ _ _ _ (by assumption) (by assumption)) rfl rfl (by decide) rfl (Nat.le_of_ble_eq_true rfl) d_R_runSession_5 ?_
  refine Z_if_eq (tgt := 37) C d_R_runSession_8 (by decide) (fun c8 => ?_) (fun c8 => ?_)
  · have c8 : sFired (rs1 M i j 5 i j) = 0 := c8
    exact Z_vret C hN hr d_R_runSession_37 rfl (zeq (by unfold rsS; dsimp only; first | (rw [if_pos c8]; done) | (rw [if_neg c8]; done) | (rw [if_pos c8]; rfl) | (rw [if_neg c8]; rfl)))
  · have c8 : ¬ sFired (rs1 M i j 5 i j) = 0 := c8
    refine Z_aload_n C 0 d_R_runSession_11 rfl rfl ?_
    refine Z_aload_n C 1 d_R_runSession_12 rfl rfl ?_
    refine Z_aload_n C 1 d_R_runSession_13 rfl rfl ?_
    refine C_gS C w (by assumption) (by assumption) 13 (by decide) fl_R_222 rfl rfl d_R_runSession_14 ?_
    refine Z_if_eq (tgt := 25) C d_R_runSession_17 (by decide) (fun c17 => ?_) (fun c17 => ?_)
    · have c17 : rs2 M i j 5 i j 13 = 0 := c17
      refine Z_iconst (v := 0) C d_R_runSession_25 (by decide) ?_
      refine zst (st' := [.int (if rs2 M i j 5 i j 13 = 0 then 0 else 32), .ref (V.1 5 i j), .ref (V.1 2 i 0)]) (by first | (rw [if_pos c17]) | (rw [if_neg c17])) ?_
      refine C_cRn C w (by assumption) mi_R_sendPacket ml_R_201 (c_R_sendPacket w (rs2 M i j) _ _ i j hi hj _ (hI.of rfl)) rfl rfl (by decide) rfl (Nat.le_of_ble_eq_true rfl) d_R_runSession_26 ?_
      refine Z_aload_n C 1 d_R_runSession_29 rfl rfl ?_
      refine Z_aload_n C 1 d_R_runSession_30 rfl rfl ?_
      refine C_cSv C w (by assumption) (by assumption) mi_S_sendPause ml_R_225 (c_S_sendPause w _ _ _ _ _ (by assumption) (by assumption)) rfl rfl (by decide) rfl (Nat.le_of_ble_eq_true rfl) d_R_runSession_31 ?_
      refine C_pS C w (by assumption) (by assumption) 16 (by decide) fl_R_228 rfl rfl rfl rfl rfl d_R_runSession_34 ?_
      exact Z_vret C hN hr d_R_runSession_37 rfl (zeq (by unfold rsS; dsimp only; first | (rw [if_pos c8]; done) | (rw [if_neg c8]; done) | (rw [if_pos c8]; rfl) | (rw [if_neg c8]; rfl)))
    · have c17 : ¬ rs2 M i j 5 i j 13 = 0 := c17
      refine Z_bipush (v := 32) C d_R_runSession_20 (by decide) ?_
      refine Z_goto (tgt := 26) C d_R_runSession_22 (by decide) ?_
      refine zst (st' := [.int (if rs2 M i j 5 i j 13 = 0 then 0 else 32), .ref (V.1 5 i j), .ref (V.1 2 i 0)]) (by first | (rw [if_pos c17]) | (rw [if_neg c17])) ?_
      refine C_cRn C w (by assumption) mi_R_sendPacket ml_R_201 (c_R_sendPacket w (rs2 M i j) _ _ i j hi hj _ (hI.of rfl)) rfl rfl (by decide) rfl (Nat.le_of_ble_eq_true rfl) d_R_runSession_26 ?_
      refine Z_aload_n C 1 d_R_runSession_29 rfl rfl ?_
      refine Z_aload_n C 1 d_R_runSession_30 rfl rfl ?_
      refine C_cSv C w (by assumption) (by assumption) mi_S_sendPause ml_R_225 (c_S_sendPause w _ _ _ _ _ (by assumption) (by assumption)) rfl rfl (by decide) rfl (Nat.le_of_ble_eq_true rfl) d_R_runSession_31 ?_
      refine C_pS C w (by assumption) (by assumption) 16 (by decide) fl_R_228 rfl rfl rfl rfl rfl d_R_runSession_34 ?_
      exact Z_vret C hN hr d_R_runSession_37 rfl (zeq (by unfold rsS; dsimp only; first | (rw [if_pos c8]; done) | (rw [if_neg c8]; done) | (rw [if_pos c8]; rfl) | (rw [if_neg c8]; rfl)))
set_option maxRecDepth 100000 in
set_option maxHeartbeats 4000000 in
theorem c_R_runTimers {l : Launch} {G : zG} {V : zV} (w : wC G V) (M : zM) (P : Nat → Nat) (D : Nat × Nat) (i : Nat) (hi : i < 5) (hI : Inv M P D) : zF l y_R_runTimers b_R_runTimers 2 none 5 108 G [.ref (V.1 2 i 0)] (eC V M P D) none (eC V (rtS (M, P, D) i).1 (rtS (M, P, D) i).2.1 (rtS (M, P, D) i).2.2) := by
  refine zF.ofZ (by decide) w.2.2.2.2 (Nat.le_of_ble_eq_true rfl) (fun X hXl hN hr C => ?_)
  subst hXl
  show Z X G (zA G) 2 _ (eC V M P D) 0 [(0, .ref (V.1 2 i 0))] []
  refine Z_aload_n C 0 d_R_runTimers_0 rfl rfl ?_
  refine C_gR C w (by assumption) 4 (by decide) fl_R_34 rfl rfl d_R_runTimers_1 ?_
  refine Z_if_ne (tgt := 8) C d_R_runTimers_4 (by decide) (fun c4 => ?_) (fun c4 => ?_)
  · skip
    refine Z_aload_n C 0 d_R_runTimers_8 rfl rfl ?_
    refine Z_dup C d_R_runTimers_9 rfl ?_
    refine C_gR C w (by assumption) 5 (by decide) fl_R_37 rfl rfl d_R_runTimers_10 ?_
    refine Z_iconst (v := 1) C d_R_runTimers_13 (by decide) ?_
    refine Z_isub C d_R_runTimers_14 ?_
    refine C_pR C w (by assumption) 5 (by decide) fl_R_37 rfl rfl rfl rfl rfl d_R_runTimers_15 ?_
    refine Z_aload_n C 0 d_R_runTimers_18 rfl rfl ?_
    refine C_gR C w (by assumption) 5 (by decide) fl_R_37 rfl rfl d_R_runTimers_19 ?_
    refine Z_if_gt (tgt := 29) C d_R_runTimers_22 (by decide) (fun c22 => ?_) (fun c22 => ?_)
    · have c22 : 0 < rt1 M i 2 i 0 5 := c22
      refine zKk (K' := eC V (rt2 (M, P, D) i).1 (rt2 (M, P, D) i).2.1 (rt2 (M, P, D) i).2.2) (zeq (by unfold rt2; dsimp only; first | (rw [if_pos c22]; done) | (rw [if_neg c22]; done) | (rw [if_pos c22]; rfl) | (rw [if_neg c22]; rfl))) ?_
      refine Z_iconst (v := 0) C d_R_runTimers_29 (by decide) ?_
      refine Z_istore_n C d_R_runTimers_30 rfl (by decide) rfl ?_
      have hlp : ∀ (n s : Nat) (σ : zS), s + n = 5 → Inv σ.1 σ.2.1 σ.2.2 → rtl i n s σ = rtS (M, P, D) i → Z X G (zA G) 2 (zQ X G none (eC V (rtS (M, P, D) i).1 (rtS (M, P, D) i).2.1 (rtS (M, P, D) i).2.2)) (eC V σ.1 σ.2.1 σ.2.2) 31 [(1, .int (nI s)), (0, .ref (V.1 2 i 0))] [] := by
        intro n
        induction n with
        | zero =>
          intro s σ h1 h2 h3
          refine Z_iload_n C 0 d_R_runTimers_31 rfl rfl ?_
          refine Z_iconst (v := 5) C d_R_runTimers_32 (by decide) ?_
          refine Z_icmp_ge (tgt := 64) C d_R_runTimers_33 (by decide) (fun c33 => ?_) (fun c33 => ?_)
          · skip
            exact Z_vret C hN hr d_R_runTimers_64 rfl (zeq (by rw [← h3]; rfl))
          · exact absurd (nI_le (a := 5) (b := s) (by omega) (by omega)) c33 --stop
        | succ n ih =>
          intro s σ h1 h2 h3
          have hs : s < 5 := by omega
          refine Z_iload_n C 0 d_R_runTimers_31 rfl rfl ?_
          refine Z_iconst (v := 5) C d_R_runTimers_32 (by decide) ?_
          refine Z_icmp_ge (tgt := 64) C d_R_runTimers_33 (by decide) (fun c33 => ?_) (fun c33 => ?_)
          · exact absurd c33 (nI_ge (a := s) (b := 5) (by omega) (by decide)) --stop
          · skip
            refine Z_aload_n C 1 d_R_runTimers_36 rfl rfl ?_
            refine C_gR C w (by assumption) 3 (by decide) fl_R_27 rfl rfl d_R_runTimers_37 ?_
            refine Z_iload_n C 0 d_R_runTimers_40 rfl rfl ?_
            refine C_ldX C w (by assumption) s (nI_clamp (by omega)) (vp_in_nI (by omega) (by decide)) d_R_runTimers_41 ?_
            refine C_gS C w (by assumption) (by assumption) 2 (by decide) fl_R_69 rfl rfl d_R_runTimers_42 ?_
            refine Z_if_eq (tgt := 58) C d_R_runTimers_45 (by decide) (fun c45 => ?_) (fun c45 => ?_)
            · skip
              refine Z_iinc 0 C d_R_runTimers_58 rfl (nI_1 s) (by decide) rfl ?_
              refine Z_goto (tgt := 31) C d_R_runTimers_61 (by decide) ?_
              have e : rtStep i s σ = rtStep i s σ := rfl
              have hq := ih (s + 1) (rtStep i s σ) (by omega) (inv_rtStep h2) h3
              unfold rtStep at hq
              first | (rw [if_pos c45] at hq; exact hq) | (rw [if_neg c45] at hq; exact hq)
            · skip
              refine Z_aload_n C 1 d_R_runTimers_48 rfl rfl ?_
              refine Z_aload_n C 1 d_R_runTimers_49 rfl rfl ?_
              refine C_gR C w (by assumption) 3 (by decide) fl_R_27 rfl rfl d_R_runTimers_50 ?_
              refine Z_iload_n C 0 d_R_runTimers_53 rfl rfl ?_
              refine C_ldX C w (by assumption) s (nI_clamp (by omega)) (vp_in_nI (by omega) (by decide)) d_R_runTimers_54 ?_
              refine C_cRn C w (by assumption) mi_R_runSession ml_R_211 (c_R_runSession w σ.1 σ.2.1 σ.2.2 i s hi hs h2) rfl rfl (by decide) rfl (Nat.le_of_ble_eq_true rfl) d_R_runTimers_55 ?_
              refine Z_iinc 0 C d_R_runTimers_58 rfl (nI_1 s) (by decide) rfl ?_
              refine Z_goto (tgt := 31) C d_R_runTimers_61 (by decide) ?_
              have e : rtStep i s σ = rtStep i s σ := rfl
              have hq := ih (s + 1) (rtStep i s σ) (by omega) (inv_rtStep h2) h3
              unfold rtStep at hq
              first | (rw [if_pos c45] at hq; exact hq) | (rw [if_neg c45] at hq; exact hq)
      exact hlp 5 0 (rt2 (M, P, D) i) rfl (inv_rt2 hI) (by unfold rtS; rw [if_neg c4])
    · have c22 : ¬ 0 < rt1 M i 2 i 0 5 := c22
      refine Z_aload_n C 0 d_R_runTimers_25 rfl rfl ?_
      refine C_cRn C w (by assumption) mi_R_timerFires ml_R_208 (c_R_timerFires w (rt1 M i) _ _ i hi (hI.of rfl)) rfl rfl (by decide) rfl (Nat.le_of_ble_eq_true rfl) d_R_runTimers_26 ?_
      refine zKk (K' := eC V (rt2 (M, P, D) i).1 (rt2 (M, P, D) i).2.1 (rt2 (M, P, D) i).2.2) (zeq (by unfold rt2; dsimp only; first | (rw [if_pos c22]; done) | (rw [if_neg c22]; done) | (rw [if_pos c22]; rfl) | (rw [if_neg c22]; rfl))) ?_
      refine Z_iconst (v := 0) C d_R_runTimers_29 (by decide) ?_
      refine Z_istore_n C d_R_runTimers_30 rfl (by decide) rfl ?_
      have hlp : ∀ (n s : Nat) (σ : zS), s + n = 5 → Inv σ.1 σ.2.1 σ.2.2 → rtl i n s σ = rtS (M, P, D) i → Z X G (zA G) 2 (zQ X G none (eC V (rtS (M, P, D) i).1 (rtS (M, P, D) i).2.1 (rtS (M, P, D) i).2.2)) (eC V σ.1 σ.2.1 σ.2.2) 31 [(1, .int (nI s)), (0, .ref (V.1 2 i 0))] [] := by
        intro n
        induction n with
        | zero =>
          intro s σ h1 h2 h3
          refine Z_iload_n C 0 d_R_runTimers_31 rfl rfl ?_
          refine Z_iconst (v := 5) C d_R_runTimers_32 (by decide) ?_
          refine Z_icmp_ge (tgt := 64) C d_R_runTimers_33 (by decide) (fun c33 => ?_) (fun c33 => ?_)
          · skip
            exact Z_vret C hN hr d_R_runTimers_64 rfl (zeq (by rw [← h3]; rfl))
          · exact absurd (nI_le (a := 5) (b := s) (by omega) (by omega)) c33 --stop
        | succ n ih =>
          intro s σ h1 h2 h3
          have hs : s < 5 := by omega
          refine Z_iload_n C 0 d_R_runTimers_31 rfl rfl ?_
          refine Z_iconst (v := 5) C d_R_runTimers_32 (by decide) ?_
          refine Z_icmp_ge (tgt := 64) C d_R_runTimers_33 (by decide) (fun c33 => ?_) (fun c33 => ?_)
          · exact absurd c33 (nI_ge (a := s) (b := 5) (by omega) (by decide)) --stop
          · skip
            refine Z_aload_n C 1 d_R_runTimers_36 rfl rfl ?_
            refine C_gR C w (by assumption) 3 (by decide) fl_R_27 rfl rfl d_R_runTimers_37 ?_
            refine Z_iload_n C 0 d_R_runTimers_40 rfl rfl ?_
            refine C_ldX C w (by assumption) s (nI_clamp (by omega)) (vp_in_nI (by omega) (by decide)) d_R_runTimers_41 ?_
            refine C_gS C w (by assumption) (by assumption) 2 (by decide) fl_R_69 rfl rfl d_R_runTimers_42 ?_
            refine Z_if_eq (tgt := 58) C d_R_runTimers_45 (by decide) (fun c45 => ?_) (fun c45 => ?_)
            · skip
              refine Z_iinc 0 C d_R_runTimers_58 rfl (nI_1 s) (by decide) rfl ?_
              refine Z_goto (tgt := 31) C d_R_runTimers_61 (by decide) ?_
              have e : rtStep i s σ = rtStep i s σ := rfl
              have hq := ih (s + 1) (rtStep i s σ) (by omega) (inv_rtStep h2) h3
              unfold rtStep at hq
              first | (rw [if_pos c45] at hq; exact hq) | (rw [if_neg c45] at hq; exact hq)
            · skip
              refine Z_aload_n C 1 d_R_runTimers_48 rfl rfl ?_
              refine Z_aload_n C 1 d_R_runTimers_49 rfl rfl ?_
              refine C_gR C w (by assumption) 3 (by decide) fl_R_27 rfl rfl d_R_runTimers_50 ?_
              refine Z_iload_n C 0 d_R_runTimers_53 rfl rfl ?_
              refine C_ldX C w (by assumption) s (nI_clamp (by omega)) (vp_in_nI (by omega) (by decide)) d_R_runTimers_54 ?_
              refine C_cRn C w (by assumption) mi_R_runSession ml_R_211 (c_R_runSession w σ.1 σ.2.1 σ.2.2 i s hi hs h2) rfl rfl (by decide) rfl (Nat.le_of_ble_eq_true rfl) d_R_runTimers_55 ?_
              refine Z_iinc 0 C d_R_runTimers_58 rfl (nI_1 s) (by decide) rfl ?_
              refine Z_goto (tgt := 31) C d_R_runTimers_61 (by decide) ?_
              have e : rtStep i s σ = rtStep i s σ := rfl
              have hq := ih (s + 1) (rtStep i s σ) (by omega) (inv_rtStep h2) h3
              unfold rtStep at hq
              first | (rw [if_pos c45] at hq; exact hq) | (rw [if_neg c45] at hq; exact hq)
      exact hlp 5 0 (rt2 (M, P, D) i) rfl (inv_rt2 hI) (by unfold rtS; rw [if_neg c4])
  · skip
    exact Z_vret C hN hr d_R_runTimers_7 rfl (zeq (by unfold rtS; rw [if_pos c4]))
end
section
/-! THE WHOLE: the public calls, where they return -/
def lIsR (x : Int32) : Int32 := if x < 0 then 0 else if 5 ≤ x then 0 else 1
def lRate (x : Int32) : Int32 := if x < 1 then 0 else if 1000 < x then 0 else 1
theorem lIsR_in {x : Int32} (h : ¬ lIsR x = 0) : vp_in x 5 := by
  unfold lIsR at h
  by_cases h1 : x < 0
  · rw [if_pos h1] at h; exact absurd rfl h
  · by_cases h2 : (5 : Int32) ≤ x
    · rw [if_neg h1, if_pos h2] at h; exact absurd rfl h
    · exact vp_inc h1 h2 rfl
theorem lIsR_lt {x : Int32} (h : ¬ lIsR x = 0) : x.toNatClampNeg < 5 := Nat.not_le.mp fun q => lIsR_in h (Or.inr q)
theorem lIsR_nI {x : Int32} (h : ¬ lIsR x = 0) : x = nI x.toNatClampNeg := by
  obtain ⟨j, hj, rfl⟩ := vp_in_of (lIsR_in h) (by decide)
  rw [nI_clamp (by omega)]
def lRouter (M : zM) (x what : Int32) : Int32 := if lIsR x = 0 then -1 else rTell M x.toNatClampNeg what
def lSession (M : zM) (x y what : Int32) : Int32 := if lIsR x = 0 then -1 else if lIsR y = 0 then -1 else if M 5 x.toNatClampNeg y.toNatClampNeg 2 = 0 then -1 else sTell (M 5 x.toNatClampNeg y.toNatClampNeg) what
def lFrame (M : zM) (P : Nat → Nat) (x y : Int32) : Int32 := if x < 0 then -1 else if M 6 0 0 2 ≤ x then -1 else if ¬ x < 60 then -1 else if y = -1 then M 9 (P x.toNatClampNeg) 0 8 - M 6 0 0 3 else if y = -2 then M 9 (P x.toNatClampNeg) 0 2 else if y = -3 then M 9 (P x.toNatClampNeg) 0 3 else if y = -4 then M 9 (P x.toNatClampNeg) 0 4 else if y = -5 then M 9 (P x.toNatClampNeg) 0 1 else if y = -6 then M 9 (P x.toNatClampNeg) 0 7 else fByte (M 9 (P x.toNatClampNeg) 0) (M 10 (P x.toNatClampNeg) 0) y
/-- a frame is handed out; a tick -/
def hoStep (k r : Nat) (σ : zS) : zS := if (σ.1 9 k 0 7 >>> (nI r &&& 31)) &&& 1 = 0 then σ else if rMinds σ.1 r k = 0 then σ else heS σ r k
def hoL (k : Nat) : Nat → Nat → zS → zS
  | 0, _, σ => σ
  | n + 1, r, σ => hoL k n (r + 1) (hoStep k r σ)
def hoS (σ : zS) (k : Nat) : zS := hoL k 5 0 σ
theorem inv_hoStep {σ : zS} {k r : Nat} (h : Inv σ.1 σ.2.1 σ.2.2) : Inv (hoStep k r σ).1 (hoStep k r σ).2.1 (hoStep k r σ).2.2 := by
  unfold hoStep
  split
  · exact h
  · split
    · exact h
    · exact Inv.he h
theorem inv_hoL {k : Nat} : ∀ (n r : Nat) (σ : zS), Inv σ.1 σ.2.1 σ.2.2 → Inv (hoL k n r σ).1 (hoL k n r σ).2.1 (hoL k n r σ).2.2 := by
  intro n
  induction n with
  | zero => intro r σ h; exact h
  | succ n ih => intro r σ h; exact ih (r + 1) _ (inv_hoStep h)
def tkS (σ : zS) : zS := (tkM σ.1 σ.2.1 (cnt σ.1), tkP σ.1 σ.2.1 σ.2.2 (cnt σ.1), tkD σ.1 σ.2.1 σ.2.2 (cnt σ.1))
theorem inv_tkS {σ : zS} (h : Inv σ.1 σ.2.1 σ.2.2) : Inv (tkS σ).1 (tkS σ).2.1 (tkS σ).2.2 := by
  obtain ⟨h1, h2, h3, h4, h5⟩ := id h
  unfold tkS
  dsimp only
  unfold tkM tkP tkD
  by_cases hc : kDue σ.1 σ.2.1 (cnt σ.1) (cnt σ.1) 0 < cnt σ.1
  · rw [if_pos hc, if_pos hc, if_pos hc]
    have e : up σ.1 6 0 0 2 (nI (cnt σ.1 - 1)) 6 0 0 2 = nI (cnt σ.1 - 1) := by rw [up_self]; rfl
    have ec := cnt_nI (by omega) e
    refine ⟨h1, h3 _ (by omega), fun n hn => ?_, by rw [ec]; exact e, by rw [ec]; omega⟩
    by_cases q : n = cnt σ.1 - 1
    · subst q; rw [va_up_self]; exact h2
    · rw [va_up_ne _ _ q]
      unfold pShift
      split
      · exact h3 _ (by omega)
      · exact h3 n hn
  · rw [if_neg hc, if_neg hc, if_neg hc]
    exact h
def duL : Nat → zS → zS
  | 0, σ => σ
  | n + 1, σ => duL n (hoS (tkS σ) (tkS σ).2.2.2)
theorem inv_duL : ∀ (n : Nat) (σ : zS), Inv σ.1 σ.2.1 σ.2.2 → Inv (duL n σ).1 (duL n σ).2.1 (duL n σ).2.2 := by
  intro n
  induction n with
  | zero => intro σ h; exact h
  | succ n ih => intro σ h; exact ih _ (inv_hoL 5 0 _ (inv_tkS h))
def rtL : Nat → Nat → zS → zS
  | 0, _, σ => σ
  | n + 1, r, σ => rtL n (r + 1) (rtS σ r)
theorem inv_rtL : ∀ (n r : Nat) (σ : zS), Inv σ.1 σ.2.1 σ.2.2 → Inv (rtL n r σ).1 (rtL n r σ).2.1 (rtL n r σ).2.2 := by
  intro n
  induction n with
  | zero => intro r σ h; exact h
  | succ n ih => intro r σ h; exact ih (r + 1) _ (Inv.rt h)
def ckS (σ : zS) : zS := (up σ.1 6 0 0 3 (σ.1 6 0 0 3 + 1), σ.2.1, σ.2.2)
theorem inv_ckS {σ : zS} (h : Inv σ.1 σ.2.1 σ.2.2) : Inv (ckS σ).1 (ckS σ).2.1 (ckS σ).2.2 := h.of (by unfold ckS; dsimp only; rw [up_self]; rfl)
def nDue (σ : zS) : Nat := (cDue σ.1 σ.2.1 60 0 0).toNatClampNeg
theorem cDue_nI (M : zM) (P : Nat → Nat) : ∀ (n i a : Nat), ∃ b, a ≤ b ∧ b ≤ a + n ∧ cDue M P n i (nI a) = nI b := by
  intro n
  induction n with
  | zero => intro i a; exact ⟨a, Nat.le_refl _, Nat.le_refl _, rfl⟩
  | succ n ih =>
    intro i a
    unfold cDue
    split
    · exact ⟨a, Nat.le_refl _, by omega, rfl⟩
    · split
      · exact ⟨a, Nat.le_refl _, by omega, rfl⟩
      · split
        · rw [nI_1]
          obtain ⟨b, h1, h2, h3⟩ := ih (i + 1) (a + 1)
          exact ⟨b, by omega, by omega, h3⟩
        · obtain ⟨b, h1, h2, h3⟩ := ih (i + 1) a
          exact ⟨b, by omega, by omega, h3⟩
theorem nDue_eq (σ : zS) : cDue σ.1 σ.2.1 60 0 0 = nI (nDue σ) ∧ nDue σ ≤ 60 := by
  obtain ⟨b, -, h2, h3⟩ := cDue_nI σ.1 σ.2.1 60 0 0
  have h3 : cDue σ.1 σ.2.1 60 0 0 = nI b := h3
  have e : nDue σ = b := by unfold nDue; rw [h3]; exact nI_clamp (by omega)
  rw [e]
  exact ⟨h3, by omega⟩
def oneS (σ : zS) : zS := rtL 5 0 (duL (nDue (ckS σ)) (ckS σ))
theorem inv_oneS {σ : zS} (h : Inv σ.1 σ.2.1 σ.2.2) : Inv (oneS σ).1 (oneS σ).2.1 (oneS σ).2.2 := by
  have h1 := inv_duL (nDue (ckS σ)) (ckS σ) (inv_ckS h)
  have h2 := inv_rtL 5 0 (duL (nDue (ckS σ)) (ckS σ)) h1
  unfold oneS
  exact h2
def tiL : Nat → zS → zS
  | 0, σ => σ
  | n + 1, σ => tiL n (oneS σ)
/-- the tape -/
def tyB (word : Int64) (k : Nat) : Int32 := (word.toUInt64 >>> ((8 * nI k).toInt64.toUInt64 &&& Int64.toUInt64 63)).toInt64.toInt32
def tyL (word : Int64) : Nat → zM → zM
  | 0, M => M
  | k + 1, M => tyL word k (fPut M 62 (tyB word k))
def dn : Nat → Int32
  | 0 => -1
  | k + 1 => nI k
theorem dn_s (k : Nat) : nI k + (-1) = dn k := by
  cases k with
  | zero => rfl
  | succ k => exact pk_m1 k
theorem dn_p {n : Nat} (h : 0 < n) : nI n - 1 = dn n := by
  obtain ⟨z, rfl⟩ : ∃ z, n = z + 1 := ⟨n - 1, by omega⟩
  exact nI_pred z
def tyOk (M : zM) (x : Int32) : Int32 := if x < 1 then 0 else if 8 < x then 0 else if M 9 62 0 1 + x ≤ 40 then 1 else 0
def tyM (M : zM) (word : Int64) (x : Int32) : zM := if tyOk M x = 0 then M else tyL word x.toNatClampNeg M
theorem tyOk_n {x : Int32} (h1 : ¬ x < 1) (h2 : ¬ 8 < x) : ∃ n, 0 < n ∧ n ≤ 8 ∧ x = nI n := by
  have h0 : ¬ x < 0 := by
    rw [Int32.lt_iff_toInt_lt] at h1 ⊢
    rw [show (1 : Int32).toInt = 1 from rfl] at h1
    rw [Int32.toInt_zero]
    omega
  obtain ⟨j, hj, rfl⟩ := nI_of h0
  refine ⟨j, ?_, ?_, rfl⟩
  · rcases Nat.eq_zero_or_pos j with q | q
    · subst q; exact absurd (by decide) h1
    · exact q
  · rcases Nat.lt_or_ge 8 j with q | q
    · exact absurd (nI_lt (a := 8) (b := j) q hj) h2
    · exact q
set_option maxRecDepth 100000 in
set_option maxHeartbeats 4000000 in
theorem c_L_isRouter {l : Launch} {G : zG} {V : zV} (w : wC G V) (M : zM) (P : Nat → Nat) (D : Nat × Nat) (x : Int32) : zF l y_L_isRouter b_L_isRouter 1 (some .boolean) 0 0 G [.int x] (eC V M P D) (some (.int (lIsR x))) (eC V M P D) := by
  refine zF.ofZ (by decide) w.2.2.2.2 (Nat.le_of_ble_eq_true rfl) (fun X hXl hN hr C => ?_)
  subst hXl
  show Z X G (zA G) 1 _ (eC V M P D) 0 [(0, .int x)] []
  refine Z_iload_n C 0 d_L_isRouter_0 rfl rfl ?_
  refine Z_if_lt (tgt := 13) C d_L_isRouter_1 (by decide) (fun c1 => ?_) (fun c1 => ?_)
  · skip
    refine Z_iconst (v := 0) C d_L_isRouter_13 (by decide) ?_
    exact Z_zret C hN hr (by decide) d_L_isRouter_14 (by simp [lIsR, c1]) (zeq (rfl))
  · skip
    refine Z_iload_n C 0 d_L_isRouter_4 rfl rfl ?_
    refine Z_iconst (v := 5) C d_L_isRouter_5 (by decide) ?_
    refine Z_icmp_ge (tgt := 13) C d_L_isRouter_6 (by decide) (fun c6 => ?_) (fun c6 => ?_)
    · skip
      refine Z_iconst (v := 0) C d_L_isRouter_13 (by decide) ?_
      exact Z_zret C hN hr (by decide) d_L_isRouter_14 (by simp [lIsR, c1, c6]) (zeq (rfl))
    · skip
      refine Z_iconst (v := 1) C d_L_isRouter_9 (by decide) ?_
      refine Z_goto (tgt := 14) C d_L_isRouter_10 (by decide) ?_
      exact Z_zret C hN hr (by decide) d_L_isRouter_14 (by simp [lIsR, c1, c6]) (zeq (rfl))
set_option maxRecDepth 100000 in
set_option maxHeartbeats 4000000 in
theorem c_L_isRate {l : Launch} {G : zG} {V : zV} (w : wC G V) (M : zM) (P : Nat → Nat) (D : Nat × Nat) (x : Int32) : zF l y_L_isRate b_L_isRate 1 (some .boolean) 0 0 G [.int x] (eC V M P D) (some (.int (lRate x))) (eC V M P D) := by
  refine zF.ofZ (by decide) w.2.2.2.2 (Nat.le_of_ble_eq_true rfl) (fun X hXl hN hr C => ?_)
  subst hXl
  show Z X G (zA G) 1 _ (eC V M P D) 0 [(0, .int x)] []
  refine Z_iload_n C 0 d_L_isRate_0 rfl rfl ?_
  refine Z_iconst (v := 1) C d_L_isRate_1 (by decide) ?_
  refine Z_icmp_lt (tgt := 16) C d_L_isRate_2 (by decide) (fun c2 => ?_) (fun c2 => ?_)
  · skip
    refine Z_iconst (v := 0) C d_L_isRate_16 (by decide) ?_
    exact Z_zret C hN hr (by decide) d_L_isRate_17 (by simp [lRate, c2]) (zeq (rfl))
  · skip
    refine Z_iload_n C 0 d_L_isRate_5 rfl rfl ?_
    refine Z_sipush (v := 1000) C d_L_isRate_6 (by decide) ?_
    refine Z_icmp_gt (tgt := 16) C d_L_isRate_9 (by decide) (fun c9 => ?_) (fun c9 => ?_)
    · skip
      refine Z_iconst (v := 0) C d_L_isRate_16 (by decide) ?_
      exact Z_zret C hN hr (by decide) d_L_isRate_17 (by simp [lRate, c2, c9]) (zeq (rfl))
    · skip
      refine Z_iconst (v := 1) C d_L_isRate_12 (by decide) ?_
      refine Z_goto (tgt := 17) C d_L_isRate_13 (by decide) ?_
      exact Z_zret C hN hr (by decide) d_L_isRate_17 (by simp [lRate, c2, c9]) (zeq (rfl))
set_option maxRecDepth 100000 in
set_option maxHeartbeats 4000000 in
theorem c_L_flying {l : Launch} {G : zG} {V : zV} (w : wC G V) (M : zM) (P : Nat → Nat) (D : Nat × Nat)  : zF l y_L_flying b_L_flying 1 (some .int) 0 0 G [.ref (V.1 0 0 0)] (eC V M P D) (some (.int (M 6 0 0 2))) (eC V M P D) := by
  refine zF.ofZ (by decide) w.2.2.2.2 (Nat.le_of_ble_eq_true rfl) (fun X hXl hN hr C => ?_)
  subst hXl
  show Z X G (zA G) 1 _ (eC V M P D) 0 [(0, .ref (V.1 0 0 0))] []
  refine Z_aload_n C 0 d_L_flying_0 rfl rfl ?_
  refine C_gL C w 0 (by decide) fl_L_17 rfl rfl d_L_flying_1 ?_
  refine C_gW C w 2 (by decide) fl_L_169 rfl rfl d_L_flying_4 ?_
  exact Z_iret C hN hr d_L_flying_7 (rfl) (zeq (rfl))
set_option maxRecDepth 100000 in
set_option maxHeartbeats 4000000 in
theorem c_L_port {l : Launch} {G : zG} {V : zV} (w : wC G V) (M : zM) (P : Nat → Nat) (D : Nat × Nat) (x : Int32) : zF l y_L_port b_L_port 2 (some .int) 1 21 G [.ref (V.1 0 0 0), .int x] (eC V M P D) (some (.int (wPlace M x))) (eC V M P D) := by
  refine zF.ofZ (by decide) w.2.2.2.2 (Nat.le_of_ble_eq_true rfl) (fun X hXl hN hr C => ?_)
  subst hXl
  show Z X G (zA G) 2 _ (eC V M P D) 0 [(0, .ref (V.1 0 0 0)), (1, .int x)] []
  refine Z_aload_n C 0 d_L_port_0 rfl rfl ?_
  refine C_gL C w 0 (by decide) fl_L_17 rfl rfl d_L_port_1 ?_
  refine Z_iload_n C 1 d_L_port_4 rfl rfl ?_
  refine C_cWv C w mi_W_placeOf ml_L_166 (c_W_placeOf w _ _ _ _) rfl rfl (by decide) rfl (Nat.le_of_ble_eq_true rfl) d_L_port_5 ?_
  exact Z_iret C hN hr d_L_port_8 (rfl) (zeq (rfl))
set_option maxRecDepth 100000 in
set_option maxHeartbeats 4000000 in
theorem c_L_router {l : Launch} {G : zG} {V : zV} (w : wC G V) (M : zM) (P : Nat → Nat) (D : Nat × Nat) (x what : Int32) : zF l y_L_router b_L_router 3 (some .int) 2 43 G [.ref (V.1 0 0 0), .int x, .int what] (eC V M P D) (some (.int (lRouter M x what))) (eC V M P D) := by
  refine zF.ofZ (by decide) w.2.2.2.2 (Nat.le_of_ble_eq_true rfl) (fun X hXl hN hr C => ?_)
  subst hXl
  show Z X G (zA G) 3 _ (eC V M P D) 0 [(0, .ref (V.1 0 0 0)), (1, .int x), (2, .int what)] []
  refine Z_iload_n C 1 d_L_router_0 rfl rfl ?_
  refine C_csv C ms_L_isRouter ml_L_32 (c_L_isRouter w _ _ _ _) rfl (by decide) rfl (Nat.le_of_ble_eq_true rfl) d_L_router_1 ?_
  refine Z_if_eq (tgt := 20) C d_L_router_4 (by decide) (fun c4 => ?_) (fun c4 => ?_)
  · skip
    refine Z_iconst (v := (-1)) C d_L_router_20 (by decide) ?_
    exact Z_iret C hN hr d_L_router_21 (by simp [lRouter, c4]) (zeq (rfl))
  · have hr5 := lIsR_lt c4
    refine Z_aload_n C 0 d_L_router_7 rfl rfl ?_
    refine C_gL C w 1 (by decide) fl_L_21 rfl rfl d_L_router_8 ?_
    refine Z_iload_n C 1 d_L_router_11 rfl rfl ?_
    refine C_ldQ C w _ rfl (lIsR_in c4) d_L_router_12 ?_
    refine Z_iload_n C 2 d_L_router_13 rfl rfl ?_
    refine C_cRv C w (by assumption) mi_R_tell ml_L_161 (c_R_tell w _ _ _ _ (by assumption) _) rfl rfl (by decide) rfl (Nat.le_of_ble_eq_true rfl) d_L_router_14 ?_
    refine Z_goto (tgt := 21) C d_L_router_17 (by decide) ?_
    exact Z_iret C hN hr d_L_router_21 (by simp [lRouter, c4]) (zeq (rfl))
set_option maxRecDepth 100000 in
set_option maxHeartbeats 4000000 in
theorem c_L_session {l : Launch} {G : zG} {V : zV} (w : wC G V) (M : zM) (P : Nat → Nat) (D : Nat × Nat) (x y what : Int32) : zF l y_L_session b_L_session 5 (some .int) 1 21 G [.ref (V.1 0 0 0), .int x, .int y, .int what] (eC V M P D) (some (.int (lSession M x y what))) (eC V M P D) := by
  refine zF.ofZ (by decide) w.2.2.2.2 (Nat.le_of_ble_eq_true rfl) (fun X hXl hN hr C => ?_)
  subst hXl
  show Z X G (zA G) 5 _ (eC V M P D) 0 [(0, .ref (V.1 0 0 0)), (1, .int x), (2, .int y), (3, .int what)] []
  refine Z_iload_n C 1 d_L_session_0 rfl rfl ?_
  refine C_csv C ms_L_isRouter ml_L_32 (c_L_isRouter w _ _ _ _) rfl (by decide) rfl (Nat.le_of_ble_eq_true rfl) d_L_session_1 ?_
  refine Z_if_eq (tgt := 14) C d_L_session_4 (by decide) (fun c4 => ?_) (fun c4 => ?_)
  · skip
    refine Z_iconst (v := (-1)) C d_L_session_14 (by decide) ?_
    exact Z_iret C hN hr d_L_session_15 (by simp [lSession, c4]) (zeq (rfl))
  · have hr5 := lIsR_lt c4
    refine Z_iload_n C 2 d_L_session_7 rfl rfl ?_
    refine C_csv C ms_L_isRouter ml_L_32 (c_L_isRouter w _ _ _ _) rfl (by decide) rfl (Nat.le_of_ble_eq_true rfl) d_L_session_8 ?_
    refine Z_if_ne (tgt := 16) C d_L_session_11 (by decide) (fun c11 => ?_) (fun c11 => ?_)
    · have hs5 := lIsR_lt c11
      refine Z_aload_n C 0 d_L_session_16 rfl rfl ?_
      refine C_gL C w 1 (by decide) fl_L_21 rfl rfl d_L_session_17 ?_
      refine Z_iload_n C 1 d_L_session_20 rfl rfl ?_
      refine C_ldQ C w _ rfl (lIsR_in c4) d_L_session_21 ?_
      refine C_gR C w (by assumption) 3 (by decide) fl_L_87 rfl rfl d_L_session_22 ?_
      refine Z_iload_n C 2 d_L_session_25 rfl rfl ?_
      refine C_ldX C w (by assumption) _ rfl (lIsR_in c11) d_L_session_26 ?_
      refine Z_astore C d_L_session_27 (by decide) rfl ?_
      refine Z_aload C 0 d_L_session_29 rfl ?_
      refine C_gS C w (by assumption) (by assumption) 2 (by decide) fl_L_97 rfl rfl d_L_session_31 ?_
      refine Z_if_eq (tgt := 46) C d_L_session_34 (by decide) (fun c34 => ?_) (fun c34 => ?_)
      · skip
        refine Z_iconst (v := (-1)) C d_L_session_46 (by decide) ?_
        exact Z_iret C hN hr d_L_session_47 (by simp [lSession, c4, c11, c34]) (zeq (rfl))
      · skip
        refine Z_aload C 0 d_L_session_37 rfl ?_
        refine Z_iload_n C 4 d_L_session_39 rfl rfl ?_
        refine C_cSv C w (by assumption) (by assumption) mi_S_tell ml_L_165 (c_S_tell w _ _ _ _ _ (by assumption) (by assumption) _) rfl rfl (by decide) rfl (Nat.le_of_ble_eq_true rfl) d_L_session_40 ?_
        refine Z_goto (tgt := 47) C d_L_session_43 (by decide) ?_
        exact Z_iret C hN hr d_L_session_47 (by simp [lSession, c4, c11, c34]) (zeq (rfl))
    · skip
      refine Z_iconst (v := (-1)) C d_L_session_14 (by decide) ?_
      exact Z_iret C hN hr d_L_session_15 (by simp [lSession, c4, c11]) (zeq (rfl))
set_option maxRecDepth 100000 in
set_option maxHeartbeats 4000000 in
theorem c_L_frame {l : Launch} {G : zG} {V : zV} (w : wC G V) (M : zM) (P : Nat → Nat) (D : Nat × Nat) (hPP : ∀ n, n < 60 → P n < 63) (x y : Int32) : zF l y_L_frame b_L_frame 4 (some .int) 1 21 G [.ref (V.1 0 0 0), .int x, .int y] (eC V M P D) (some (.int (lFrame M P x y))) (eC V M P D) := by
  refine zF.ofZ (by decide) w.2.2.2.2 (Nat.le_of_ble_eq_true rfl) (fun X hXl hN hr C => ?_)
  subst hXl
  show Z X G (zA G) 4 _ (eC V M P D) 0 [(0, .ref (V.1 0 0 0)), (1, .int x), (2, .int y)] []
  refine Z_iload_n C 1 d_L_frame_0 rfl rfl ?_
  refine Z_if_lt (tgt := 21) C d_L_frame_1 (by decide) (fun c1 => ?_) (fun c1 => ?_)
  · skip
    refine Z_iconst (v := (-1)) C d_L_frame_21 (by decide) ?_
    exact Z_iret C hN hr d_L_frame_22 (by first | (simp [lFrame, c1]; done) | (unfold lFrame; rw [if_neg c1, if_neg c12, if_neg (not_not_intro c18)]; simp [c34]; done) | (simp only [List.forall_mem_nil, and_true] at c34; obtain ⟨a6, a5, a4, a3, a2, a1⟩ := c34; unfold lFrame; rw [if_neg c1, if_neg c12, if_neg (not_not_intro c18), if_neg a1, if_neg a2, if_neg a3, if_neg a4, if_neg a5, if_neg a6])) (zeq (rfl))
  · skip
    refine Z_iload_n C 1 d_L_frame_4 rfl rfl ?_
    refine Z_aload_n C 0 d_L_frame_5 rfl rfl ?_
    refine C_gL C w 0 (by decide) fl_L_17 rfl rfl d_L_frame_6 ?_
    refine C_gW C w 2 (by decide) fl_L_169 rfl rfl d_L_frame_9 ?_
    refine Z_icmp_ge (tgt := 21) C d_L_frame_12 (by decide) (fun c12 => ?_) (fun c12 => ?_)
    · skip
      refine Z_iconst (v := (-1)) C d_L_frame_21 (by decide) ?_
      exact Z_iret C hN hr d_L_frame_22 (by first | (simp [lFrame, c1, c12]; done) | (unfold lFrame; rw [if_neg c1, if_neg c12, if_neg (not_not_intro c18)]; simp [c34]; done) | (simp only [List.forall_mem_nil, and_true] at c34; obtain ⟨a6, a5, a4, a3, a2, a1⟩ := c34; unfold lFrame; rw [if_neg c1, if_neg c12, if_neg (not_not_intro c18), if_neg a1, if_neg a2, if_neg a3, if_neg a4, if_neg a5, if_neg a6])) (zeq (rfl))
    · skip
      refine Z_iload_n C 1 d_L_frame_15 rfl rfl ?_
      refine Z_bipush (v := 60) C d_L_frame_16 (by decide) ?_
      refine Z_icmp_lt (tgt := 23) C d_L_frame_18 (by decide) (fun c18 => ?_) (fun c18 => ?_)
      · have hv : vp_in x 60 := vp_inc c1 (Int32.not_le.mpr c18) rfl
        have hpx : P x.toNatClampNeg < 63 := hPP _ (Nat.not_le.mp fun q => hv (Or.inr q))
        refine Z_aload_n C 0 d_L_frame_23 rfl rfl ?_
        refine C_gL C w 0 (by decide) fl_L_17 rfl rfl d_L_frame_24 ?_
        refine C_gW C w 1 (by decide) fl_L_172 rfl rfl d_L_frame_27 ?_
        refine Z_iload_n C 1 d_L_frame_30 rfl rfl ?_
        refine C_ldY C w _ rfl hv d_L_frame_31 ?_
        refine Z_astore_n C d_L_frame_32 rfl (by decide) rfl ?_
        refine Z_iload_n C 3 d_L_frame_33 rfl rfl ?_
        refine Z_tsw C d_L_frame_34 [((-6), 105), ((-5), 100), ((-4), 95), ((-3), 90), ((-2), 85), ((-1), 72)] 110 (by decide +kernel) (by decide +kernel) (by decide) ?_ ?_
        · simp only [List.forall_mem_cons]
          refine ⟨fun c34 => ?_, fun c34 => ?_, fun c34 => ?_, fun c34 => ?_, fun c34 => ?_, fun c34 => ?_, fun _ h => absurd h List.not_mem_nil⟩
          · skip
            refine Z_aload_n C 0 d_L_frame_105 rfl rfl ?_
            refine C_gF C w (by assumption) 7 (by decide) fl_L_182 rfl rfl d_L_frame_106 ?_
            exact Z_iret C hN hr d_L_frame_109 (by first | (simp [lFrame, c1, c12, c18, c34]; done) | (unfold lFrame; rw [if_neg c1, if_neg c12, if_neg (not_not_intro c18)]; simp [c34]; done) | (simp only [List.forall_mem_nil, and_true] at c34; obtain ⟨a6, a5, a4, a3, a2, a1⟩ := c34; unfold lFrame; rw [if_neg c1, if_neg c12, if_neg (not_not_intro c18), if_neg a1, if_neg a2, if_neg a3, if_neg a4, if_neg a5, if_neg a6])) (zeq (rfl))
          · skip
            refine Z_aload_n C 0 d_L_frame_100 rfl rfl ?_
            refine C_gF C w (by assumption) 1 (by decide) fl_L_136 rfl rfl d_L_frame_101 ?_
            exact Z_iret C hN hr d_L_frame_104 (by first | (simp [lFrame, c1, c12, c18, c34]; done) | (unfold lFrame; rw [if_neg c1, if_neg c12, if_neg (not_not_intro c18)]; simp [c34]; done) | (simp only [List.forall_mem_nil, and_true] at c34; obtain ⟨a6, a5, a4, a3, a2, a1⟩ := c34; unfold lFrame; rw [if_neg c1, if_neg c12, if_neg (not_not_intro c18), if_neg a1, if_neg a2, if_neg a3, if_neg a4, if_neg a5, if_neg a6])) (zeq (rfl))
          · skip
            refine Z_aload_n C 0 d_L_frame_95 rfl rfl ?_
            refine C_gF C w (by assumption) 4 (by decide) fl_L_179 rfl rfl d_L_frame_96 ?_
            exact Z_iret C hN hr d_L_frame_99 (by first | (simp [lFrame, c1, c12, c18, c34]; done) | (unfold lFrame; rw [if_neg c1, if_neg c12, if_neg (not_not_intro c18)]; simp [c34]; done) | (simp only [List.forall_mem_nil, and_true] at c34; obtain ⟨a6, a5, a4, a3, a2, a1⟩ := c34; unfold lFrame; rw [if_neg c1, if_neg c12, if_neg (not_not_intro c18), if_neg a1, if_neg a2, if_neg a3, if_neg a4, if_neg a5, if_neg a6])) (zeq (rfl))
          · skip
            refine Z_aload_n C 0 d_L_frame_90 rfl rfl ?_
            refine C_gF C w (by assumption) 3 (by decide) fl_L_148 rfl rfl d_L_frame_91 ?_
            exact Z_iret C hN hr d_L_frame_94 (by first | (simp [lFrame, c1, c12, c18, c34]; done) | (unfold lFrame; rw [if_neg c1, if_neg c12, if_neg (not_not_intro c18)]; simp [c34]; done) | (simp only [List.forall_mem_nil, and_true] at c34; obtain ⟨a6, a5, a4, a3, a2, a1⟩ := c34; unfold lFrame; rw [if_neg c1, if_neg c12, if_neg (not_not_intro c18), if_neg a1, if_neg a2, if_neg a3, if_neg a4, if_neg a5, if_neg a6])) (zeq (rfl))
          · skip
            refine Z_aload_n C 0 d_L_frame_85 rfl rfl ?_
            refine C_gF C w (by assumption) 2 (by decide) fl_L_145 rfl rfl d_L_frame_86 ?_
            exact Z_iret C hN hr d_L_frame_89 (by first | (simp [lFrame, c1, c12, c18, c34]; done) | (unfold lFrame; rw [if_neg c1, if_neg c12, if_neg (not_not_intro c18)]; simp [c34]; done) | (simp only [List.forall_mem_nil, and_true] at c34; obtain ⟨a6, a5, a4, a3, a2, a1⟩ := c34; unfold lFrame; rw [if_neg c1, if_neg c12, if_neg (not_not_intro c18), if_neg a1, if_neg a2, if_neg a3, if_neg a4, if_neg a5, if_neg a6])) (zeq (rfl))
          · skip
            refine Z_aload_n C 0 d_L_frame_72 rfl rfl ?_
            refine C_gF C w (by assumption) 8 (by decide) fl_L_176 rfl rfl d_L_frame_73 ?_
            refine Z_aload_n C 1 d_L_frame_76 rfl rfl ?_
            refine C_gL C w 0 (by decide) fl_L_17 rfl rfl d_L_frame_77 ?_
            refine C_gW C w 3 (by decide) fl_L_118 rfl rfl d_L_frame_80 ?_
            refine Z_isub C d_L_frame_83 ?_
            exact Z_iret C hN hr d_L_frame_84 (by first | (simp [lFrame, c1, c12, c18, c34]; done) | (unfold lFrame; rw [if_neg c1, if_neg c12, if_neg (not_not_intro c18)]; simp [c34]; done) | (simp only [List.forall_mem_nil, and_true] at c34; obtain ⟨a6, a5, a4, a3, a2, a1⟩ := c34; unfold lFrame; rw [if_neg c1, if_neg c12, if_neg (not_not_intro c18), if_neg a1, if_neg a2, if_neg a3, if_neg a4, if_neg a5, if_neg a6])) (zeq (rfl))
        · intro c34
          simp only [List.forall_mem_cons] at c34
          refine Z_aload_n C 0 d_L_frame_110 rfl rfl ?_
          refine Z_iload_n C 3 d_L_frame_111 rfl rfl ?_
          refine C_cFv C w (by assumption) mi_F_byteAt ml_L_185 (c_F_byteAt w _ _ _ _ (by assumption) _) rfl rfl (by decide) rfl (Nat.le_of_ble_eq_true rfl) d_L_frame_112 ?_
          exact Z_iret C hN hr d_L_frame_115 (by first | (simp [lFrame, c1, c12, c18, c34]; done) | (unfold lFrame; rw [if_neg c1, if_neg c12, if_neg (not_not_intro c18)]; simp [c34]; done) | (simp only [List.forall_mem_nil, and_true] at c34; obtain ⟨a6, a5, a4, a3, a2, a1⟩ := c34; unfold lFrame; rw [if_neg c1, if_neg c12, if_neg (not_not_intro c18), if_neg a1, if_neg a2, if_neg a3, if_neg a4, if_neg a5, if_neg a6])) (zeq (rfl))
      · skip
        refine Z_iconst (v := (-1)) C d_L_frame_21 (by decide) ?_
        exact Z_iret C hN hr d_L_frame_22 (by first | (simp [lFrame, c1, c12, c18]; done) | (unfold lFrame; rw [if_neg c1, if_neg c12, if_neg (not_not_intro c18)]; simp [c34]; done) | (simp only [List.forall_mem_nil, and_true] at c34; obtain ⟨a6, a5, a4, a3, a2, a1⟩ := c34; unfold lFrame; rw [if_neg c1, if_neg c12, if_neg (not_not_intro c18), if_neg a1, if_neg a2, if_neg a3, if_neg a4, if_neg a5, if_neg a6])) (zeq (rfl))
set_option maxRecDepth 100000 in
set_option maxHeartbeats 4000000 in
theorem c_L_handOut {l : Launch} {G : zG} {V : zV} (w : wC G V) (M : zM) (P : Nat → Nat) (D : Nat × Nat) (k : Nat) (hk : k < 63) (hI : Inv M P D) : zF l y_L_handOut b_L_handOut 3 none 6 127 G [.ref (V.1 0 0 0), .ref (V.1 9 k 0)] (eC V M P D) none (eC V (hoS (M, P, D) k).1 (hoS (M, P, D) k).2.1 (hoS (M, P, D) k).2.2) := by
  refine zF.ofZ (by decide) w.2.2.2.2 (Nat.le_of_ble_eq_true rfl) (fun X hXl hN hr C => ?_)
  subst hXl
  show Z X G (zA G) 3 _ (eC V M P D) 0 [(0, .ref (V.1 0 0 0)), (1, .ref (V.1 9 k 0))] []
  refine Z_iconst (v := 0) C d_L_handOut_0 (by decide) ?_
  refine Z_istore_n C d_L_handOut_1 rfl (by decide) rfl ?_
  have hlp : ∀ (n r : Nat) (σ : zS), r + n = 5 → Inv σ.1 σ.2.1 σ.2.2 → hoL k n r σ = hoS (M, P, D) k → Z X G (zA G) 3 (zQ X G none (eC V (hoS (M, P, D) k).1 (hoS (M, P, D) k).2.1 (hoS (M, P, D) k).2.2)) (eC V σ.1 σ.2.1 σ.2.2) 2 [(2, .int (nI r)), (0, .ref (V.1 0 0 0)), (1, .ref (V.1 9 k 0))] [] := by
    intro n
    induction n with
    | zero =>
      intro r σ h1 h2 h3
      refine Z_iload_n C 0 d_L_handOut_2 rfl rfl ?_
      refine Z_iconst (v := 5) C d_L_handOut_3 (by decide) ?_
      refine Z_icmp_ge (tgt := 48) C d_L_handOut_4 (by decide) (fun c4 => ?_) (fun c4 => ?_)
      · skip
        exact Z_vret C hN hr d_L_handOut_48 rfl (zeq (by rw [← h3]; rfl))
      · exact absurd (nI_le (a := 5) (b := r) (by omega) (by omega)) c4 --stop
    | succ n ih =>
      intro r σ h1 h2 h3
      have hr5 : r < 5 := by omega
      refine Z_iload_n C 0 d_L_handOut_2 rfl rfl ?_
      refine Z_iconst (v := 5) C d_L_handOut_3 (by decide) ?_
      refine Z_icmp_ge (tgt := 48) C d_L_handOut_4 (by decide) (fun c4 => ?_) (fun c4 => ?_)
      · exact absurd c4 (nI_ge (a := r) (b := 5) (by omega) (by decide)) --stop
      · skip
        refine Z_aload_n C 2 d_L_handOut_7 rfl rfl ?_
        refine C_gF C w (by assumption) 7 (by decide) fl_L_182 rfl rfl d_L_handOut_8 ?_
        refine Z_iload_n C 0 d_L_handOut_11 rfl rfl ?_
        refine Z_ishr C d_L_handOut_12 ?_
        refine Z_iconst (v := 1) C d_L_handOut_13 (by decide) ?_
        refine Z_iand C d_L_handOut_14 ?_
        refine Z_if_eq (tgt := 42) C d_L_handOut_15 (by decide) (fun c15 => ?_) (fun c15 => ?_)
        · skip
          refine Z_iinc 0 C d_L_handOut_42 rfl (nI_1 r) (by decide) rfl ?_
          refine Z_goto (tgt := 2) C d_L_handOut_45 (by decide) ?_
          have hq := ih (r + 1) (hoStep k r σ) (by omega) (inv_hoStep h2) h3
          unfold hoStep at hq
          first | (rw [if_pos c15] at hq; exact hq) | (rw [if_neg c15, if_pos c28] at hq; exact hq) | (rw [if_neg c15, if_neg c28] at hq; exact hq)
        · skip
          refine Z_aload_n C 1 d_L_handOut_18 rfl rfl ?_
          refine C_gL C w 1 (by decide) fl_L_21 rfl rfl d_L_handOut_19 ?_
          refine Z_iload_n C 0 d_L_handOut_22 rfl rfl ?_
          refine C_ldQ C w r (nI_clamp (by omega)) (vp_in_nI (by omega) (by decide)) d_L_handOut_23 ?_
          refine Z_aload_n C 2 d_L_handOut_24 rfl rfl ?_
          refine C_cRv C w (by assumption) mi_R_minds ml_L_188 (c_R_minds w _ _ _ _ (by assumption) _ (by assumption)) rfl rfl (by decide) rfl (Nat.le_of_ble_eq_true rfl) d_L_handOut_25 ?_
          refine Z_if_eq (tgt := 42) C d_L_handOut_28 (by decide) (fun c28 => ?_) (fun c28 => ?_)
          · skip
            refine Z_iinc 0 C d_L_handOut_42 rfl (nI_1 r) (by decide) rfl ?_
            refine Z_goto (tgt := 2) C d_L_handOut_45 (by decide) ?_
            have hq := ih (r + 1) (hoStep k r σ) (by omega) (inv_hoStep h2) h3
            unfold hoStep at hq
            first | (rw [if_pos c15] at hq; exact hq) | (rw [if_neg c15, if_pos c28] at hq; exact hq) | (rw [if_neg c15, if_neg c28] at hq; exact hq)
          · skip
            refine Z_aload_n C 1 d_L_handOut_31 rfl rfl ?_
            refine C_gL C w 1 (by decide) fl_L_21 rfl rfl d_L_handOut_32 ?_
            refine Z_iload_n C 0 d_L_handOut_35 rfl rfl ?_
            refine C_ldQ C w r (nI_clamp (by omega)) (vp_in_nI (by omega) (by decide)) d_L_handOut_36 ?_
            refine Z_aload_n C 2 d_L_handOut_37 rfl rfl ?_
            refine C_cRv C w (by assumption) mi_R_hear ml_L_157 (c_R_hear w σ.1 σ.2.1 σ.2.2 r hr5 k hk h2) rfl rfl (by decide) rfl (Nat.le_of_ble_eq_true rfl) d_L_handOut_38 ?_
            refine Z_pop C d_L_handOut_41 rfl ?_
            refine Z_iinc 0 C d_L_handOut_42 rfl (nI_1 r) (by decide) rfl ?_
            refine Z_goto (tgt := 2) C d_L_handOut_45 (by decide) ?_
            have hq := ih (r + 1) (hoStep k r σ) (by omega) (inv_hoStep h2) h3
            unfold hoStep at hq
            first | (rw [if_pos c15] at hq; exact hq) | (rw [if_neg c15, if_pos c28] at hq; exact hq) | (rw [if_neg c15, if_neg c28] at hq; exact hq)
  exact hlp 5 0 (M, P, D) rfl hI rfl
set_option maxRecDepth 100000 in
set_option maxHeartbeats 4000000 in
theorem c_L_tick {l : Launch} {G : zG} {V : zV} (w : wC G V) (M : zM) (P : Nat → Nat) (D : Nat × Nat) (n : Nat) (hn1 : 1 ≤ n) (hn4 : n ≤ 400) (hI : Inv M P D) : zF l y_L_tick b_L_tick 5 (some .int) 7 149 G [.ref (V.1 0 0 0), .int (nI n)] (eC V M P D) (some (.int ((tiL n (M, P, D)).1 6 0 0 3))) (eC V (tiL n (M, P, D)).1 (tiL n (M, P, D)).2.1 (tiL n (M, P, D)).2.2) := by
  refine zF.ofZ (by decide) w.2.2.2.2 (Nat.le_of_ble_eq_true rfl) (fun X hXl hN hr C => ?_)
  subst hXl
  show Z X G (zA G) 5 _ (eC V M P D) 0 [(0, .ref (V.1 0 0 0)), (1, .int (nI n))] []
  refine Z_iload_n C 1 d_L_tick_0 rfl rfl ?_
  refine Z_iconst (v := 1) C d_L_tick_1 (by decide) ?_
  refine Z_icmp_lt (tgt := 12) C d_L_tick_2 (by decide) (fun c2 => ?_) (fun c2 => ?_)
  · exact absurd c2 (nI_nlt (a := n) (b := 1) (by omega) (by omega)) --stop
  · skip
    refine Z_iload_n C 1 d_L_tick_5 rfl rfl ?_
    refine Z_sipush (v := 400) C d_L_tick_6 (by decide) ?_
    refine Z_icmp_le (tgt := 22) C d_L_tick_9 (by decide) (fun c9 => ?_) (fun c9 => ?_)
    · skip
      refine Z_iconst (v := 0) C d_L_tick_22 (by decide) ?_
      refine Z_istore_n C d_L_tick_23 rfl (by decide) rfl ?_
      have hrt : ∀ (i : Nat) (due : Int32) (σ1 : zS), (∀ (x4 : Int32), Z X G (zA G) 5 (zQ X G (some (.int ((tiL n (M, P, D)).1 6 0 0 3))) (eC V (tiL n (M, P, D)).1 (tiL n (M, P, D)).2.1 (tiL n (M, P, D)).2.2)) (eC V σ1.1 σ1.2.1 σ1.2.2) 101 [(4, .int x4), (3, .int due), (2, .int (nI i)), (0, .ref (V.1 0 0 0)), (1, .int (nI n))] []) → ∀ (m r : Nat) (σ : zS), r + m = 5 → Inv σ.1 σ.2.1 σ.2.2 → rtL m r σ = σ1 → Z X G (zA G) 5 (zQ X G (some (.int ((tiL n (M, P, D)).1 6 0 0 3))) (eC V (tiL n (M, P, D)).1 (tiL n (M, P, D)).2.1 (tiL n (M, P, D)).2.2)) (eC V σ.1 σ.2.1 σ.2.2) 79 [(4, .int (nI r)), (3, .int due), (2, .int (nI i)), (0, .ref (V.1 0 0 0)), (1, .int (nI n))] [] := by
        intro i due σ1 hx m
        induction m with
        | zero =>
          intro r σ h1 h2 h3
          subst h3
          refine Z_iload C 0 d_L_tick_79 rfl ?_
          refine Z_iconst (v := 5) C d_L_tick_81 (by decide) ?_
          refine Z_icmp_ge (tgt := 101) C d_L_tick_82 (by decide) (fun c82 => ?_) (fun c82 => ?_)
          · skip
            exact hx _
          · exact absurd (nI_le (a := 5) (b := r) (by omega) (by omega)) c82 --stop
        | succ m ih =>
          intro r σ h1 h2 h3
          have hr5 : r < 5 := by omega
          refine Z_iload C 0 d_L_tick_79 rfl ?_
          refine Z_iconst (v := 5) C d_L_tick_81 (by decide) ?_
          refine Z_icmp_ge (tgt := 101) C d_L_tick_82 (by decide) (fun c82 => ?_) (fun c82 => ?_)
          · exact absurd c82 (nI_ge (a := r) (b := 5) (by omega) (by decide)) --stop
          · skip
            refine Z_aload_n C 3 d_L_tick_85 rfl rfl ?_
            refine C_gL C w 1 (by decide) fl_L_21 rfl rfl d_L_tick_86 ?_
            refine Z_iload C 0 d_L_tick_89 rfl ?_
            refine C_ldQ C w r (nI_clamp (by omega)) (vp_in_nI (by omega) (by decide)) d_L_tick_91 ?_
            refine C_cRn C w (by assumption) mi_R_runTimers ml_L_133 (c_R_runTimers w σ.1 σ.2.1 σ.2.2 r hr5 h2) rfl rfl (by decide) rfl (Nat.le_of_ble_eq_true rfl) d_L_tick_92 ?_
            refine Z_iinc 0 C d_L_tick_95 rfl (nI_1 r) (by decide) rfl ?_
            refine Z_goto (tgt := 79) C d_L_tick_98 (by decide) ?_
            exact ih (r + 1) (rtS σ r) (by omega) (Inv.rt h2) h3
      have hdu : ∀ (i d : Nat) (σ1 : zS), d ≤ 60 → (∀ (x4 : Int32), Z X G (zA G) 5 (zQ X G (some (.int ((tiL n (M, P, D)).1 6 0 0 3))) (eC V (tiL n (M, P, D)).1 (tiL n (M, P, D)).2.1 (tiL n (M, P, D)).2.2)) (eC V σ1.1 σ1.2.1 σ1.2.2) 76 [(4, .int x4), (3, .int (nI d)), (2, .int (nI i)), (0, .ref (V.1 0 0 0)), (1, .int (nI n))] []) → ∀ (m k : Nat) (σ : zS), k + m = d → Inv σ.1 σ.2.1 σ.2.2 → duL m σ = σ1 → Z X G (zA G) 5 (zQ X G (some (.int ((tiL n (M, P, D)).1 6 0 0 3))) (eC V (tiL n (M, P, D)).1 (tiL n (M, P, D)).2.1 (tiL n (M, P, D)).2.2)) (eC V σ.1 σ.2.1 σ.2.2) 53 [(4, .int (nI k)), (3, .int (nI d)), (2, .int (nI i)), (0, .ref (V.1 0 0 0)), (1, .int (nI n))] [] := by
        intro i d σ1 hd60 hx m
        induction m with
        | zero =>
          intro k σ h1 h2 h3
          subst h3
          refine Z_iload C 0 d_L_tick_53 rfl ?_
          refine Z_iload_n C 1 d_L_tick_55 rfl rfl ?_
          refine Z_icmp_ge (tgt := 76) C d_L_tick_56 (by decide) (fun c56 => ?_) (fun c56 => ?_)
          · skip
            exact hx _
          · exact absurd (nI_le (by omega) (by omega)) c56 --stop
        | succ m ih =>
          intro k σ h1 h2 h3
          obtain ⟨q1, q2, q3, q4, q5⟩ := id h2
          have h4 := inv_tkS h2
          refine Z_iload C 0 d_L_tick_53 rfl ?_
          refine Z_iload_n C 1 d_L_tick_55 rfl rfl ?_
          refine Z_icmp_ge (tgt := 76) C d_L_tick_56 (by decide) (fun c56 => ?_) (fun c56 => ?_)
          · exact absurd c56 (nI_ge (a := k) (b := d) (by omega) (by omega)) --stop
          · skip
            refine Z_aload_n C 3 d_L_tick_59 rfl rfl ?_
            refine Z_aload_n C 3 d_L_tick_60 rfl rfl ?_
            refine C_gL C w 0 (by decide) fl_L_17 rfl rfl d_L_tick_61 ?_
            refine C_cWv C w mi_W_takeDue ml_L_125 (c_W_takeDue w σ.1 σ.2.1 σ.2.2 (cnt σ.1) q4 q5 q3 q2) rfl rfl (by decide) rfl (Nat.le_of_ble_eq_true rfl) d_L_tick_64 ?_
            refine C_cLn C w mi_L_handOut ml_L_129 (c_L_handOut w _ _ _ (tkS σ).2.2.2 h4.2.1 h4) rfl rfl (by decide) rfl (Nat.le_of_ble_eq_true rfl) d_L_tick_67 ?_
            refine Z_iinc 0 C d_L_tick_70 rfl (nI_1 k) (by decide) rfl ?_
            refine Z_goto (tgt := 53) C d_L_tick_73 (by decide) ?_
            exact ih (k + 1) (hoS (tkS σ) (tkS σ).2.2.2) (by omega) (inv_hoL 5 0 _ h4) h3
      have hti : ∀ (m i : Nat) (σ : zS), i + m = n → Inv σ.1 σ.2.1 σ.2.2 → tiL m σ = tiL n (M, P, D) → ∀ (lv : List (Nat × Value)), lv_pick lv [0, 1, 2] = [(2, .int (nI i)), (0, .ref (V.1 0 0 0)), (1, .int (nI n))] → Z X G (zA G) 5 (zQ X G (some (.int ((tiL n (M, P, D)).1 6 0 0 3))) (eC V (tiL n (M, P, D)).1 (tiL n (M, P, D)).2.1 (tiL n (M, P, D)).2.2)) (eC V σ.1 σ.2.1 σ.2.2) 24 lv [] := by
        intro m
        induction m with
        | zero =>
          intro i σ h1 h2 h3 lv hlv
          refine zlv [0, 1, 2] hlv ?_
          refine Z_iload_n C 0 d_L_tick_24 rfl rfl ?_
          refine Z_iload_n C 2 d_L_tick_25 rfl rfl ?_
          refine Z_icmp_ge (tgt := 107) C d_L_tick_26 (by decide) (fun c26 => ?_) (fun c26 => ?_)
          · skip
            refine Z_aload_n C 1 d_L_tick_107 rfl rfl ?_
            refine C_gL C w 0 (by decide) fl_L_17 rfl rfl d_L_tick_108 ?_
            refine C_gW C w 3 (by decide) fl_L_118 rfl rfl d_L_tick_111 ?_
            exact Z_iret C hN hr d_L_tick_114 (by rw [← h3]; rfl) (zeq (by rw [← h3]; rfl))
          · exact absurd (nI_le (by omega) (by omega)) c26 --stop
        | succ m ih =>
          intro i σ h1 h2 h3 lv hlv
          refine zlv [0, 1, 2] hlv ?_
          obtain ⟨q1, q2, q3, q4, q5⟩ := id h2
          have e9 := nDue_eq (ckS σ)
          refine Z_iload_n C 0 d_L_tick_24 rfl rfl ?_
          refine Z_iload_n C 2 d_L_tick_25 rfl rfl ?_
          refine Z_icmp_ge (tgt := 107) C d_L_tick_26 (by decide) (fun c26 => ?_) (fun c26 => ?_)
          · exact absurd c26 (nI_ge (a := i) (b := n) (by omega) (by omega)) --stop
          · skip
            refine Z_aload_n C 1 d_L_tick_29 rfl rfl ?_
            refine C_gL C w 0 (by decide) fl_L_17 rfl rfl d_L_tick_30 ?_
            refine Z_dup C d_L_tick_33 rfl ?_
            refine C_gW C w 3 (by decide) fl_L_118 rfl rfl d_L_tick_34 ?_
            refine Z_iconst (v := 1) C d_L_tick_37 (by decide) ?_
            refine Z_iadd C d_L_tick_38 ?_
            refine C_pW C w 3 (by decide) fl_L_118 rfl rfl rfl rfl rfl d_L_tick_39 ?_
            refine Z_aload_n C 1 d_L_tick_42 rfl rfl ?_
            refine C_gL C w 0 (by decide) fl_L_17 rfl rfl d_L_tick_43 ?_
            refine C_cWv C w mi_W_countDue ml_L_121 (c_W_countDue w _ _ _ q3) rfl rfl (by decide) rfl (Nat.le_of_ble_eq_true rfl) d_L_tick_46 ?_
            refine zst (st' := [.int (nI (nDue (ckS σ)))]) (by rw [← e9.1]; rfl) ?_
            refine Z_istore_n C d_L_tick_49 rfl (by decide) rfl ?_
            refine Z_iconst (v := 0) C d_L_tick_50 (by decide) ?_
            refine Z_istore C d_L_tick_51 (by decide) rfl ?_
            refine hdu i (nDue (ckS σ)) (duL (nDue (ckS σ)) (ckS σ)) e9.2 (fun x4 => ?_) (nDue (ckS σ)) 0 (ckS σ) (by omega) (inv_ckS h2) rfl
            refine Z_iconst (v := 0) C d_L_tick_76 (by decide) ?_
            refine Z_istore C d_L_tick_77 (by decide) rfl ?_
            refine hrt i _ (oneS σ) (fun x4 => ?_) 5 0 (duL (nDue (ckS σ)) (ckS σ)) rfl (inv_duL _ _ (inv_ckS h2)) (by unfold oneS; rfl)
            refine zlv [2, 3, 4] (lv' := [(2, .int (nI i)), (0, .ref (V.1 0 0 0)), (1, .int (nI n))]) rfl ?_
            refine Z_iinc 0 C d_L_tick_101 rfl (nI_1 i) (by decide) rfl ?_
            refine Z_goto (tgt := 24) C d_L_tick_104 (by decide) ?_
            exact ih (i + 1) (oneS σ) (by omega) (inv_oneS h2) h3 _ rfl
      exact hti n 0 (M, P, D) (by omega) hI rfl _ rfl
    · exact absurd (nI_le (a := n) (b := 400) (by omega) (by omega)) c9 --stop
set_option maxRecDepth 100000 in
set_option maxHeartbeats 4000000 in
theorem c_L_type {l : Launch} {G : zG} {V : zV} (w : wC G V) (M : zM) (P : Nat → Nat) (D : Nat × Nat) (word : Int64) (x : Int32) : zF l y_L_type b_L_type 5 (some .boolean) 1 21 G [.ref (V.1 0 0 0), .long word, .int x] (eC V M P D) (some (.int (tyOk M x))) (eC V (tyM M word x) P D) := by
  refine zF.ofZ (by decide) w.2.2.2.2 (Nat.le_of_ble_eq_true rfl) (fun X hXl hN hr C => ?_)
  subst hXl
  show Z X G (zA G) 5 _ (eC V M P D) 0 [(0, .ref (V.1 0 0 0)), (1, .long word), (3, .int x)] []
  have h62 : 62 < 63 := by decide
  refine Z_iload_n C 2 d_L_type_0 rfl rfl ?_
  refine Z_iconst (v := 1) C d_L_type_1 (by decide) ?_
  refine Z_icmp_lt (tgt := 25) C d_L_type_2 (by decide) (fun c2 => ?_) (fun c2 => ?_)
  · skip
    refine Z_iconst (v := 0) C d_L_type_25 (by decide) ?_
    exact Z_zret C hN hr (by decide) d_L_type_26 (by simp [tyOk, c2]) (zeq (by apply eC_M; simp [tyM, tyOk, c2]))
  · skip
    refine Z_iload_n C 2 d_L_type_5 rfl rfl ?_
    refine Z_bipush (v := 8) C d_L_type_6 (by decide) ?_
    refine Z_icmp_gt (tgt := 25) C d_L_type_8 (by decide) (fun c8 => ?_) (fun c8 => ?_)
    · skip
      refine Z_iconst (v := 0) C d_L_type_25 (by decide) ?_
      exact Z_zret C hN hr (by decide) d_L_type_26 (by simp [tyOk, c2, c8]) (zeq (by apply eC_M; simp [tyM, tyOk, c2, c8]))
    · skip
      refine Z_aload_n C 0 d_L_type_11 rfl rfl ?_
      refine C_gL C w 2 (by decide) fl_L_28 rfl rfl d_L_type_12 ?_
      refine C_gF C w (by assumption) 1 (by decide) fl_L_136 rfl rfl d_L_type_15 ?_
      refine Z_iload_n C 2 d_L_type_18 rfl rfl ?_
      refine Z_iadd C d_L_type_19 ?_
      refine Z_bipush (v := 40) C d_L_type_20 (by decide) ?_
      refine Z_icmp_le (tgt := 27) C d_L_type_22 (by decide) (fun c22 => ?_) (fun c22 => ?_)
      · skip
        refine Z_iload_n C 2 d_L_type_27 rfl rfl ?_
        refine Z_iconst (v := 1) C d_L_type_28 (by decide) ?_
        refine Z_isub C d_L_type_29 ?_
        refine Z_istore C d_L_type_30 (by decide) rfl ?_
        have hlp : ∀ (k : Nat) (M1 : zM), k ≤ 8 → tyL word k M1 = tyM M word x → Z X G (zA G) 5 (zQ X G (some (.int (tyOk M x))) (eC V (tyM M word x) P D)) (eC V M1 P D) 32 [(4, .int (dn k)), (0, .ref (V.1 0 0 0)), (1, .long word), (3, .int x)] [] := by
          intro k
          induction k with
          | zero =>
            intro M1 hk8 h3
            refine Z_iload C 0 d_L_type_32 rfl ?_
            refine Z_if_lt (tgt := 58) C d_L_type_34 (by decide) (fun c34 => ?_) (fun c34 => ?_)
            · skip
              refine Z_iconst (v := 1) C d_L_type_58 (by decide) ?_
              exact Z_zret C hN hr (by decide) d_L_type_59 (by rw [tyOk, if_neg c2, if_neg c8, if_pos c22]) (zeq (by rw [← h3]; rfl))
            · exact absurd (by decide) c34 --stop
          | succ k ih =>
            intro M1 hk8 h3
            refine Z_iload C 0 d_L_type_32 rfl ?_
            refine Z_if_lt (tgt := 58) C d_L_type_34 (by decide) (fun c34 => ?_) (fun c34 => ?_)
            · exact absurd c34 (nI_pos (n := k) (by omega)) --stop
            · skip
              refine Z_aload_n C 1 d_L_type_37 rfl rfl ?_
              refine C_gL C w 2 (by decide) fl_L_28 rfl rfl d_L_type_38 ?_
              refine Z_lload_n C 2 d_L_type_41 rfl rfl ?_
              refine Z_bipush (v := 8) C d_L_type_42 (by decide) ?_
              refine Z_iload C 0 d_L_type_44 rfl ?_
              refine Z_imul C d_L_type_46 ?_
              refine Z_lushr C d_L_type_47 ?_
              refine Z_l2i C d_L_type_48 ?_
              refine C_cFn C w (by assumption) mi_F_put ml_L_139 (c_F_put w _ _ _ 62 (by decide) _) rfl rfl (by decide) rfl (Nat.le_of_ble_eq_true rfl) d_L_type_49 ?_
              refine Z_iinc 0 C d_L_type_52 rfl (dn_s k) (by decide) rfl ?_
              refine Z_goto (tgt := 32) C d_L_type_55 (by decide) ?_
              exact ih (fPut M1 62 (tyB word k)) (by omega) h3
        obtain ⟨n, hn1, hn2, hn3⟩ := tyOk_n c2 c8
        have hq := hlp n M hn2 (by rw [tyM, if_neg (by rw [tyOk, if_neg c2, if_neg c8, if_pos c22]; decide), hn3, nI_clamp (by omega)])
        rw [← dn_p hn1, ← hn3] at hq
        exact hq
      · skip
        refine Z_iconst (v := 0) C d_L_type_25 (by decide) ?_
        exact Z_zret C hN hr (by decide) d_L_type_26 (by simp [tyOk, c2, c8, c22]) (zeq (by apply eC_M; simp [tyM, tyOk, c2, c8, c22]))
end
section
/-! calls that may throw, where they don't -/
theorem lIsR_1 {r : Nat} (h : r < 5) : lIsR (nI r) = 1 := by
  unfold lIsR
  rw [if_neg (nI_pos (by omega)), if_neg (show ¬ (5 : Int32) ≤ nI r from nI_ge (a := r) (b := 5) h (by omega))]
theorem lIsR_ne {r : Nat} (h : r < 5) : ¬ lIsR (nI r) = 0 := by rw [lIsR_1 h]; decide
def stS (σ : zS) (r : Nat) (b : Int32) : zS := if b = 0 then (rForget (gbS σ r).1 r, (gbS σ r).2.1, (gbS σ r).2.2) else (rForget σ.1 r, σ.2.1, σ.2.2)
def chM (M : zM) (r s : Nat) (tx rx : Int32) : zM := if tx = 0 ∧ rx = 0 then rw4 M 5 r s (sShut (M 5 r s)) else rw4 M 5 r s (sWant (M 5 r s) tx rx)
def ar1 (M : zM) (kind station hops address : Int32) : zM := up (up (up (up M 9 62 0 2 kind) 9 62 0 3 station) 9 62 0 6 hops) 9 62 0 5 address
def arS (σ : zS) (r : Nat) (kind station hops address : Int32) : zS := (up (heS (ar1 σ.1 kind station hops address, σ.2.1, σ.2.2) r 62).1 9 62 0 1 0, (heS (ar1 σ.1 kind station hops address, σ.2.1, σ.2.2) r 62).2.1, (heS (ar1 σ.1 kind station hops address, σ.2.1, σ.2.2) r 62).2.2)
theorem heR_n (M : zM) (i k : Nat) : narrow .boolean (.int (heR M i k)) = .int (heR M i k) := by
  unfold heR
  split
  · split
    · decide
    · decide
  · split
    · exact hpR_n M i k
    · decide
set_option maxRecDepth 100000 in
set_option maxHeartbeats 4000000 in
theorem c_L_start {l : Launch} {G : zG} {V : zV} (w : wC G V) (M : zM) (P : Nat → Nat) (D : Nat × Nat) (r : Nat) (hr5 : r < 5) (hI : Inv M P D) (h0 : M 2 r 0 4 = 0) : zF l y_L_start b_L_start 2 none 5 108 G [.ref (V.1 0 0 0), .int (nI r)] (eC V M P D) none (eC V (wkS (M, P, D) r).1 (wkS (M, P, D) r).2.1 (wkS (M, P, D) r).2.2) := by
  refine zF.ofZ (by decide) w.2.2.2.2 (Nat.le_of_ble_eq_true rfl) (fun X hXl hN hr C => ?_)
  subst hXl
  show Z X G (zA G) 2 _ (eC V M P D) 0 [(0, .ref (V.1 0 0 0)), (1, .int (nI r))] []
  refine Z_iload_n C 1 d_L_start_0 rfl rfl ?_
  refine C_csv C ms_L_isRouter ml_L_32 (c_L_isRouter w _ _ _ _) rfl (by decide) rfl (Nat.le_of_ble_eq_true rfl) d_L_start_1 ?_
  refine Z_if_ne (tgt := 17) C d_L_start_4 (by decide) (fun c4 => ?_) (fun c4 => ?_)
  · skip
    refine Z_aload_n C 0 d_L_start_17 rfl rfl ?_
    refine C_gL C w 1 (by decide) fl_L_21 rfl rfl d_L_start_18 ?_
    refine Z_iload_n C 1 d_L_start_21 rfl rfl ?_
    refine C_ldQ C w r (nI_clamp (by omega)) (vp_in_nI (by omega) (by decide)) d_L_start_22 ?_
    refine C_gR C w (by assumption) 4 (by decide) fl_L_60 rfl rfl d_L_start_23 ?_
    refine Z_if_eq (tgt := 39) C d_L_start_26 (by decide) (fun c26 => ?_) (fun c26 => ?_)
    · skip
      refine Z_aload_n C 0 d_L_start_39 rfl rfl ?_
      refine C_gL C w 1 (by decide) fl_L_21 rfl rfl d_L_start_40 ?_
      refine Z_iload_n C 1 d_L_start_43 rfl rfl ?_
      refine C_ldQ C w r (nI_clamp (by omega)) (vp_in_nI (by omega) (by decide)) d_L_start_44 ?_
      refine C_cRn C w (by assumption) mi_R_wake ml_L_69 (c_R_wake w _ _ _ _ (by assumption) (by assumption)) rfl rfl (by decide) rfl (Nat.le_of_ble_eq_true rfl) d_L_start_45 ?_
      exact Z_vret C hN hr d_L_start_48 rfl (zeq (rfl))
    · exact absurd h0 c26 --stop
  · exact absurd c4 (lIsR_ne hr5) --stop
set_option maxRecDepth 100000 in
set_option maxHeartbeats 4000000 in
theorem c_L_stop {l : Launch} {G : zG} {V : zV} (w : wC G V) (M : zM) (P : Nat → Nat) (D : Nat × Nat) (r : Nat) (hr5 : r < 5) (hI : Inv M P D) (h0 : ¬ M 2 r 0 4 = 0) (b : Int32) : zF l y_L_stop b_L_stop 3 none 4 87 G [.ref (V.1 0 0 0), .int (nI r), .int b] (eC V M P D) none (eC V (stS (M, P, D) r b).1 (stS (M, P, D) r b).2.1 (stS (M, P, D) r b).2.2) := by
  refine zF.ofZ (by decide) w.2.2.2.2 (Nat.le_of_ble_eq_true rfl) (fun X hXl hN hr C => ?_)
  subst hXl
  show Z X G (zA G) 3 _ (eC V M P D) 0 [(0, .ref (V.1 0 0 0)), (1, .int (nI r)), (2, .int b)] []
  refine Z_iload_n C 1 d_L_stop_0 rfl rfl ?_
  refine C_csv C ms_L_isRouter ml_L_32 (c_L_isRouter w _ _ _ _) rfl (by decide) rfl (Nat.le_of_ble_eq_true rfl) d_L_stop_1 ?_
  refine Z_if_ne (tgt := 17) C d_L_stop_4 (by decide) (fun c4 => ?_) (fun c4 => ?_)
  · skip
    refine Z_aload_n C 0 d_L_stop_17 rfl rfl ?_
    refine C_gL C w 1 (by decide) fl_L_21 rfl rfl d_L_stop_18 ?_
    refine Z_iload_n C 1 d_L_stop_21 rfl rfl ?_
    refine C_ldQ C w r (nI_clamp (by omega)) (vp_in_nI (by omega) (by decide)) d_L_stop_22 ?_
    refine C_gR C w (by assumption) 4 (by decide) fl_L_60 rfl rfl d_L_stop_23 ?_
    refine Z_if_ne (tgt := 39) C d_L_stop_26 (by decide) (fun c26 => ?_) (fun c26 => ?_)
    · skip
      refine Z_iload_n C 2 d_L_stop_39 rfl rfl ?_
      refine Z_if_ne (tgt := 52) C d_L_stop_40 (by decide) (fun c40 => ?_) (fun c40 => ?_)
      · skip
        refine Z_aload_n C 0 d_L_stop_52 rfl rfl ?_
        refine C_gL C w 1 (by decide) fl_L_21 rfl rfl d_L_stop_53 ?_
        refine Z_iload_n C 1 d_L_stop_56 rfl rfl ?_
        refine C_ldQ C w r (nI_clamp (by omega)) (vp_in_nI (by omega) (by decide)) d_L_stop_57 ?_
        refine C_cRn C w (by assumption) mi_R_forgetAll ml_L_77 (c_R_forgetAll w _ _ _ _ (by assumption)) rfl rfl (by decide) rfl (Nat.le_of_ble_eq_true rfl) d_L_stop_58 ?_
        exact Z_vret C hN hr d_L_stop_61 rfl (zeq (by unfold stS; first | (rw [if_pos c40]; done) | (rw [if_neg c40]; done)))
      · skip
        refine Z_aload_n C 0 d_L_stop_43 rfl rfl ?_
        refine C_gL C w 1 (by decide) fl_L_21 rfl rfl d_L_stop_44 ?_
        refine Z_iload_n C 1 d_L_stop_47 rfl rfl ?_
        refine C_ldQ C w r (nI_clamp (by omega)) (vp_in_nI (by omega) (by decide)) d_L_stop_48 ?_
        refine C_cRn C w (by assumption) mi_R_sayGoodbye ml_L_74 (c_R_sayGoodbye w _ _ _ _ (by assumption) (by assumption)) rfl rfl (by decide) rfl (Nat.le_of_ble_eq_true rfl) d_L_stop_49 ?_
        refine Z_aload_n C 0 d_L_stop_52 rfl rfl ?_
        refine C_gL C w 1 (by decide) fl_L_21 rfl rfl d_L_stop_53 ?_
        refine Z_iload_n C 1 d_L_stop_56 rfl rfl ?_
        refine C_ldQ C w r (nI_clamp (by omega)) (vp_in_nI (by omega) (by decide)) d_L_stop_57 ?_
        refine C_cRn C w (by assumption) mi_R_forgetAll ml_L_77 (c_R_forgetAll w _ _ _ _ (by assumption)) rfl rfl (by decide) rfl (Nat.le_of_ble_eq_true rfl) d_L_stop_58 ?_
        exact Z_vret C hN hr d_L_stop_61 rfl (zeq (by unfold stS; first | (rw [if_pos c40]; done) | (rw [if_neg c40]; done)))
    · exact absurd c26 h0 --stop
  · exact absurd c4 (lIsR_ne hr5) --stop
set_option maxRecDepth 100000 in
set_option maxHeartbeats 4000000 in
theorem c_L_ask {l : Launch} {G : zG} {V : zV} (w : wC G V) (M : zM) (P : Nat → Nat) (D : Nat × Nat) (r : Nat) (hr5 : r < 5) (hI : Inv M P D) (h0 : ¬ M 2 r 0 4 = 0) : zF l y_L_ask b_L_ask 2 none 3 68 G [.ref (V.1 0 0 0), .int (nI r)] (eC V M P D) none (eC V (seS (M, P, D) r 3 r 15).1 (seS (M, P, D) r 3 r 15).2.1 (seS (M, P, D) r 3 r 15).2.2) := by
  refine zF.ofZ (by decide) w.2.2.2.2 (Nat.le_of_ble_eq_true rfl) (fun X hXl hN hr C => ?_)
  subst hXl
  show Z X G (zA G) 2 _ (eC V M P D) 0 [(0, .ref (V.1 0 0 0)), (1, .int (nI r))] []
  refine Z_iload_n C 1 d_L_ask_0 rfl rfl ?_
  refine C_csv C ms_L_isRouter ml_L_32 (c_L_isRouter w _ _ _ _) rfl (by decide) rfl (Nat.le_of_ble_eq_true rfl) d_L_ask_1 ?_
  refine Z_if_ne (tgt := 17) C d_L_ask_4 (by decide) (fun c4 => ?_) (fun c4 => ?_)
  · skip
    refine Z_aload_n C 0 d_L_ask_17 rfl rfl ?_
    refine C_gL C w 1 (by decide) fl_L_21 rfl rfl d_L_ask_18 ?_
    refine Z_iload_n C 1 d_L_ask_21 rfl rfl ?_
    refine C_ldQ C w r (nI_clamp (by omega)) (vp_in_nI (by omega) (by decide)) d_L_ask_22 ?_
    refine C_gR C w (by assumption) 4 (by decide) fl_L_60 rfl rfl d_L_ask_23 ?_
    refine Z_if_ne (tgt := 39) C d_L_ask_26 (by decide) (fun c26 => ?_) (fun c26 => ?_)
    · skip
      refine Z_aload_n C 0 d_L_ask_39 rfl rfl ?_
      refine C_gL C w 1 (by decide) fl_L_21 rfl rfl d_L_ask_40 ?_
      refine Z_iload_n C 1 d_L_ask_43 rfl rfl ?_
      refine C_ldQ C w r (nI_clamp (by omega)) (vp_in_nI (by omega) (by decide)) d_L_ask_44 ?_
      refine Z_iconst (v := 3) C d_L_ask_45 (by decide) ?_
      refine Z_iload_n C 1 d_L_ask_46 rfl rfl ?_
      refine Z_bipush (v := 15) C d_L_ask_47 (by decide) ?_
      refine C_cRn C w (by assumption) mi_R_sendEmpty ml_L_113 (c_R_sendEmpty w _ _ _ r hr5 3 r 15 (by omega) hI) rfl rfl (by decide) rfl (Nat.le_of_ble_eq_true rfl) d_L_ask_49 ?_
      exact Z_vret C hN hr d_L_ask_52 rfl (zeq (rfl))
    · exact absurd c26 h0 --stop
  · exact absurd c4 (lIsR_ne hr5) --stop
set_option maxRecDepth 100000 in
set_option maxHeartbeats 4000000 in
theorem c_L_open {l : Launch} {G : zG} {V : zV} (w : wC G V) (M : zM) (P : Nat → Nat) (D : Nat × Nat) (r : Nat) (hr5 : r < 5) (s : Nat) (hs5 : s < 5) (hrs : ¬ s = r) (h0 : ¬ M 2 r 0 4 = 0) (tx rx m : Int32) (htx : ¬ lRate tx = 0) (hrx : ¬ lRate rx = 0) (hm1 : ¬ m < 1) (hm2 : m ≤ 255) : zF l y_L_open b_L_open 6 none 4 85 G [.ref (V.1 0 0 0), .int (nI r), .int (nI s), .int tx, .int rx, .int m] (eC V M P D) none (eC V (rw4 M 5 r s (sBegin (M 5 r s) tx rx m)) P D) := by
  refine zF.ofZ (by decide) w.2.2.2.2 (Nat.le_of_ble_eq_true rfl) (fun X hXl hN hr C => ?_)
  subst hXl
  show Z X G (zA G) 6 _ (eC V M P D) 0 [(0, .ref (V.1 0 0 0)), (1, .int (nI r)), (2, .int (nI s)), (3, .int tx), (4, .int rx), (5, .int m)] []
  refine Z_iload_n C 1 d_L_open_0 rfl rfl ?_
  refine C_csv C ms_L_isRouter ml_L_32 (c_L_isRouter w _ _ _ _) rfl (by decide) rfl (Nat.le_of_ble_eq_true rfl) d_L_open_1 ?_
  refine Z_if_eq (tgt := 19) C d_L_open_4 (by decide) (fun c4 => ?_) (fun c4 => ?_)
  · exact absurd c4 (lIsR_ne hr5) --stop
  · skip
    refine Z_iload_n C 2 d_L_open_7 rfl rfl ?_
    refine C_csv C ms_L_isRouter ml_L_32 (c_L_isRouter w _ _ _ _) rfl (by decide) rfl (Nat.le_of_ble_eq_true rfl) d_L_open_8 ?_
    refine Z_if_eq (tgt := 19) C d_L_open_11 (by decide) (fun c11 => ?_) (fun c11 => ?_)
    · exact absurd c11 (lIsR_ne hs5) --stop
    · skip
      refine Z_iload_n C 2 d_L_open_14 rfl rfl ?_
      refine Z_iload_n C 1 d_L_open_15 rfl rfl ?_
      refine Z_icmp_ne (tgt := 29) C d_L_open_16 (by decide) (fun c16 => ?_) (fun c16 => ?_)
      · skip
        refine Z_aload_n C 0 d_L_open_29 rfl rfl ?_
        refine C_gL C w 1 (by decide) fl_L_21 rfl rfl d_L_open_30 ?_
        refine Z_iload_n C 1 d_L_open_33 rfl rfl ?_
        refine C_ldQ C w r (nI_clamp (by omega)) (vp_in_nI (by omega) (by decide)) d_L_open_34 ?_
        refine C_gR C w (by assumption) 4 (by decide) fl_L_60 rfl rfl d_L_open_35 ?_
        refine Z_if_ne (tgt := 51) C d_L_open_38 (by decide) (fun c38 => ?_) (fun c38 => ?_)
        · skip
          refine Z_iload_n C 3 d_L_open_51 rfl rfl ?_
          refine C_csv C ms_L_isRate ml_L_82 (c_L_isRate w _ _ _ _) rfl (by decide) rfl (Nat.le_of_ble_eq_true rfl) d_L_open_52 ?_
          refine Z_if_eq (tgt := 80) C d_L_open_55 (by decide) (fun c55 => ?_) (fun c55 => ?_)
          · exact absurd c55 htx --stop
          · skip
            refine Z_iload C 4 d_L_open_58 rfl ?_
            refine C_csv C ms_L_isRate ml_L_82 (c_L_isRate w _ _ _ _) rfl (by decide) rfl (Nat.le_of_ble_eq_true rfl) d_L_open_60 ?_
            refine Z_if_eq (tgt := 80) C d_L_open_63 (by decide) (fun c63 => ?_) (fun c63 => ?_)
            · exact absurd c63 hrx --stop
            · skip
              refine Z_iload C 5 d_L_open_66 rfl ?_
              refine Z_iconst (v := 1) C d_L_open_68 (by decide) ?_
              refine Z_icmp_lt (tgt := 80) C d_L_open_69 (by decide) (fun c69 => ?_) (fun c69 => ?_)
              · exact absurd c69 hm1 --stop
              · skip
                refine Z_iload C 5 d_L_open_72 rfl ?_
                refine Z_sipush (v := 255) C d_L_open_74 (by decide) ?_
                refine Z_icmp_le (tgt := 90) C d_L_open_77 (by decide) (fun c77 => ?_) (fun c77 => ?_)
                · skip
                  refine Z_aload_n C 0 d_L_open_90 rfl rfl ?_
                  refine C_gL C w 1 (by decide) fl_L_21 rfl rfl d_L_open_91 ?_
                  refine Z_iload_n C 1 d_L_open_94 rfl rfl ?_
                  refine C_ldQ C w r (nI_clamp (by omega)) (vp_in_nI (by omega) (by decide)) d_L_open_95 ?_
                  refine C_gR C w (by assumption) 3 (by decide) fl_L_87 rfl rfl d_L_open_96 ?_
                  refine Z_iload_n C 2 d_L_open_99 rfl rfl ?_
                  refine C_ldX C w (by assumption) s (nI_clamp (by omega)) (vp_in_nI (by omega) (by decide)) d_L_open_100 ?_
                  refine Z_iload_n C 3 d_L_open_101 rfl rfl ?_
                  refine Z_iload C 4 d_L_open_102 rfl ?_
                  refine Z_iload C 5 d_L_open_104 rfl ?_
                  refine C_cSn C w (by assumption) (by assumption) mi_S_begin ml_L_91 (c_S_begin w _ _ _ _ _ (by assumption) (by assumption) _ _ _) rfl rfl (by decide) rfl (Nat.le_of_ble_eq_true rfl) d_L_open_106 ?_
                  exact Z_vret C hN hr d_L_open_109 rfl (zeq (rfl))
                · exact absurd hm2 c77 --stop
        · exact absurd c38 h0 --stop
      · exact absurd ((nI_eq (by omega) (by omega)).mp c16) hrs --stop
set_option maxRecDepth 100000 in
set_option maxHeartbeats 4000000 in
theorem c_L_change {l : Launch} {G : zG} {V : zV} (w : wC G V) (M : zM) (P : Nat → Nat) (D : Nat × Nat) (r : Nat) (hr5 : r < 5) (s : Nat) (hs5 : s < 5) (h0 : ¬ M 5 r s 2 = 0) (h1 : ¬ M 5 r s 3 = 0) (tx rx : Int32) (hok : (tx = 0 ∧ rx = 0) ∨ (¬ lRate tx = 0 ∧ ¬ lRate rx = 0)) : zF l y_L_change b_L_change 7 none 5 105 G [.ref (V.1 0 0 0), .int (nI r), .int (nI s), .int tx, .int rx] (eC V M P D) none (eC V (chM M r s tx rx) P D) := by
  refine zF.ofZ (by decide) w.2.2.2.2 (Nat.le_of_ble_eq_true rfl) (fun X hXl hN hr C => ?_)
  subst hXl
  show Z X G (zA G) 7 _ (eC V M P D) 0 [(0, .ref (V.1 0 0 0)), (1, .int (nI r)), (2, .int (nI s)), (3, .int tx), (4, .int rx)] []
  refine Z_iload_n C 1 d_L_change_0 rfl rfl ?_
  refine C_csv C ms_L_isRouter ml_L_32 (c_L_isRouter w _ _ _ _) rfl (by decide) rfl (Nat.le_of_ble_eq_true rfl) d_L_change_1 ?_
  refine Z_if_eq (tgt := 14) C d_L_change_4 (by decide) (fun c4 => ?_) (fun c4 => ?_)
  · exact absurd c4 (lIsR_ne hr5) --stop
  · skip
    refine Z_iload_n C 2 d_L_change_7 rfl rfl ?_
    refine C_csv C ms_L_isRouter ml_L_32 (c_L_isRouter w _ _ _ _) rfl (by decide) rfl (Nat.le_of_ble_eq_true rfl) d_L_change_8 ?_
    refine Z_if_ne (tgt := 24) C d_L_change_11 (by decide) (fun c11 => ?_) (fun c11 => ?_)
    · skip
      refine Z_aload_n C 0 d_L_change_24 rfl rfl ?_
      refine C_gL C w 1 (by decide) fl_L_21 rfl rfl d_L_change_25 ?_
      refine Z_iload_n C 1 d_L_change_28 rfl rfl ?_
      refine C_ldQ C w r (nI_clamp (by omega)) (vp_in_nI (by omega) (by decide)) d_L_change_29 ?_
      refine C_gR C w (by assumption) 3 (by decide) fl_L_87 rfl rfl d_L_change_30 ?_
      refine Z_iload_n C 2 d_L_change_33 rfl rfl ?_
      refine C_ldX C w (by assumption) s (nI_clamp (by omega)) (vp_in_nI (by omega) (by decide)) d_L_change_34 ?_
      refine Z_astore C d_L_change_35 (by decide) rfl ?_
      refine Z_aload C 0 d_L_change_37 rfl ?_
      refine C_gS C w (by assumption) (by assumption) 2 (by decide) fl_L_97 rfl rfl d_L_change_39 ?_
      refine Z_if_eq (tgt := 53) C d_L_change_42 (by decide) (fun c42 => ?_) (fun c42 => ?_)
      · exact absurd c42 h0 --stop
      · skip
        refine Z_aload C 0 d_L_change_45 rfl ?_
        refine C_gS C w (by assumption) (by assumption) 3 (by decide) fl_L_101 rfl rfl d_L_change_47 ?_
        refine Z_if_ne (tgt := 63) C d_L_change_50 (by decide) (fun c50 => ?_) (fun c50 => ?_)
        · skip
          refine Z_iload_n C 4 d_L_change_63 rfl rfl ?_
          refine Z_if_ne (tgt := 76) C d_L_change_64 (by decide) (fun c64 => ?_) (fun c64 => ?_)
          · skip
            refine Z_iconst (v := 0) C d_L_change_76 (by decide) ?_
            refine Z_istore C d_L_change_77 (by decide) rfl ?_
            refine Z_iload C 0 d_L_change_79 rfl ?_
            refine Z_if_ne (tgt := 109) C d_L_change_81 (by decide) (fun c81 => ?_) (fun c81 => ?_)
            · exact absurd rfl c81
            · skip
              refine Z_iload_n C 5 d_L_change_84 rfl rfl ?_
              refine C_csv C ms_L_isRate ml_L_82 (c_L_isRate w _ _ _ _) rfl (by decide) rfl (Nat.le_of_ble_eq_true rfl) d_L_change_85 ?_
              refine Z_if_eq (tgt := 99) C d_L_change_88 (by decide) (fun c88 => ?_) (fun c88 => ?_)
              · exact absurd c88 (hok.resolve_left (by intro z; first | exact c64 z.1 | exact c69 z.2)).1 --stop
              · skip
                refine Z_iload C 6 d_L_change_91 rfl ?_
                refine C_csv C ms_L_isRate ml_L_82 (c_L_isRate w _ _ _ _) rfl (by decide) rfl (Nat.le_of_ble_eq_true rfl) d_L_change_93 ?_
                refine Z_if_ne (tgt := 109) C d_L_change_96 (by decide) (fun c96 => ?_) (fun c96 => ?_)
                · skip
                  refine Z_iload C 0 d_L_change_109 rfl ?_
                  refine Z_if_eq (tgt := 122) C d_L_change_111 (by decide) (fun c111 => ?_) (fun c111 => ?_)
                  · skip
                    refine Z_aload C 1 d_L_change_122 rfl ?_
                    refine Z_iload_n C 5 d_L_change_124 rfl rfl ?_
                    refine Z_iload C 6 d_L_change_125 rfl ?_
                    refine C_cSn C w (by assumption) (by assumption) mi_S_wantRates ml_L_109 (c_S_wantRates w _ _ _ _ _ (by assumption) (by assumption) _ _) rfl rfl (by decide) rfl (Nat.le_of_ble_eq_true rfl) d_L_change_127 ?_
                    exact Z_vret C hN hr d_L_change_130 rfl (zeq (by apply eC_M; unfold chM; first | (rw [if_pos ⟨c64, c69⟩]; done) | (rw [if_neg (fun z => c64 z.1)]; done) | (rw [if_neg (fun z => c69 z.2)]; done)))
                  · exact absurd rfl c111
                · exact absurd c96 (hok.resolve_left (by intro z; first | exact c64 z.1 | exact c69 z.2)).2 --stop
          · skip
            refine Z_iload C 5 d_L_change_67 rfl ?_
            refine Z_if_ne (tgt := 76) C d_L_change_69 (by decide) (fun c69 => ?_) (fun c69 => ?_)
            · skip
              refine Z_iconst (v := 0) C d_L_change_76 (by decide) ?_
              refine Z_istore C d_L_change_77 (by decide) rfl ?_
              refine Z_iload C 0 d_L_change_79 rfl ?_
              refine Z_if_ne (tgt := 109) C d_L_change_81 (by decide) (fun c81 => ?_) (fun c81 => ?_)
              · exact absurd rfl c81
              · skip
                refine Z_iload_n C 5 d_L_change_84 rfl rfl ?_
                refine C_csv C ms_L_isRate ml_L_82 (c_L_isRate w _ _ _ _) rfl (by decide) rfl (Nat.le_of_ble_eq_true rfl) d_L_change_85 ?_
                refine Z_if_eq (tgt := 99) C d_L_change_88 (by decide) (fun c88 => ?_) (fun c88 => ?_)
                · exact absurd c88 (hok.resolve_left (by intro z; first | exact c64 z.1 | exact c69 z.2)).1 --stop
                · skip
                  refine Z_iload C 6 d_L_change_91 rfl ?_
                  refine C_csv C ms_L_isRate ml_L_82 (c_L_isRate w _ _ _ _) rfl (by decide) rfl (Nat.le_of_ble_eq_true rfl) d_L_change_93 ?_
                  refine Z_if_ne (tgt := 109) C d_L_change_96 (by decide) (fun c96 => ?_) (fun c96 => ?_)
                  · skip
                    refine Z_iload C 0 d_L_change_109 rfl ?_
                    refine Z_if_eq (tgt := 122) C d_L_change_111 (by decide) (fun c111 => ?_) (fun c111 => ?_)
                    · skip
                      refine Z_aload C 1 d_L_change_122 rfl ?_
                      refine Z_iload_n C 5 d_L_change_124 rfl rfl ?_
                      refine Z_iload C 6 d_L_change_125 rfl ?_
                      refine C_cSn C w (by assumption) (by assumption) mi_S_wantRates ml_L_109 (c_S_wantRates w _ _ _ _ _ (by assumption) (by assumption) _ _) rfl rfl (by decide) rfl (Nat.le_of_ble_eq_true rfl) d_L_change_127 ?_
                      exact Z_vret C hN hr d_L_change_130 rfl (zeq (by apply eC_M; unfold chM; first | (rw [if_pos ⟨c64, c69⟩]; done) | (rw [if_neg (fun z => c64 z.1)]; done) | (rw [if_neg (fun z => c69 z.2)]; done)))
                    · exact absurd rfl c111
                  · exact absurd c96 (hok.resolve_left (by intro z; first | exact c64 z.1 | exact c69 z.2)).2 --stop
            · skip
              refine Z_iconst (v := 1) C d_L_change_72 (by decide) ?_
              refine Z_goto (tgt := 77) C d_L_change_73 (by decide) ?_
              refine Z_istore C d_L_change_77 (by decide) rfl ?_
              refine Z_iload C 0 d_L_change_79 rfl ?_
              refine Z_if_ne (tgt := 109) C d_L_change_81 (by decide) (fun c81 => ?_) (fun c81 => ?_)
              · skip
                refine Z_iload C 0 d_L_change_109 rfl ?_
                refine Z_if_eq (tgt := 122) C d_L_change_111 (by decide) (fun c111 => ?_) (fun c111 => ?_)
                · exact absurd c111 (by decide)
                · skip
                  refine Z_aload C 1 d_L_change_114 rfl ?_
                  refine C_cSn C w (by assumption) (by assumption) mi_S_shut ml_L_106 (c_S_shut w _ _ _ _ _ (by assumption) (by assumption)) rfl rfl (by decide) rfl (Nat.le_of_ble_eq_true rfl) d_L_change_116 ?_
                  refine Z_goto (tgt := 130) C d_L_change_119 (by decide) ?_
                  exact Z_vret C hN hr d_L_change_130 rfl (zeq (by apply eC_M; unfold chM; first | (rw [if_pos ⟨c64, c69⟩]; done) | (rw [if_neg (fun z => c64 z.1)]; done) | (rw [if_neg (fun z => c69 z.2)]; done)))
              · exact absurd c81 (by decide)
        · exact absurd c50 h1 --stop
    · exact absurd c11 (lIsR_ne hs5) --stop
set_option maxRecDepth 100000 in
set_option maxHeartbeats 4000000 in
theorem c_L_arrive {l : Launch} {G : zG} {V : zV} (w : wC G V) (M : zM) (P : Nat → Nat) (D : Nat × Nat) (r : Nat) (hr5 : r < 5) (hI : Inv M P D) (h0 : ¬ M 2 r 0 4 = 0) (kind station hops address : Int32) (hk : kind = 1 ∨ kind = 2) (hs1 : ¬ station < 0) (hs2 : ¬ 15 ≤ station) (hh1 : ¬ hops < 0) (hh2 : hops ≤ 255) : zF l y_L_arrive b_L_arrive 7 (some .boolean) 6 127 G [.ref (V.1 0 0 0), .int (nI r), .int kind, .int station, .int hops, .int address] (eC V M P D) (some (.int (heR (ar1 M kind station hops address) r 62))) (eC V (arS (M, P, D) r kind station hops address).1 (arS (M, P, D) r kind station hops address).2.1 (arS (M, P, D) r kind station hops address).2.2) := by
  refine zF.ofZ (by decide) w.2.2.2.2 (Nat.le_of_ble_eq_true rfl) (fun X hXl hN hr C => ?_)
  subst hXl
  show Z X G (zA G) 7 _ (eC V M P D) 0 [(0, .ref (V.1 0 0 0)), (1, .int (nI r)), (2, .int kind), (3, .int station), (4, .int hops), (5, .int address)] []
  have h62 : 62 < 63 := by decide
  refine Z_iload_n C 1 d_L_arrive_0 rfl rfl ?_
  refine C_csv C ms_L_isRouter ml_L_32 (c_L_isRouter w _ _ _ _) rfl (by decide) rfl (Nat.le_of_ble_eq_true rfl) d_L_arrive_1 ?_
  refine Z_if_ne (tgt := 17) C d_L_arrive_4 (by decide) (fun c4 => ?_) (fun c4 => ?_)
  · skip
    refine Z_iload_n C 2 d_L_arrive_17 rfl rfl ?_
    refine Z_iconst (v := 1) C d_L_arrive_18 (by decide) ?_
    refine Z_icmp_eq (tgt := 27) C d_L_arrive_19 (by decide) (fun c19 => ?_) (fun c19 => ?_)
    · skip
      refine Z_iload_n C 3 d_L_arrive_27 rfl rfl ?_
      refine Z_if_lt (tgt := 50) C d_L_arrive_28 (by decide) (fun c28 => ?_) (fun c28 => ?_)
      · exact absurd c28 hs1 --stop
      · skip
        refine Z_iload_n C 3 d_L_arrive_31 rfl rfl ?_
        refine Z_bipush (v := 15) C d_L_arrive_32 (by decide) ?_
        refine Z_icmp_ge (tgt := 50) C d_L_arrive_34 (by decide) (fun c34 => ?_) (fun c34 => ?_)
        · exact absurd c34 hs2 --stop
        · skip
          refine Z_iload C 4 d_L_arrive_37 rfl ?_
          refine Z_if_lt (tgt := 50) C d_L_arrive_39 (by decide) (fun c39 => ?_) (fun c39 => ?_)
          · exact absurd c39 hh1 --stop
          · skip
            refine Z_iload C 4 d_L_arrive_42 rfl ?_
            refine Z_sipush (v := 255) C d_L_arrive_44 (by decide) ?_
            refine Z_icmp_le (tgt := 60) C d_L_arrive_47 (by decide) (fun c47 => ?_) (fun c47 => ?_)
            · skip
              refine Z_aload_n C 0 d_L_arrive_60 rfl rfl ?_
              refine C_gL C w 1 (by decide) fl_L_21 rfl rfl d_L_arrive_61 ?_
              refine Z_iload_n C 1 d_L_arrive_64 rfl rfl ?_
              refine C_ldQ C w r (nI_clamp (by omega)) (vp_in_nI (by omega) (by decide)) d_L_arrive_65 ?_
              refine C_gR C w (by assumption) 4 (by decide) fl_L_60 rfl rfl d_L_arrive_66 ?_
              refine Z_if_ne (tgt := 82) C d_L_arrive_69 (by decide) (fun c69 => ?_) (fun c69 => ?_)
              · skip
                refine Z_aload_n C 0 d_L_arrive_82 rfl rfl ?_
                refine C_gL C w 2 (by decide) fl_L_28 rfl rfl d_L_arrive_83 ?_
                refine Z_iload_n C 2 d_L_arrive_86 rfl rfl ?_
                refine C_pF C w (by assumption) 2 (by decide) fl_L_145 rfl rfl rfl rfl rfl d_L_arrive_87 ?_
                refine Z_aload_n C 0 d_L_arrive_90 rfl rfl ?_
                refine C_gL C w 2 (by decide) fl_L_28 rfl rfl d_L_arrive_91 ?_
                refine Z_iload_n C 3 d_L_arrive_94 rfl rfl ?_
                refine C_pF C w (by assumption) 3 (by decide) fl_L_148 rfl rfl rfl rfl rfl d_L_arrive_95 ?_
                refine Z_aload_n C 0 d_L_arrive_98 rfl rfl ?_
                refine C_gL C w 2 (by decide) fl_L_28 rfl rfl d_L_arrive_99 ?_
                refine Z_iload C 4 d_L_arrive_102 rfl ?_
                refine C_pF C w (by assumption) 6 (by decide) fl_L_151 rfl rfl rfl rfl rfl d_L_arrive_104 ?_
                refine Z_aload_n C 0 d_L_arrive_107 rfl rfl ?_
                refine C_gL C w 2 (by decide) fl_L_28 rfl rfl d_L_arrive_108 ?_
                refine Z_iload C 5 d_L_arrive_111 rfl ?_
                refine C_pF C w (by assumption) 5 (by decide) fl_L_154 rfl rfl rfl rfl rfl d_L_arrive_113 ?_
                refine Z_aload_n C 0 d_L_arrive_116 rfl rfl ?_
                refine C_gL C w 1 (by decide) fl_L_21 rfl rfl d_L_arrive_117 ?_
                refine Z_iload_n C 1 d_L_arrive_120 rfl rfl ?_
                refine C_ldQ C w r (nI_clamp (by omega)) (vp_in_nI (by omega) (by decide)) d_L_arrive_121 ?_
                refine Z_aload_n C 0 d_L_arrive_122 rfl rfl ?_
                refine C_gL C w 2 (by decide) fl_L_28 rfl rfl d_L_arrive_123 ?_
                refine C_cRv C w (by assumption) mi_R_hear ml_L_157 (c_R_hear w (ar1 M kind station hops address) _ _ r hr5 62 h62 (hI.of rfl)) rfl rfl (by decide) rfl (Nat.le_of_ble_eq_true rfl) d_L_arrive_126 ?_
                refine Z_istore C d_L_arrive_129 (by decide) rfl ?_
                refine Z_aload_n C 1 d_L_arrive_131 rfl rfl ?_
                refine C_gL C w 2 (by decide) fl_L_28 rfl rfl d_L_arrive_132 ?_
                refine Z_iconst (v := 0) C d_L_arrive_135 (by decide) ?_
                refine C_pF C w (by assumption) 1 (by decide) fl_L_136 rfl rfl rfl rfl rfl d_L_arrive_136 ?_
                refine Z_iload C 0 d_L_arrive_139 rfl ?_
                exact Z_zret C hN hr (heR_n _ _ _) d_L_arrive_141 (rfl) (zeq (rfl))
              · exact absurd c69 h0 --stop
            · exact absurd hh2 c47 --stop
    · skip
      refine Z_iload_n C 2 d_L_arrive_22 rfl rfl ?_
      refine Z_iconst (v := 2) C d_L_arrive_23 (by decide) ?_
      refine Z_icmp_ne (tgt := 50) C d_L_arrive_24 (by decide) (fun c24 => ?_) (fun c24 => ?_)
      · exact absurd (hk.resolve_left c19) c24 --stop
      · skip
        refine Z_iload_n C 3 d_L_arrive_27 rfl rfl ?_
        refine Z_if_lt (tgt := 50) C d_L_arrive_28 (by decide) (fun c28 => ?_) (fun c28 => ?_)
        · exact absurd c28 hs1 --stop
        · skip
          refine Z_iload_n C 3 d_L_arrive_31 rfl rfl ?_
          refine Z_bipush (v := 15) C d_L_arrive_32 (by decide) ?_
          refine Z_icmp_ge (tgt := 50) C d_L_arrive_34 (by decide) (fun c34 => ?_) (fun c34 => ?_)
          · exact absurd c34 hs2 --stop
          · skip
            refine Z_iload C 4 d_L_arrive_37 rfl ?_
            refine Z_if_lt (tgt := 50) C d_L_arrive_39 (by decide) (fun c39 => ?_) (fun c39 => ?_)
            · exact absurd c39 hh1 --stop
            · skip
              refine Z_iload C 4 d_L_arrive_42 rfl ?_
              refine Z_sipush (v := 255) C d_L_arrive_44 (by decide) ?_
              refine Z_icmp_le (tgt := 60) C d_L_arrive_47 (by decide) (fun c47 => ?_) (fun c47 => ?_)
              · skip
                refine Z_aload_n C 0 d_L_arrive_60 rfl rfl ?_
                refine C_gL C w 1 (by decide) fl_L_21 rfl rfl d_L_arrive_61 ?_
                refine Z_iload_n C 1 d_L_arrive_64 rfl rfl ?_
                refine C_ldQ C w r (nI_clamp (by omega)) (vp_in_nI (by omega) (by decide)) d_L_arrive_65 ?_
                refine C_gR C w (by assumption) 4 (by decide) fl_L_60 rfl rfl d_L_arrive_66 ?_
                refine Z_if_ne (tgt := 82) C d_L_arrive_69 (by decide) (fun c69 => ?_) (fun c69 => ?_)
                · skip
                  refine Z_aload_n C 0 d_L_arrive_82 rfl rfl ?_
                  refine C_gL C w 2 (by decide) fl_L_28 rfl rfl d_L_arrive_83 ?_
                  refine Z_iload_n C 2 d_L_arrive_86 rfl rfl ?_
                  refine C_pF C w (by assumption) 2 (by decide) fl_L_145 rfl rfl rfl rfl rfl d_L_arrive_87 ?_
                  refine Z_aload_n C 0 d_L_arrive_90 rfl rfl ?_
                  refine C_gL C w 2 (by decide) fl_L_28 rfl rfl d_L_arrive_91 ?_
                  refine Z_iload_n C 3 d_L_arrive_94 rfl rfl ?_
                  refine C_pF C w (by assumption) 3 (by decide) fl_L_148 rfl rfl rfl rfl rfl d_L_arrive_95 ?_
                  refine Z_aload_n C 0 d_L_arrive_98 rfl rfl ?_
                  refine C_gL C w 2 (by decide) fl_L_28 rfl rfl d_L_arrive_99 ?_
                  refine Z_iload C 4 d_L_arrive_102 rfl ?_
                  refine C_pF C w (by assumption) 6 (by decide) fl_L_151 rfl rfl rfl rfl rfl d_L_arrive_104 ?_
                  refine Z_aload_n C 0 d_L_arrive_107 rfl rfl ?_
                  refine C_gL C w 2 (by decide) fl_L_28 rfl rfl d_L_arrive_108 ?_
                  refine Z_iload C 5 d_L_arrive_111 rfl ?_
                  refine C_pF C w (by assumption) 5 (by decide) fl_L_154 rfl rfl rfl rfl rfl d_L_arrive_113 ?_
                  refine Z_aload_n C 0 d_L_arrive_116 rfl rfl ?_
                  refine C_gL C w 1 (by decide) fl_L_21 rfl rfl d_L_arrive_117 ?_
                  refine Z_iload_n C 1 d_L_arrive_120 rfl rfl ?_
                  refine C_ldQ C w r (nI_clamp (by omega)) (vp_in_nI (by omega) (by decide)) d_L_arrive_121 ?_
                  refine Z_aload_n C 0 d_L_arrive_122 rfl rfl ?_
                  refine C_gL C w 2 (by decide) fl_L_28 rfl rfl d_L_arrive_123 ?_
                  refine C_cRv C w (by assumption) mi_R_hear ml_L_157 (c_R_hear w (ar1 M kind station hops address) _ _ r hr5 62 h62 (hI.of rfl)) rfl rfl (by decide) rfl (Nat.le_of_ble_eq_true rfl) d_L_arrive_126 ?_
                  refine Z_istore C d_L_arrive_129 (by decide) rfl ?_
                  refine Z_aload_n C 1 d_L_arrive_131 rfl rfl ?_
                  refine C_gL C w 2 (by decide) fl_L_28 rfl rfl d_L_arrive_132 ?_
                  refine Z_iconst (v := 0) C d_L_arrive_135 (by decide) ?_
                  refine C_pF C w (by assumption) 1 (by decide) fl_L_136 rfl rfl rfl rfl rfl d_L_arrive_136 ?_
                  refine Z_iload C 0 d_L_arrive_139 rfl ?_
                  exact Z_zret C hN hr (heR_n _ _ _) d_L_arrive_141 (rfl) (zeq (rfl))
                · exact absurd c69 h0 --stop
              · exact absurd hh2 c47 --stop
  · exact absurd c4 (lIsR_ne hr5) --stop
end
