section
-- ===== PART A: goes FIRST, ahead of the names: the tables' words, and 'selects' of the private methods out of them =====
/-- a private method of a class that the tables say can be made, by its rows of tables_1 -/
def lw_okq (q : MethodName × Nat) : Prop := (q.1.cls ≠ "java/lang/invoke/MethodHandle" ∧ q.1.cls ≠ "java/lang/invoke/VarHandle") ∧ Cond.instantiable q.1.cls q.2 ∈ tables_1 ∧ Cond.privateMethod q.1 ∈ tables_1 ∧ Cond.instanceMethod q.1 ∈ tables_1
theorem lw_p0 : lw_okq (⟨"StandInLan$Router", "weighed", "()I"⟩, 11) := ⟨⟨by decide +kernel, by decide +kernel⟩, List.mem_of_getElem? (i := 104) (by decide +kernel), List.mem_of_getElem? (i := 258) (by decide +kernel), List.mem_of_getElem? (i := 259) (by decide +kernel)⟩
theorem lw_p1 : lw_okq (⟨"java/lang/Throwable", "fillInStackTrace", "(I)Ljava/lang/Throwable;"⟩, 6) := ⟨⟨by decide +kernel, by decide +kernel⟩, List.mem_of_getElem? (i := 341) (by decide +kernel), List.mem_of_getElem? (i := 339) (by decide +kernel), List.mem_of_getElem? (i := 340) (by decide +kernel)⟩
theorem lw_p2 : lw_okq (⟨"StandInLan$Router", "becomeActive", "()V"⟩, 11) := ⟨⟨by decide +kernel, by decide +kernel⟩, List.mem_of_getElem? (i := 104) (by decide +kernel), List.mem_of_getElem? (i := 416) (by decide +kernel), List.mem_of_getElem? (i := 417) (by decide +kernel)⟩
theorem lw_p3 : lw_okq (⟨"StandInLan$Router", "advertise", "(I)V"⟩, 11) := ⟨⟨by decide +kernel, by decide +kernel⟩, List.mem_of_getElem? (i := 104) (by decide +kernel), List.mem_of_getElem? (i := 420) (by decide +kernel), List.mem_of_getElem? (i := 421) (by decide +kernel)⟩
theorem lw_p4 : lw_okq (⟨"StandInLan$Router", "sendDraft", "()V"⟩, 11) := ⟨⟨by decide +kernel, by decide +kernel⟩, List.mem_of_getElem? (i := 104) (by decide +kernel), List.mem_of_getElem? (i := 449) (by decide +kernel), List.mem_of_getElem? (i := 450) (by decide +kernel)⟩
theorem lw_p5 : lw_okq (⟨"StandInLan$Router", "becomeBackup", "()V"⟩, 11) := ⟨⟨by decide +kernel, by decide +kernel⟩, List.mem_of_getElem? (i := 104) (by decide +kernel), List.mem_of_getElem? (i := 461) (by decide +kernel), List.mem_of_getElem? (i := 462) (by decide +kernel)⟩
theorem lw_p6 : lw_okq (⟨"StandInLan$Router", "skew", "()I"⟩, 11) := ⟨⟨by decide +kernel, by decide +kernel⟩, List.mem_of_getElem? (i := 104) (by decide +kernel), List.mem_of_getElem? (i := 465) (by decide +kernel), List.mem_of_getElem? (i := 466) (by decide +kernel)⟩
theorem lw_p7 : lw_okq (⟨"StandInLan$Session", "useRates", "()V"⟩, 19) := ⟨⟨by decide +kernel, by decide +kernel⟩, List.mem_of_getElem? (i := 113) (by decide +kernel), List.mem_of_getElem? (i := 501) (by decide +kernel), List.mem_of_getElem? (i := 502) (by decide +kernel)⟩
theorem lw_p8 : lw_okq (⟨"StandInLan", "handOut", "(LStandInLan$Frame;)V"⟩, 3) := ⟨⟨by decide +kernel, by decide +kernel⟩, List.mem_of_getElem? (i := 15) (by decide +kernel), List.mem_of_getElem? (i := 564) (by decide +kernel), List.mem_of_getElem? (i := 565) (by decide +kernel)⟩
theorem lw_p9 : lw_okq (⟨"StandInLan$Router", "isForUs", "(LStandInLan$Frame;)Z"⟩, 11) := ⟨⟨by decide +kernel, by decide +kernel⟩, List.mem_of_getElem? (i := 104) (by decide +kernel), List.mem_of_getElem? (i := 576) (by decide +kernel), List.mem_of_getElem? (i := 577) (by decide +kernel)⟩
theorem lw_p10 : lw_okq (⟨"StandInLan$Router", "hearAsActive", "(LStandInLan$Frame;)V"⟩, 11) := ⟨⟨by decide +kernel, by decide +kernel⟩, List.mem_of_getElem? (i := 104) (by decide +kernel), List.mem_of_getElem? (i := 588) (by decide +kernel), List.mem_of_getElem? (i := 589) (by decide +kernel)⟩
theorem lw_p11 : lw_okq (⟨"StandInLan$Router", "hearAsBackup", "(LStandInLan$Frame;)V"⟩, 11) := ⟨⟨by decide +kernel, by decide +kernel⟩, List.mem_of_getElem? (i := 104) (by decide +kernel), List.mem_of_getElem? (i := 604) (by decide +kernel), List.mem_of_getElem? (i := 605) (by decide +kernel)⟩
theorem lw_p12 : lw_okq (⟨"StandInLan$Router", "hearPacket", "(LStandInLan$Frame;)Z"⟩, 11) := ⟨⟨by decide +kernel, by decide +kernel⟩, List.mem_of_getElem? (i := 104) (by decide +kernel), List.mem_of_getElem? (i := 608) (by decide +kernel), List.mem_of_getElem? (i := 609) (by decide +kernel)⟩
theorem lw_p13 : lw_okq (⟨"StandInLan$Router", "sessionMeant", "(LStandInLan$Frame;)LStandInLan$Session;"⟩, 11) := ⟨⟨by decide +kernel, by decide +kernel⟩, List.mem_of_getElem? (i := 104) (by decide +kernel), List.mem_of_getElem? (i := 615) (by decide +kernel), List.mem_of_getElem? (i := 616) (by decide +kernel)⟩
theorem lw_p14 : lw_okq (⟨"StandInLan$Session", "follow", "()V"⟩, 19) := ⟨⟨by decide +kernel, by decide +kernel⟩, List.mem_of_getElem? (i := 113) (by decide +kernel), List.mem_of_getElem? (i := 630) (by decide +kernel), List.mem_of_getElem? (i := 631) (by decide +kernel)⟩
theorem lw_p15 : lw_okq (⟨"StandInLan$Session", "fall", "(I)V"⟩, 19) := ⟨⟨by decide +kernel, by decide +kernel⟩, List.mem_of_getElem? (i := 113) (by decide +kernel), List.mem_of_getElem? (i := 634) (by decide +kernel), List.mem_of_getElem? (i := 635) (by decide +kernel)⟩
def lw_privs_1 : List (MethodName × Nat) := [(⟨"StandInLan$Router", "weighed", "()I"⟩, 11), (⟨"java/lang/Throwable", "fillInStackTrace", "(I)Ljava/lang/Throwable;"⟩, 6), (⟨"StandInLan$Router", "becomeActive", "()V"⟩, 11), (⟨"StandInLan$Router", "advertise", "(I)V"⟩, 11), (⟨"StandInLan$Router", "sendDraft", "()V"⟩, 11), (⟨"StandInLan$Router", "becomeBackup", "()V"⟩, 11), (⟨"StandInLan$Router", "skew", "()I"⟩, 11), (⟨"StandInLan$Session", "useRates", "()V"⟩, 19), (⟨"StandInLan", "handOut", "(LStandInLan$Frame;)V"⟩, 3), (⟨"StandInLan$Router", "isForUs", "(LStandInLan$Frame;)Z"⟩, 11), (⟨"StandInLan$Router", "hearAsActive", "(LStandInLan$Frame;)V"⟩, 11), (⟨"StandInLan$Router", "hearAsBackup", "(LStandInLan$Frame;)V"⟩, 11), (⟨"StandInLan$Router", "hearPacket", "(LStandInLan$Frame;)Z"⟩, 11), (⟨"StandInLan$Router", "sessionMeant", "(LStandInLan$Frame;)LStandInLan$Session;"⟩, 11), (⟨"StandInLan$Session", "follow", "()V"⟩, 19), (⟨"StandInLan$Session", "fall", "(I)V"⟩, 19)]
theorem lw_r1 : ∀ q ∈ lw_privs_1, lw_okq q := List.forall_mem_cons.mpr ⟨lw_p0, List.forall_mem_cons.mpr ⟨lw_p1, List.forall_mem_cons.mpr ⟨lw_p2, List.forall_mem_cons.mpr ⟨lw_p3, List.forall_mem_cons.mpr ⟨lw_p4, List.forall_mem_cons.mpr ⟨lw_p5, List.forall_mem_cons.mpr ⟨lw_p6, List.forall_mem_cons.mpr ⟨lw_p7, List.forall_mem_cons.mpr ⟨lw_p8, List.forall_mem_cons.mpr ⟨lw_p9, List.forall_mem_cons.mpr ⟨lw_p10, List.forall_mem_cons.mpr ⟨lw_p11, List.forall_mem_cons.mpr ⟨lw_p12, List.forall_mem_cons.mpr ⟨lw_p13, List.forall_mem_cons.mpr ⟨lw_p14, List.forall_mem_cons.mpr ⟨lw_p15, fun _ h => absurd h List.not_mem_nil⟩⟩⟩⟩⟩⟩⟩⟩⟩⟩⟩⟩⟩⟩⟩⟩
theorem lw_p16 : lw_okq (⟨"StandInLan$Session", "comeUp", "()V"⟩, 19) := ⟨⟨by decide +kernel, by decide +kernel⟩, List.mem_of_getElem? (i := 113) (by decide +kernel), List.mem_of_getElem? (i := 638) (by decide +kernel), List.mem_of_getElem? (i := 639) (by decide +kernel)⟩
theorem lw_p17 : lw_okq (⟨"StandInLan$Router", "sendPacket", "(LStandInLan$Session;I)V"⟩, 11) := ⟨⟨by decide +kernel, by decide +kernel⟩, List.mem_of_getElem? (i := 104) (by decide +kernel), List.mem_of_getElem? (i := 642) (by decide +kernel), List.mem_of_getElem? (i := 643) (by decide +kernel)⟩
theorem lw_p18 : lw_okq (⟨"StandInLan$Router", "timerFires", "()V"⟩, 11) := ⟨⟨by decide +kernel, by decide +kernel⟩, List.mem_of_getElem? (i := 104) (by decide +kernel), List.mem_of_getElem? (i := 652) (by decide +kernel), List.mem_of_getElem? (i := 653) (by decide +kernel)⟩
theorem lw_p19 : lw_okq (⟨"StandInLan$Router", "runSession", "(LStandInLan$Session;)V"⟩, 11) := ⟨⟨by decide +kernel, by decide +kernel⟩, List.mem_of_getElem? (i := 104) (by decide +kernel), List.mem_of_getElem? (i := 656) (by decide +kernel), List.mem_of_getElem? (i := 657) (by decide +kernel)⟩
theorem lw_p20 : lw_okq (⟨"StandInLanModel", "is", "(II)I"⟩, 43) := ⟨⟨by decide +kernel, by decide +kernel⟩, List.mem_of_getElem? (i := 677) (by decide +kernel), List.mem_of_getElem? (i := 834) (by decide +kernel), List.mem_of_getElem? (i := 835) (by decide +kernel)⟩
theorem lw_p21 : lw_okq (⟨"StandInLanModel", "weighed", "(I)I"⟩, 43) := ⟨⟨by decide +kernel, by decide +kernel⟩, List.mem_of_getElem? (i := 677) (by decide +kernel), List.mem_of_getElem? (i := 838) (by decide +kernel), List.mem_of_getElem? (i := 839) (by decide +kernel)⟩
theorem lw_p22 : lw_okq (⟨"StandInLanModel", "beActive", "(I)V"⟩, 43) := ⟨⟨by decide +kernel, by decide +kernel⟩, List.mem_of_getElem? (i := 677) (by decide +kernel), List.mem_of_getElem? (i := 845) (by decide +kernel), List.mem_of_getElem? (i := 846) (by decide +kernel)⟩
theorem lw_p23 : lw_okq (⟨"StandInLanModel", "advertise", "(II)V"⟩, 43) := ⟨⟨by decide +kernel, by decide +kernel⟩, List.mem_of_getElem? (i := 677) (by decide +kernel), List.mem_of_getElem? (i := 849) (by decide +kernel), List.mem_of_getElem? (i := 850) (by decide +kernel)⟩
theorem lw_p24 : lw_okq (⟨"StandInLanModel", "put", "(I)V"⟩, 43) := ⟨⟨by decide +kernel, by decide +kernel⟩, List.mem_of_getElem? (i := 677) (by decide +kernel), List.mem_of_getElem? (i := 853) (by decide +kernel), List.mem_of_getElem? (i := 854) (by decide +kernel)⟩
theorem lw_p25 : lw_okq (⟨"StandInLanModel", "putMany", "(II)V"⟩, 43) := ⟨⟨by decide +kernel, by decide +kernel⟩, List.mem_of_getElem? (i := 677) (by decide +kernel), List.mem_of_getElem? (i := 857) (by decide +kernel), List.mem_of_getElem? (i := 858) (by decide +kernel)⟩
theorem lw_p26 : lw_okq (⟨"StandInLanModel", "send", "(IIII)V"⟩, 43) := ⟨⟨by decide +kernel, by decide +kernel⟩, List.mem_of_getElem? (i := 677) (by decide +kernel), List.mem_of_getElem? (i := 869) (by decide +kernel), List.mem_of_getElem? (i := 870) (by decide +kernel)⟩
theorem lw_p27 : lw_okq (⟨"StandInLanModel", "beBackup", "(I)V"⟩, 43) := ⟨⟨by decide +kernel, by decide +kernel⟩, List.mem_of_getElem? (i := 677) (by decide +kernel), List.mem_of_getElem? (i := 873) (by decide +kernel), List.mem_of_getElem? (i := 874) (by decide +kernel)⟩
theorem lw_p28 : lw_okq (⟨"StandInLanModel", "skew", "(I)I"⟩, 43) := ⟨⟨by decide +kernel, by decide +kernel⟩, List.mem_of_getElem? (i := 677) (by decide +kernel), List.mem_of_getElem? (i := 877) (by decide +kernel), List.mem_of_getElem? (i := 878) (by decide +kernel)⟩
theorem lw_p29 : lw_okq (⟨"StandInLanModel", "setSend", "(I)V"⟩, 43) := ⟨⟨by decide +kernel, by decide +kernel⟩, List.mem_of_getElem? (i := 677) (by decide +kernel), List.mem_of_getElem? (i := 896) (by decide +kernel), List.mem_of_getElem? (i := 897) (by decide +kernel)⟩
theorem lw_p30 : lw_okq (⟨"StandInLanModel", "sendTime", "(I)I"⟩, 43) := ⟨⟨by decide +kernel, by decide +kernel⟩, List.mem_of_getElem? (i := 677) (by decide +kernel), List.mem_of_getElem? (i := 900) (by decide +kernel), List.mem_of_getElem? (i := 901) (by decide +kernel)⟩
theorem lw_p31 : lw_okq (⟨"StandInLanModel", "hurry", "(I)V"⟩, 43) := ⟨⟨by decide +kernel, by decide +kernel⟩, List.mem_of_getElem? (i := 677) (by decide +kernel), List.mem_of_getElem? (i := 908) (by decide +kernel), List.mem_of_getElem? (i := 909) (by decide +kernel)⟩
def lw_privs_2 : List (MethodName × Nat) := [(⟨"StandInLan$Session", "comeUp", "()V"⟩, 19), (⟨"StandInLan$Router", "sendPacket", "(LStandInLan$Session;I)V"⟩, 11), (⟨"StandInLan$Router", "timerFires", "()V"⟩, 11), (⟨"StandInLan$Router", "runSession", "(LStandInLan$Session;)V"⟩, 11), (⟨"StandInLanModel", "is", "(II)I"⟩, 43), (⟨"StandInLanModel", "weighed", "(I)I"⟩, 43), (⟨"StandInLanModel", "beActive", "(I)V"⟩, 43), (⟨"StandInLanModel", "advertise", "(II)V"⟩, 43), (⟨"StandInLanModel", "put", "(I)V"⟩, 43), (⟨"StandInLanModel", "putMany", "(II)V"⟩, 43), (⟨"StandInLanModel", "send", "(IIII)V"⟩, 43), (⟨"StandInLanModel", "beBackup", "(I)V"⟩, 43), (⟨"StandInLanModel", "skew", "(I)I"⟩, 43), (⟨"StandInLanModel", "setSend", "(I)V"⟩, 43), (⟨"StandInLanModel", "sendTime", "(I)I"⟩, 43), (⟨"StandInLanModel", "hurry", "(I)V"⟩, 43)]
theorem lw_r2 : ∀ q ∈ lw_privs_2, lw_okq q := List.forall_mem_cons.mpr ⟨lw_p16, List.forall_mem_cons.mpr ⟨lw_p17, List.forall_mem_cons.mpr ⟨lw_p18, List.forall_mem_cons.mpr ⟨lw_p19, List.forall_mem_cons.mpr ⟨lw_p20, List.forall_mem_cons.mpr ⟨lw_p21, List.forall_mem_cons.mpr ⟨lw_p22, List.forall_mem_cons.mpr ⟨lw_p23, List.forall_mem_cons.mpr ⟨lw_p24, List.forall_mem_cons.mpr ⟨lw_p25, List.forall_mem_cons.mpr ⟨lw_p26, List.forall_mem_cons.mpr ⟨lw_p27, List.forall_mem_cons.mpr ⟨lw_p28, List.forall_mem_cons.mpr ⟨lw_p29, List.forall_mem_cons.mpr ⟨lw_p30, List.forall_mem_cons.mpr ⟨lw_p31, fun _ h => absurd h List.not_mem_nil⟩⟩⟩⟩⟩⟩⟩⟩⟩⟩⟩⟩⟩⟩⟩⟩
theorem lw_p32 : lw_okq (⟨"StandInLanModel", "arriveAll", "()V"⟩, 43) := ⟨⟨by decide +kernel, by decide +kernel⟩, List.mem_of_getElem? (i := 677) (by decide +kernel), List.mem_of_getElem? (i := 916) (by decide +kernel), List.mem_of_getElem? (i := 917) (by decide +kernel)⟩
theorem lw_p33 : lw_okq (⟨"StandInLanModel", "forget", "(I)V"⟩, 43) := ⟨⟨by decide +kernel, by decide +kernel⟩, List.mem_of_getElem? (i := 677) (by decide +kernel), List.mem_of_getElem? (i := 920) (by decide +kernel), List.mem_of_getElem? (i := 921) (by decide +kernel)⟩
theorem lw_p34 : lw_okq (⟨"StandInLanModel", "reach", "(IIIII)V"⟩, 43) := ⟨⟨by decide +kernel, by decide +kernel⟩, List.mem_of_getElem? (i := 677) (by decide +kernel), List.mem_of_getElem? (i := 924) (by decide +kernel), List.mem_of_getElem? (i := 925) (by decide +kernel)⟩
theorem lw_p35 : lw_okq (⟨"StandInLanModel", "advertised", "(III)Z"⟩, 43) := ⟨⟨by decide +kernel, by decide +kernel⟩, List.mem_of_getElem? (i := 677) (by decide +kernel), List.mem_of_getElem? (i := 928) (by decide +kernel), List.mem_of_getElem? (i := 929) (by decide +kernel)⟩
theorem lw_p36 : lw_okq (⟨"StandInLanModel", "told", "(II)J"⟩, 43) := ⟨⟨by decide +kernel, by decide +kernel⟩, List.mem_of_getElem? (i := 677) (by decide +kernel), List.mem_of_getElem? (i := 932) (by decide +kernel), List.mem_of_getElem? (i := 933) (by decide +kernel)⟩
theorem lw_p37 : lw_okq (⟨"StandInLanModel", "packeted", "(III)Z"⟩, 43) := ⟨⟨by decide +kernel, by decide +kernel⟩, List.mem_of_getElem? (i := 677) (by decide +kernel), List.mem_of_getElem? (i := 937) (by decide +kernel), List.mem_of_getElem? (i := 938) (by decide +kernel)⟩
theorem lw_p38 : lw_okq (⟨"StandInLanModel", "meant", "(II)I"⟩, 43) := ⟨⟨by decide +kernel, by decide +kernel⟩, List.mem_of_getElem? (i := 677) (by decide +kernel), List.mem_of_getElem? (i := 941) (by decide +kernel), List.mem_of_getElem? (i := 942) (by decide +kernel)⟩
theorem lw_p39 : lw_okq (⟨"StandInLanModel", "turn", "(II)V"⟩, 43) := ⟨⟨by decide +kernel, by decide +kernel⟩, List.mem_of_getElem? (i := 677) (by decide +kernel), List.mem_of_getElem? (i := 952) (by decide +kernel), List.mem_of_getElem? (i := 953) (by decide +kernel)⟩
theorem lw_p40 : lw_okq (⟨"StandInLanModel", "goDown", "(II)V"⟩, 43) := ⟨⟨by decide +kernel, by decide +kernel⟩, List.mem_of_getElem? (i := 677) (by decide +kernel), List.mem_of_getElem? (i := 956) (by decide +kernel), List.mem_of_getElem? (i := 957) (by decide +kernel)⟩
theorem lw_p41 : lw_okq (⟨"StandInLanModel", "goUp", "(I)V"⟩, 43) := ⟨⟨by decide +kernel, by decide +kernel⟩, List.mem_of_getElem? (i := 677) (by decide +kernel), List.mem_of_getElem? (i := 960) (by decide +kernel), List.mem_of_getElem? (i := 961) (by decide +kernel)⟩
theorem lw_p42 : lw_okq (⟨"StandInLanModel", "sendPacket", "(III)V"⟩, 43) := ⟨⟨by decide +kernel, by decide +kernel⟩, List.mem_of_getElem? (i := 677) (by decide +kernel), List.mem_of_getElem? (i := 964) (by decide +kernel), List.mem_of_getElem? (i := 965) (by decide +kernel)⟩
theorem lw_p43 : lw_okq (⟨"StandInLanModel", "work", "(I)V"⟩, 43) := ⟨⟨by decide +kernel, by decide +kernel⟩, List.mem_of_getElem? (i := 677) (by decide +kernel), List.mem_of_getElem? (i := 968) (by decide +kernel), List.mem_of_getElem? (i := 969) (by decide +kernel)⟩
theorem lw_p44 : lw_okq (⟨"StandInLanModel", "timerFires", "(I)V"⟩, 43) := ⟨⟨by decide +kernel, by decide +kernel⟩, List.mem_of_getElem? (i := 677) (by decide +kernel), List.mem_of_getElem? (i := 972) (by decide +kernel), List.mem_of_getElem? (i := 973) (by decide +kernel)⟩
theorem lw_p45 : lw_okq (⟨"StandInLanModel", "detectFires", "(I)V"⟩, 43) := ⟨⟨by decide +kernel, by decide +kernel⟩, List.mem_of_getElem? (i := 677) (by decide +kernel), List.mem_of_getElem? (i := 976) (by decide +kernel), List.mem_of_getElem? (i := 977) (by decide +kernel)⟩
theorem lw_p46 : lw_okq (⟨"StandInLanModel", "raise", "(I)Z"⟩, 43) := ⟨⟨by decide +kernel, by decide +kernel⟩, List.mem_of_getElem? (i := 677) (by decide +kernel), List.mem_of_getElem? (i := 989) (by decide +kernel), List.mem_of_getElem? (i := 990) (by decide +kernel)⟩
def lw_privs_3 : List (MethodName × Nat) := [(⟨"StandInLanModel", "arriveAll", "()V"⟩, 43), (⟨"StandInLanModel", "forget", "(I)V"⟩, 43), (⟨"StandInLanModel", "reach", "(IIIII)V"⟩, 43), (⟨"StandInLanModel", "advertised", "(III)Z"⟩, 43), (⟨"StandInLanModel", "told", "(II)J"⟩, 43), (⟨"StandInLanModel", "packeted", "(III)Z"⟩, 43), (⟨"StandInLanModel", "meant", "(II)I"⟩, 43), (⟨"StandInLanModel", "turn", "(II)V"⟩, 43), (⟨"StandInLanModel", "goDown", "(II)V"⟩, 43), (⟨"StandInLanModel", "goUp", "(I)V"⟩, 43), (⟨"StandInLanModel", "sendPacket", "(III)V"⟩, 43), (⟨"StandInLanModel", "work", "(I)V"⟩, 43), (⟨"StandInLanModel", "timerFires", "(I)V"⟩, 43), (⟨"StandInLanModel", "detectFires", "(I)V"⟩, 43), (⟨"StandInLanModel", "raise", "(I)Z"⟩, 43)]
theorem lw_r3 : ∀ q ∈ lw_privs_3, lw_okq q := List.forall_mem_cons.mpr ⟨lw_p32, List.forall_mem_cons.mpr ⟨lw_p33, List.forall_mem_cons.mpr ⟨lw_p34, List.forall_mem_cons.mpr ⟨lw_p35, List.forall_mem_cons.mpr ⟨lw_p36, List.forall_mem_cons.mpr ⟨lw_p37, List.forall_mem_cons.mpr ⟨lw_p38, List.forall_mem_cons.mpr ⟨lw_p39, List.forall_mem_cons.mpr ⟨lw_p40, List.forall_mem_cons.mpr ⟨lw_p41, List.forall_mem_cons.mpr ⟨lw_p42, List.forall_mem_cons.mpr ⟨lw_p43, List.forall_mem_cons.mpr ⟨lw_p44, List.forall_mem_cons.mpr ⟨lw_p45, List.forall_mem_cons.mpr ⟨lw_p46, fun _ h => absurd h List.not_mem_nil⟩⟩⟩⟩⟩⟩⟩⟩⟩⟩⟩⟩⟩⟩⟩
def lw_privs : List (MethodName × Nat) := lw_privs_1 ++ (lw_privs_2 ++ (lw_privs_3))
def lw_tbl : List Cond := k2_sels lw_privs ++ tables_1
theorem lw_privs_ok : ∀ q ∈ lw_privs, lw_okq q := by
  show ∀ q ∈ lw_privs_1 ++ (lw_privs_2 ++ (lw_privs_3)), lw_okq q
  exact List.forall_mem_append.mpr ⟨lw_r1, List.forall_mem_append.mpr ⟨lw_r2, lw_r3⟩⟩
end
section
/-- the words that every state of the walk has -/
def zT : List Cond := lw_tbl.filter goodWord
theorem zin {w : Cond} (i : Nat) (h : lw_tbl[i]? = some w) (g : goodWord w = true) : w ∈ zT := List.mem_filter.mpr ⟨List.mem_of_getElem? h, g⟩
/-! THE Z LAYER: one walk of one method over ONE pool of cells (all objects of a system), whose contents K describes. Z hides heap, written places, the array of locals. -/
abbrev zX : Type := Program × Launch × Env × Room × State × MethodId × Array Value × List Frame × Method × Code × Nat × Nat
abbrev zG : Type := va_G × List vw_C × List (ClassId × FieldType) × List Nat
abbrev zK : Type := (Nat → va_E) → Prop
def zW (X : zX) (H : Heap) (locs : List Loc) (Q : State → Prop) (g : JFrame) : Prop :=
  W X.1 X.2.1 X.2.2.1 X.2.2.2.1 X.2.2.2.2.1 X.2.2.2.2.2.1 X.2.2.2.2.2.2.1 X.2.2.2.2.2.2.2.1 X.2.2.2.2.2.2.2.2.1 X.2.2.2.2.2.2.2.2.2.1 H locs X.2.2.2.2.2.2.2.2.2.2.1 X.2.2.2.2.2.2.2.2.2.2.2 Q g
abbrev zX.s (X : zX) : State := X.2.2.2.2.1
abbrev zX.R (X : zX) : Room := X.2.2.2.1
abbrev zX.m (X : zX) : MethodId := X.2.2.2.2.2.1
abbrev zX.args (X : zX) : Array Value := X.2.2.2.2.2.2.1
abbrev zX.meth (X : zX) : Method := X.2.2.2.2.2.2.2.2.1
abbrev zX.c (X : zX) : Code := X.2.2.2.2.2.2.2.2.2.1
def Z (X : zX) (G : zG) (A : Nat → Prop) (nL : Nat) (Q : State → Prop) (K : zK) (pc : Nat) (lv : List (Nat × Value)) (st : List Value) : Prop :=
  ∀ (f : Nat → va_E) (H : Heap) (locs : List Loc) (ls : Array Slot), K f → va_P G.1 G.2.1 (va_pl G.2.2.2 f) H → va_S A X.s.heap H locs → lv_has ls nL lv → zW X H locs Q (F0 X.m pc ls st)
/-- what a walk stands on: machine, code, words, tables, the pool's addresses apart and its own, depth d of calls that there is room for -/
def zC (X : zX) (G : zG) (A : Nat → Prop) (cc : ByteArray) (nL : Nat) (own : String) (fr lo : Nat) : Prop :=
  CallFix X.1 X.m X.c cc nL X.s X.args zT own ∧ va_K G.1 G.2.1 G.2.2.1 X.s ∧ G.2.2.2.Nodup ∧ (∀ q ∈ G.2.2.2, A q) ∧ X.meth.locks = false ∧ X.2.2.2.2.2.2.2.2.2.2.1 ≤ X.R.cells ∧ X.2.2.2.2.2.2.2.2.2.2.2 ≤ X.R.slots ∧ fr ≤ X.R.frames ∧ lo ≤ X.R.locals
theorem zD {L : List Nat} {A : Nat → Prop} {f : Nat → va_E} (hn : L.Nodup) (hA : ∀ q ∈ L, A q) : va_D A (va_pl L f) := by
  refine ⟨fun i j p q hi hj e => ?_, fun k q hk => ?_⟩
  · simp only [va_pl, List.getElem?_map] at hi hj
    cases h1 : L[i]? with
    | none => rw [h1] at hi; cases hi
    | some a =>
      cases h2 : L[j]? with
      | none => rw [h2] at hj; cases hj
      | some b =>
        rw [h1] at hi; rw [h2] at hj
        cases hi; cases hj
        have e : a = b := e
        subst e
        have l1 := (List.getElem?_eq_some_iff.mp h1).1
        exact (List.getElem?_inj l1 hn).mp (h1.trans h2.symm)
  · simp only [va_pl, List.getElem?_map] at hk
    cases h1 : L[k]? with
    | none => rw [h1] at hk; cases hk
    | some a =>
      rw [h1] at hk
      cases hk
      exact hA a (List.mem_of_getElem? h1)
section ZR
variable {X : zX} {G : zG} {A : Nat → Prop} {nL : Nat} {Q : State → Prop} {K : zK} {pc : Nat} {lv : List (Nat × Value)} {st : List Value} {cc : ByteArray} {own : String} {fr lo : Nat}
theorem Z_iconst (C : zC X G A cc nL own fr lo) {n : Int} {v : Int32} (hd : decode cc pc = .ok (.iconst n, 1)) (hv : Int32.ofInt n = v) (k : Z X G A nL Q K (pc + 1) lv (.int v :: st)) : Z X G A nL Q K pc lv (st) := fun f H locs ls hf hP hS hl => lv_iconst C.1.1 C.1.2.1 hd hv (k f H locs ls hf hP hS hl)
theorem Z_bipush (C : zC X G A cc nL own fr lo) {n : Int} {v : Int32} (hd : decode cc pc = .ok (.bipush n, 2)) (hv : (Int8.ofInt n).toInt32 = v) (k : Z X G A nL Q K (pc + 2) lv (.int v :: st)) : Z X G A nL Q K pc lv (st) := fun f H locs ls hf hP hS hl => lv_bipush C.1.1 C.1.2.1 hd hv (k f H locs ls hf hP hS hl)
theorem Z_sipush (C : zC X G A cc nL own fr lo) {n : Int} {v : Int32} (hd : decode cc pc = .ok (.sipush n, 3)) (hv : (Int16.ofInt n).toInt32 = v) (k : Z X G A nL Q K (pc + 3) lv (.int v :: st)) : Z X G A nL Q K pc lv (st) := fun f H locs ls hf hP hS hl => lv_sipush C.1.1 C.1.2.1 hd hv (k f H locs ls hf hP hS hl)
theorem Z_lconst (C : zC X G A cc nL own fr lo) {n : Fin 2} {v : Int64} (hd : decode cc pc = .ok (.lconst n, 1)) (hv : Int64.ofNat (n : Nat) = v) (k : Z X G A nL Q K (pc + 1) lv (.long v :: st)) : Z X G A nL Q K pc lv (st) := fun f H locs ls hf hP hS hl => lv_lconst C.1.1 C.1.2.1 hd hv (k f H locs ls hf hP hS hl)
theorem Z_iload_n (C : zC X G A cc nL own fr lo) (j : Nat) {k : Fin 4} {i : Nat} {x : Int32} (hd : decode cc pc = .ok (.iload_n k, 1)) (hi : (k : Nat) = i) (hx : lv[j]? = some (i, .int x)) (k : Z X G A nL Q K (pc + 1) lv (.int x :: st)) : Z X G A nL Q K pc lv (st) := fun f H locs ls hf hP hS hl => lv_iload_n C.1.1 C.1.2.1 hd hi (lv_at hl j hx) (k f H locs ls hf hP hS hl)
theorem Z_iload (C : zC X G A cc nL own fr lo) (j : Nat) {i : Nat} {x : Int32} (hd : decode cc pc = .ok (.iload i, 2)) (hx : lv[j]? = some (i, .int x)) (k : Z X G A nL Q K (pc + 2) lv (.int x :: st)) : Z X G A nL Q K pc lv (st) := fun f H locs ls hf hP hS hl => lv_iload C.1.1 C.1.2.1 hd (lv_at hl j hx) (k f H locs ls hf hP hS hl)
theorem Z_lload_n (C : zC X G A cc nL own fr lo) (j : Nat) {k : Fin 4} {i : Nat} {x : Int64} (hd : decode cc pc = .ok (.lload_n k, 1)) (hi : (k : Nat) = i) (hx : lv[j]? = some (i, .long x)) (k : Z X G A nL Q K (pc + 1) lv (.long x :: st)) : Z X G A nL Q K pc lv (st) := fun f H locs ls hf hP hS hl => lv_lload_n C.1.1 C.1.2.1 hd hi (lv_at hl j hx) (k f H locs ls hf hP hS hl)
theorem Z_lload (C : zC X G A cc nL own fr lo) (j : Nat) {i : Nat} {x : Int64} (hd : decode cc pc = .ok (.lload i, 2)) (hx : lv[j]? = some (i, .long x)) (k : Z X G A nL Q K (pc + 2) lv (.long x :: st)) : Z X G A nL Q K pc lv (st) := fun f H locs ls hf hP hS hl => lv_lload C.1.1 C.1.2.1 hd (lv_at hl j hx) (k f H locs ls hf hP hS hl)
theorem Z_aload_n (C : zC X G A cc nL own fr lo) (j : Nat) {k : Fin 4} {i : Nat} {x : Nat} (hd : decode cc pc = .ok (.aload_n k, 1)) (hi : (k : Nat) = i) (hx : lv[j]? = some (i, .ref x)) (k : Z X G A nL Q K (pc + 1) lv (.ref x :: st)) : Z X G A nL Q K pc lv (st) := fun f H locs ls hf hP hS hl => lv_aload_n C.1.1 C.1.2.1 hd hi (lv_at hl j hx) (k f H locs ls hf hP hS hl)
theorem Z_aload (C : zC X G A cc nL own fr lo) (j : Nat) {i : Nat} {x : Nat} (hd : decode cc pc = .ok (.aload i, 2)) (hx : lv[j]? = some (i, .ref x)) (k : Z X G A nL Q K (pc + 2) lv (.ref x :: st)) : Z X G A nL Q K pc lv (st) := fun f H locs ls hf hP hS hl => lv_aload C.1.1 C.1.2.1 hd (lv_at hl j hx) (k f H locs ls hf hP hS hl)
theorem Z_istore_n {lv' : List (Nat × Value)} (C : zC X G A cc nL own fr lo) {k : Fin 4} {i : Nat} {x : Int32} (hd : decode cc pc = .ok (.istore_n k, 1)) (hi : (k : Nat) = i) (hn : i < nL) (he : (i, Value.int x) :: lv.filter (fun q => !(q.1 == i) && !(q.1 + 1 == i && q.2.category == 2)) = lv') (k : Z X G A nL Q K (pc + 1) lv' st) : Z X G A nL Q K pc lv (.int x :: st) := fun f H locs ls hf hP hS hl => lv_istore_n C.1.1 C.1.2.1 hd hi hl hn he (fun ls hl => k f H locs ls hf hP hS hl)
theorem Z_istore {lv' : List (Nat × Value)} (C : zC X G A cc nL own fr lo) {i : Nat} {x : Int32} (hd : decode cc pc = .ok (.istore i, 2)) (hn : i < nL) (he : (i, Value.int x) :: lv.filter (fun q => !(q.1 == i) && !(q.1 + 1 == i && q.2.category == 2)) = lv') (k : Z X G A nL Q K (pc + 2) lv' st) : Z X G A nL Q K pc lv (.int x :: st) := fun f H locs ls hf hP hS hl => lv_istore C.1.1 C.1.2.1 hd hl hn he (fun ls hl => k f H locs ls hf hP hS hl)
theorem Z_astore_n {lv' : List (Nat × Value)} (C : zC X G A cc nL own fr lo) {k : Fin 4} {i : Nat} {x : Nat} (hd : decode cc pc = .ok (.astore_n k, 1)) (hi : (k : Nat) = i) (hn : i < nL) (he : (i, Value.ref x) :: lv.filter (fun q => !(q.1 == i) && !(q.1 + 1 == i && q.2.category == 2)) = lv') (k : Z X G A nL Q K (pc + 1) lv' st) : Z X G A nL Q K pc lv (.ref x :: st) := fun f H locs ls hf hP hS hl => lv_astore_n C.1.1 C.1.2.1 hd hi hl hn he (fun ls hl => k f H locs ls hf hP hS hl)
theorem Z_astore {lv' : List (Nat × Value)} (C : zC X G A cc nL own fr lo) {i : Nat} {x : Nat} (hd : decode cc pc = .ok (.astore i, 2)) (hn : i < nL) (he : (i, Value.ref x) :: lv.filter (fun q => !(q.1 == i) && !(q.1 + 1 == i && q.2.category == 2)) = lv') (k : Z X G A nL Q K (pc + 2) lv' st) : Z X G A nL Q K pc lv (.ref x :: st) := fun f H locs ls hf hP hS hl => lv_astore C.1.1 C.1.2.1 hd hl hn he (fun ls hl => k f H locs ls hf hP hS hl)
theorem Z_lstore_n {lv' : List (Nat × Value)} (C : zC X G A cc nL own fr lo) {k : Fin 4} {i : Nat} {x : Int64} (hd : decode cc pc = .ok (.lstore_n k, 1)) (hi : (k : Nat) = i) (hn : i + 1 < nL) (he : (i, Value.long x) :: lv.filter (fun q => !(q.1 == i) && (!(q.1 == i + 1) && !(q.1 + 1 == i && q.2.category == 2))) = lv') (k : Z X G A nL Q K (pc + 1) lv' st) : Z X G A nL Q K pc lv (.long x :: st) := fun f H locs ls hf hP hS hl => lv_lstore_n C.1.1 C.1.2.1 hd hi hl hn he (fun ls hl => k f H locs ls hf hP hS hl)
theorem Z_lstore {lv' : List (Nat × Value)} (C : zC X G A cc nL own fr lo) {i : Nat} {x : Int64} (hd : decode cc pc = .ok (.lstore i, 2)) (hn : i + 1 < nL) (he : (i, Value.long x) :: lv.filter (fun q => !(q.1 == i) && (!(q.1 == i + 1) && !(q.1 + 1 == i && q.2.category == 2))) = lv') (k : Z X G A nL Q K (pc + 2) lv' st) : Z X G A nL Q K pc lv (.long x :: st) := fun f H locs ls hf hP hS hl => lv_lstore C.1.1 C.1.2.1 hd hl hn he (fun ls hl => k f H locs ls hf hP hS hl)
theorem Z_iinc {lv' : List (Nat × Value)} (j : Nat) (C : zC X G A cc nL own fr lo) {i : Nat} {n : Int} {x v : Int32} (hd : decode cc pc = .ok (.iinc i n, 3)) (hx : lv[j]? = some (i, .int x)) (hv : x + Int32.ofInt n = v) (hn : i < nL) (he : (i, Value.int v) :: lv.filter (fun q => !(q.1 == i) && !(q.1 + 1 == i && q.2.category == 2)) = lv') (k : Z X G A nL Q K (pc + 3) lv' st) : Z X G A nL Q K pc lv st := fun f H locs ls hf hP hS hl => lv_iinc C.1.1 C.1.2.1 hd hl hx hv hn he (fun ls hl => k f H locs ls hf hP hS hl)
theorem Z_iadd (C : zC X G A cc nL own fr lo) {x y : Int32} (hd : decode cc pc = .ok (.iadd, 1)) (k : Z X G A nL Q K (pc + 1) lv (.int (x + y) :: st)) : Z X G A nL Q K pc lv (.int y :: .int x :: st) := fun f H locs ls hf hP hS hl => lv_iadd C.1.1 C.1.2.1 hd (k f H locs ls hf hP hS hl)
theorem Z_isub (C : zC X G A cc nL own fr lo) {x y : Int32} (hd : decode cc pc = .ok (.isub, 1)) (k : Z X G A nL Q K (pc + 1) lv (.int (x - y) :: st)) : Z X G A nL Q K pc lv (.int y :: .int x :: st) := fun f H locs ls hf hP hS hl => lv_isub C.1.1 C.1.2.1 hd (k f H locs ls hf hP hS hl)
theorem Z_imul (C : zC X G A cc nL own fr lo) {x y : Int32} (hd : decode cc pc = .ok (.imul, 1)) (k : Z X G A nL Q K (pc + 1) lv (.int (x * y) :: st)) : Z X G A nL Q K pc lv (.int y :: .int x :: st) := fun f H locs ls hf hP hS hl => lv_imul C.1.1 C.1.2.1 hd (k f H locs ls hf hP hS hl)
theorem Z_iand (C : zC X G A cc nL own fr lo) {x y : Int32} (hd : decode cc pc = .ok (.iand, 1)) (k : Z X G A nL Q K (pc + 1) lv (.int (x &&& y) :: st)) : Z X G A nL Q K pc lv (.int y :: .int x :: st) := fun f H locs ls hf hP hS hl => lv_iand C.1.1 C.1.2.1 hd (k f H locs ls hf hP hS hl)
theorem Z_ior (C : zC X G A cc nL own fr lo) {x y : Int32} (hd : decode cc pc = .ok (.ior, 1)) (k : Z X G A nL Q K (pc + 1) lv (.int (x ||| y) :: st)) : Z X G A nL Q K pc lv (.int y :: .int x :: st) := fun f H locs ls hf hP hS hl => lv_ior C.1.1 C.1.2.1 hd (k f H locs ls hf hP hS hl)
theorem Z_ixor (C : zC X G A cc nL own fr lo) {x y : Int32} (hd : decode cc pc = .ok (.ixor, 1)) (k : Z X G A nL Q K (pc + 1) lv (.int (x ^^^ y) :: st)) : Z X G A nL Q K pc lv (.int y :: .int x :: st) := fun f H locs ls hf hP hS hl => lv_ixor C.1.1 C.1.2.1 hd (k f H locs ls hf hP hS hl)
theorem Z_ishl (C : zC X G A cc nL own fr lo) {x y : Int32} (hd : decode cc pc = .ok (.ishl, 1)) (k : Z X G A nL Q K (pc + 1) lv (.int (x <<< (y &&& 31)) :: st)) : Z X G A nL Q K pc lv (.int y :: .int x :: st) := fun f H locs ls hf hP hS hl => lv_ishl C.1.1 C.1.2.1 hd (k f H locs ls hf hP hS hl)
theorem Z_ishr (C : zC X G A cc nL own fr lo) {x y : Int32} (hd : decode cc pc = .ok (.ishr, 1)) (k : Z X G A nL Q K (pc + 1) lv (.int (x >>> (y &&& 31)) :: st)) : Z X G A nL Q K pc lv (.int y :: .int x :: st) := fun f H locs ls hf hP hS hl => lv_ishr C.1.1 C.1.2.1 hd (k f H locs ls hf hP hS hl)
theorem Z_idiv (C : zC X G A cc nL own fr lo) {x y : Int32} (hd : decode cc pc = .ok (.idiv, 1)) (hne : ¬ y = 0) (k : Z X G A nL Q K (pc + 1) lv (.int (x / y) :: st)) : Z X G A nL Q K pc lv (.int y :: .int x :: st) := fun f H locs ls hf hP hS hl => lv_idiv C.1.1 C.1.2.1 hd hne (k f H locs ls hf hP hS hl)
theorem Z_irem (C : zC X G A cc nL own fr lo) {x y : Int32} (hd : decode cc pc = .ok (.irem, 1)) (hne : ¬ y = 0) (k : Z X G A nL Q K (pc + 1) lv (.int (x - x / y * y) :: st)) : Z X G A nL Q K pc lv (.int y :: .int x :: st) := fun f H locs ls hf hP hS hl => lv_irem C.1.1 C.1.2.1 hd hne (k f H locs ls hf hP hS hl)
theorem Z_ldiv (C : zC X G A cc nL own fr lo) {x y : Int64} (hd : decode cc pc = .ok (.ldiv, 1)) (hne : ¬ y = 0) (k : Z X G A nL Q K (pc + 1) lv (.long (x / y) :: st)) : Z X G A nL Q K pc lv (.long y :: .long x :: st) := fun f H locs ls hf hP hS hl => lv_ldiv C.1.1 C.1.2.1 hd hne (k f H locs ls hf hP hS hl)
theorem Z_lrem (C : zC X G A cc nL own fr lo) {x y : Int64} (hd : decode cc pc = .ok (.lrem, 1)) (hne : ¬ y = 0) (k : Z X G A nL Q K (pc + 1) lv (.long (x - x / y * y) :: st)) : Z X G A nL Q K pc lv (.long y :: .long x :: st) := fun f H locs ls hf hP hS hl => lv_lrem C.1.1 C.1.2.1 hd hne (k f H locs ls hf hP hS hl)
theorem Z_ineg (C : zC X G A cc nL own fr lo) {x : Int32} (hd : decode cc pc = .ok (.ineg, 1)) (k : Z X G A nL Q K (pc + 1) lv (.int (-x) :: st)) : Z X G A nL Q K pc lv (.int x :: st) := fun f H locs ls hf hP hS hl => lv_ineg C.1.1 C.1.2.1 hd (k f H locs ls hf hP hS hl)
theorem Z_ladd (C : zC X G A cc nL own fr lo) {x y : Int64} (hd : decode cc pc = .ok (.ladd, 1)) (k : Z X G A nL Q K (pc + 1) lv (.long (x + y) :: st)) : Z X G A nL Q K pc lv (.long y :: .long x :: st) := fun f H locs ls hf hP hS hl => lv_ladd C.1.1 C.1.2.1 hd (k f H locs ls hf hP hS hl)
theorem Z_lsub (C : zC X G A cc nL own fr lo) {x y : Int64} (hd : decode cc pc = .ok (.lsub, 1)) (k : Z X G A nL Q K (pc + 1) lv (.long (x - y) :: st)) : Z X G A nL Q K pc lv (.long y :: .long x :: st) := fun f H locs ls hf hP hS hl => lv_lsub C.1.1 C.1.2.1 hd (k f H locs ls hf hP hS hl)
theorem Z_lmul (C : zC X G A cc nL own fr lo) {x y : Int64} (hd : decode cc pc = .ok (.lmul, 1)) (k : Z X G A nL Q K (pc + 1) lv (.long (x * y) :: st)) : Z X G A nL Q K pc lv (.long y :: .long x :: st) := fun f H locs ls hf hP hS hl => lv_lmul C.1.1 C.1.2.1 hd (k f H locs ls hf hP hS hl)
theorem Z_land (C : zC X G A cc nL own fr lo) {x y : Int64} (hd : decode cc pc = .ok (.land, 1)) (k : Z X G A nL Q K (pc + 1) lv (.long (x &&& y) :: st)) : Z X G A nL Q K pc lv (.long y :: .long x :: st) := fun f H locs ls hf hP hS hl => lv_land C.1.1 C.1.2.1 hd (k f H locs ls hf hP hS hl)
theorem Z_lor (C : zC X G A cc nL own fr lo) {x y : Int64} (hd : decode cc pc = .ok (.lor, 1)) (k : Z X G A nL Q K (pc + 1) lv (.long (x ||| y) :: st)) : Z X G A nL Q K pc lv (.long y :: .long x :: st) := fun f H locs ls hf hP hS hl => lv_lor C.1.1 C.1.2.1 hd (k f H locs ls hf hP hS hl)
theorem Z_lxor (C : zC X G A cc nL own fr lo) {x y : Int64} (hd : decode cc pc = .ok (.lxor, 1)) (k : Z X G A nL Q K (pc + 1) lv (.long (x ^^^ y) :: st)) : Z X G A nL Q K pc lv (.long y :: .long x :: st) := fun f H locs ls hf hP hS hl => lv_lxor C.1.1 C.1.2.1 hd (k f H locs ls hf hP hS hl)
theorem Z_iushr (C : zC X G A cc nL own fr lo) {x y : Int32} (hd : decode cc pc = .ok (.iushr, 1)) (k : Z X G A nL Q K (pc + 1) lv (.int ((x.toUInt32 >>> (y.toUInt32 &&& Int32.toUInt32 31)).toInt32) :: st)) : Z X G A nL Q K pc lv (.int y :: .int x :: st) := fun f H locs ls hf hP hS hl => lv_iushr C.1.1 C.1.2.1 hd rfl (k f H locs ls hf hP hS hl)
theorem Z_lushr (C : zC X G A cc nL own fr lo) {x : Int64} {y : Int32} (hd : decode cc pc = .ok (.lushr, 1)) (k : Z X G A nL Q K (pc + 1) lv (.long ((x.toUInt64 >>> (y.toInt64.toUInt64 &&& Int64.toUInt64 63)).toInt64) :: st)) : Z X G A nL Q K pc lv (.int y :: .long x :: st) := fun f H locs ls hf hP hS hl => lv_lushr C.1.1 C.1.2.1 hd rfl (k f H locs ls hf hP hS hl)
theorem Z_lshl (C : zC X G A cc nL own fr lo) {x : Int64} {y : Int32} (hd : decode cc pc = .ok (.lshl, 1)) (k : Z X G A nL Q K (pc + 1) lv (.long (x <<< (y.toInt64 &&& 63)) :: st)) : Z X G A nL Q K pc lv (.int y :: .long x :: st) := fun f H locs ls hf hP hS hl => lv_lshl C.1.1 C.1.2.1 hd rfl (k f H locs ls hf hP hS hl)
theorem Z_lshr (C : zC X G A cc nL own fr lo) {x : Int64} {y : Int32} (hd : decode cc pc = .ok (.lshr, 1)) (k : Z X G A nL Q K (pc + 1) lv (.long (x >>> (y.toInt64 &&& 63)) :: st)) : Z X G A nL Q K pc lv (.int y :: .long x :: st) := fun f H locs ls hf hP hS hl => lv_lshr C.1.1 C.1.2.1 hd rfl (k f H locs ls hf hP hS hl)
theorem Z_i2l (C : zC X G A cc nL own fr lo) {x : Int32} (hd : decode cc pc = .ok (.i2l, 1)) (k : Z X G A nL Q K (pc + 1) lv (.long x.toInt64 :: st)) : Z X G A nL Q K pc lv (.int x :: st) := fun f H locs ls hf hP hS hl => lv_i2l C.1.1 C.1.2.1 hd rfl (k f H locs ls hf hP hS hl)
theorem Z_l2i (C : zC X G A cc nL own fr lo) {x : Int64} (hd : decode cc pc = .ok (.l2i, 1)) (k : Z X G A nL Q K (pc + 1) lv (.int x.toInt32 :: st)) : Z X G A nL Q K pc lv (.long x :: st) := fun f H locs ls hf hP hS hl => lv_l2i C.1.1 C.1.2.1 hd rfl (k f H locs ls hf hP hS hl)
theorem Z_i2b (C : zC X G A cc nL own fr lo) {x : Int32} (hd : decode cc pc = .ok (.i2b, 1)) (k : Z X G A nL Q K (pc + 1) lv (.int x.toInt8.toInt32 :: st)) : Z X G A nL Q K pc lv (.int x :: st) := fun f H locs ls hf hP hS hl => lv_i2b C.1.1 C.1.2.1 hd rfl (k f H locs ls hf hP hS hl)
theorem Z_dup (C : zC X G A cc nL own fr lo) {va : Value} (hd : decode cc pc = .ok (.dup, 1)) (hva : va.category = 1) (k : Z X G A nL Q K (pc + 1) lv (va :: va :: st)) : Z X G A nL Q K pc lv (va :: st) := fun f H locs ls hf hP hS hl => lv_dup C.1.1 C.1.2.1 hd hva (k f H locs ls hf hP hS hl)
theorem Z_pop (C : zC X G A cc nL own fr lo) {va : Value} (hd : decode cc pc = .ok (.pop, 1)) (hva : va.category = 1) (k : Z X G A nL Q K (pc + 1) lv (st)) : Z X G A nL Q K pc lv (va :: st) := fun f H locs ls hf hP hS hl => lv_pop C.1.1 C.1.2.1 hd hva (k f H locs ls hf hP hS hl)
theorem Z_dup_x1 (C : zC X G A cc nL own fr lo) {va vb : Value} (hd : decode cc pc = .ok (.dup_x1, 1)) (hva : va.category = 1) (hvb : vb.category = 1) (k : Z X G A nL Q K (pc + 1) lv (va :: vb :: va :: st)) : Z X G A nL Q K pc lv (va :: vb :: st) := fun f H locs ls hf hP hS hl => lv_dup_x1 C.1.1 C.1.2.1 hd hva hvb (k f H locs ls hf hP hS hl)
theorem Z_dup_x2 (C : zC X G A cc nL own fr lo) {va vb vd : Value} (hd : decode cc pc = .ok (.dup_x2, 1)) (hva : va.category = 1) (hvb : vb.category = 1) (hvd : vd.category = 1) (k : Z X G A nL Q K (pc + 1) lv (va :: vb :: vd :: va :: st)) : Z X G A nL Q K pc lv (va :: vb :: vd :: st) := fun f H locs ls hf hP hS hl => lv_dup_x2 C.1.1 C.1.2.1 hd hva hvb hvd (k f H locs ls hf hP hS hl)
theorem Z_dup2_11 (C : zC X G A cc nL own fr lo) {va vb : Value} (hd : decode cc pc = .ok (.dup2, 1)) (hva : va.category = 1) (hvb : vb.category = 1) (k : Z X G A nL Q K (pc + 1) lv (va :: vb :: va :: vb :: st)) : Z X G A nL Q K pc lv (va :: vb :: st) := fun f H locs ls hf hP hS hl => lv_dup2_11 C.1.1 C.1.2.1 hd hva hvb (k f H locs ls hf hP hS hl)
theorem Z_goto (C : zC X G A cc nL own fr lo) {off : Int} {tgt : Nat} (hd : decode cc pc = .ok (.goto off, 3)) (ht : (pc : Int) + off = (tgt : Int)) (k : Z X G A nL Q K (tgt) lv (st)) : Z X G A nL Q K pc lv (st) := fun f H locs ls hf hP hS hl => lv_goto C.1.1 C.1.2.1 hd ht (k f H locs ls hf hP hS hl)
theorem Z_null (C : zC X G A cc nL own fr lo) (hd : decode cc pc = .ok (.aconst_null, 1)) (k : Z X G A nL Q K (pc + 1) lv (.null :: st)) : Z X G A nL Q K pc lv (st) := fun f H locs ls hf hP hS hl => lv_null C.1.1 C.1.2.1 hd (k f H locs ls hf hP hS hl)
theorem Z_if_eq {tgt : Nat} (C : zC X G A cc nL own fr lo) {x : Int32} {off : Int} (hd : decode cc pc = .ok (.ifCond .eq off, 3)) (ht : (pc : Int) + off = (tgt : Int)) (kt : x = 0 → Z X G A nL Q K tgt lv st) (kf : ¬ x = 0 → Z X G A nL Q K (pc + 3) lv st) : Z X G A nL Q K pc lv (.int x :: st) := fun f H locs ls hf hP hS hl => lv_if_eq C.1.1 C.1.2.1 hd ht (fun h => kt h f H locs ls hf hP hS hl) (fun h => kf h f H locs ls hf hP hS hl)
theorem Z_if_ne {tgt : Nat} (C : zC X G A cc nL own fr lo) {x : Int32} {off : Int} (hd : decode cc pc = .ok (.ifCond .ne off, 3)) (ht : (pc : Int) + off = (tgt : Int)) (kt : ¬ x = 0 → Z X G A nL Q K tgt lv st) (kf : x = 0 → Z X G A nL Q K (pc + 3) lv st) : Z X G A nL Q K pc lv (.int x :: st) := fun f H locs ls hf hP hS hl => lv_if_ne C.1.1 C.1.2.1 hd ht (fun h => kt h f H locs ls hf hP hS hl) (fun h => kf h f H locs ls hf hP hS hl)
theorem Z_if_lt {tgt : Nat} (C : zC X G A cc nL own fr lo) {x : Int32} {off : Int} (hd : decode cc pc = .ok (.ifCond .lt off, 3)) (ht : (pc : Int) + off = (tgt : Int)) (kt : x < 0 → Z X G A nL Q K tgt lv st) (kf : ¬ x < 0 → Z X G A nL Q K (pc + 3) lv st) : Z X G A nL Q K pc lv (.int x :: st) := fun f H locs ls hf hP hS hl => lv_if_lt C.1.1 C.1.2.1 hd ht (fun h => kt h f H locs ls hf hP hS hl) (fun h => kf h f H locs ls hf hP hS hl)
theorem Z_if_ge {tgt : Nat} (C : zC X G A cc nL own fr lo) {x : Int32} {off : Int} (hd : decode cc pc = .ok (.ifCond .ge off, 3)) (ht : (pc : Int) + off = (tgt : Int)) (kt : 0 ≤ x → Z X G A nL Q K tgt lv st) (kf : ¬ 0 ≤ x → Z X G A nL Q K (pc + 3) lv st) : Z X G A nL Q K pc lv (.int x :: st) := fun f H locs ls hf hP hS hl => lv_if_ge C.1.1 C.1.2.1 hd ht (fun h => kt h f H locs ls hf hP hS hl) (fun h => kf h f H locs ls hf hP hS hl)
theorem Z_if_gt {tgt : Nat} (C : zC X G A cc nL own fr lo) {x : Int32} {off : Int} (hd : decode cc pc = .ok (.ifCond .gt off, 3)) (ht : (pc : Int) + off = (tgt : Int)) (kt : 0 < x → Z X G A nL Q K tgt lv st) (kf : ¬ 0 < x → Z X G A nL Q K (pc + 3) lv st) : Z X G A nL Q K pc lv (.int x :: st) := fun f H locs ls hf hP hS hl => lv_if_gt C.1.1 C.1.2.1 hd ht (fun h => kt h f H locs ls hf hP hS hl) (fun h => kf h f H locs ls hf hP hS hl)
theorem Z_if_le {tgt : Nat} (C : zC X G A cc nL own fr lo) {x : Int32} {off : Int} (hd : decode cc pc = .ok (.ifCond .le off, 3)) (ht : (pc : Int) + off = (tgt : Int)) (kt : x ≤ 0 → Z X G A nL Q K tgt lv st) (kf : ¬ x ≤ 0 → Z X G A nL Q K (pc + 3) lv st) : Z X G A nL Q K pc lv (.int x :: st) := fun f H locs ls hf hP hS hl => lv_if_le C.1.1 C.1.2.1 hd ht (fun h => kt h f H locs ls hf hP hS hl) (fun h => kf h f H locs ls hf hP hS hl)
theorem Z_icmp_eq {tgt : Nat} (C : zC X G A cc nL own fr lo) {x y : Int32} {off : Int} (hd : decode cc pc = .ok (.if_icmp .eq off, 3)) (ht : (pc : Int) + off = (tgt : Int)) (kt : x = y → Z X G A nL Q K tgt lv st) (kf : ¬ x = y → Z X G A nL Q K (pc + 3) lv st) : Z X G A nL Q K pc lv (.int y :: .int x :: st) := fun f H locs ls hf hP hS hl => lv_icmp_eq C.1.1 C.1.2.1 hd ht (fun h => kt h f H locs ls hf hP hS hl) (fun h => kf h f H locs ls hf hP hS hl)
theorem Z_icmp_ne {tgt : Nat} (C : zC X G A cc nL own fr lo) {x y : Int32} {off : Int} (hd : decode cc pc = .ok (.if_icmp .ne off, 3)) (ht : (pc : Int) + off = (tgt : Int)) (kt : ¬ x = y → Z X G A nL Q K tgt lv st) (kf : x = y → Z X G A nL Q K (pc + 3) lv st) : Z X G A nL Q K pc lv (.int y :: .int x :: st) := fun f H locs ls hf hP hS hl => lv_icmp_ne C.1.1 C.1.2.1 hd ht (fun h => kt h f H locs ls hf hP hS hl) (fun h => kf h f H locs ls hf hP hS hl)
theorem Z_icmp_lt {tgt : Nat} (C : zC X G A cc nL own fr lo) {x y : Int32} {off : Int} (hd : decode cc pc = .ok (.if_icmp .lt off, 3)) (ht : (pc : Int) + off = (tgt : Int)) (kt : x < y → Z X G A nL Q K tgt lv st) (kf : ¬ x < y → Z X G A nL Q K (pc + 3) lv st) : Z X G A nL Q K pc lv (.int y :: .int x :: st) := fun f H locs ls hf hP hS hl => lv_icmp_lt C.1.1 C.1.2.1 hd ht (fun h => kt h f H locs ls hf hP hS hl) (fun h => kf h f H locs ls hf hP hS hl)
theorem Z_icmp_ge {tgt : Nat} (C : zC X G A cc nL own fr lo) {x y : Int32} {off : Int} (hd : decode cc pc = .ok (.if_icmp .ge off, 3)) (ht : (pc : Int) + off = (tgt : Int)) (kt : y ≤ x → Z X G A nL Q K tgt lv st) (kf : ¬ y ≤ x → Z X G A nL Q K (pc + 3) lv st) : Z X G A nL Q K pc lv (.int y :: .int x :: st) := fun f H locs ls hf hP hS hl => lv_icmp_ge C.1.1 C.1.2.1 hd ht (fun h => kt h f H locs ls hf hP hS hl) (fun h => kf h f H locs ls hf hP hS hl)
theorem Z_icmp_gt {tgt : Nat} (C : zC X G A cc nL own fr lo) {x y : Int32} {off : Int} (hd : decode cc pc = .ok (.if_icmp .gt off, 3)) (ht : (pc : Int) + off = (tgt : Int)) (kt : y < x → Z X G A nL Q K tgt lv st) (kf : ¬ y < x → Z X G A nL Q K (pc + 3) lv st) : Z X G A nL Q K pc lv (.int y :: .int x :: st) := fun f H locs ls hf hP hS hl => lv_icmp_gt C.1.1 C.1.2.1 hd ht (fun h => kt h f H locs ls hf hP hS hl) (fun h => kf h f H locs ls hf hP hS hl)
theorem Z_icmp_le {tgt : Nat} (C : zC X G A cc nL own fr lo) {x y : Int32} {off : Int} (hd : decode cc pc = .ok (.if_icmp .le off, 3)) (ht : (pc : Int) + off = (tgt : Int)) (kt : x ≤ y → Z X G A nL Q K tgt lv st) (kf : ¬ x ≤ y → Z X G A nL Q K (pc + 3) lv st) : Z X G A nL Q K pc lv (.int y :: .int x :: st) := fun f H locs ls hf hP hS hl => lv_icmp_le C.1.1 C.1.2.1 hd ht (fun h => kt h f H locs ls hf hP hS hl) (fun h => kf h f H locs ls hf hP hS hl)
theorem Z_ifnonnull (C : zC X G A cc nL own fr lo) {x : Nat} {off : Int} {tgt : Nat} (hd : decode cc pc = .ok (.ifnonnull off, 3)) (ht : (pc : Int) + off = (tgt : Int)) (k : Z X G A nL Q K (tgt) lv (st)) : Z X G A nL Q K pc lv (.ref x :: st) := fun f H locs ls hf hP hS hl => lv_ifnonnull C.1.1 C.1.2.1 hd ht (k f H locs ls hf hP hS hl)
theorem Z_ifnonnullN (C : zC X G A cc nL own fr lo) {off : Int} (hd : decode cc pc = .ok (.ifnonnull off, 3)) (k : Z X G A nL Q K (pc + 3) lv (st)) : Z X G A nL Q K pc lv (.null :: st) := fun f H locs ls hf hP hS hl => lv_ifnonnullN C.1.1 C.1.2.1 hd (k f H locs ls hf hP hS hl)
theorem Z_ifnull (C : zC X G A cc nL own fr lo) {x : Nat} {off : Int} (hd : decode cc pc = .ok (.ifnull off, 3)) (k : Z X G A nL Q K (pc + 3) lv (st)) : Z X G A nL Q K pc lv (.ref x :: st) := fun f H locs ls hf hP hS hl => lv_ifnull C.1.1 C.1.2.1 hd (k f H locs ls hf hP hS hl)
theorem Z_ifnullN (C : zC X G A cc nL own fr lo) {off : Int} {tgt : Nat} (hd : decode cc pc = .ok (.ifnull off, 3)) (ht : (pc : Int) + off = (tgt : Int)) (k : Z X G A nL Q K (tgt) lv (st)) : Z X G A nL Q K pc lv (.null :: st) := fun f H locs ls hf hP hS hl => lv_ifnullN C.1.1 C.1.2.1 hd ht (k f H locs ls hf hP hS hl)
theorem Z_ldc (C : zC X G A cc nL own fr lo) {index : Nat} {v : Int32} (hw : Cond.constant own index v ∈ zT) (hd : decode cc pc = .ok (.ldc index, 2)) (k : Z X G A nL Q K (pc + 2) lv (.int v :: st)) : Z X G A nL Q K pc lv st := fun f H locs ls hf hP hS hl => lv_ldc C.1.1 C.1.2.1 C.1.2.2.2.1 (C.1.2.2.2.2 _ hw) hd (k f H locs ls hf hP hS hl)
theorem Z_ldcw (C : zC X G A cc nL own fr lo) {index : Nat} {v : Int32} (hw : Cond.constant own index v ∈ zT) (hd : decode cc pc = .ok (.ldc_w index, 3)) (k : Z X G A nL Q K (pc + 3) lv (.int v :: st)) : Z X G A nL Q K pc lv st := fun f H locs ls hf hP hS hl => lv_ldcw C.1.1 C.1.2.1 C.1.2.2.2.1 (C.1.2.2.2.2 _ hw) hd (k f H locs ls hf hP hS hl)
theorem Z_ldc2 (C : zC X G A cc nL own fr lo) {index : Nat} {v : Int64} (hw : Cond.constantLong own index v ∈ zT) (hd : decode cc pc = .ok (.ldc2_w index, 3)) (k : Z X G A nL Q K (pc + 3) lv (.long v :: st)) : Z X G A nL Q K pc lv st := fun f H locs ls hf hP hS hl => lv_ldc2 C.1.1 C.1.2.1 C.1.2.2.2.1 (C.1.2.2.2.2 _ hw) hd (k f H locs ls hf hP hS hl)
/-- memory: the cell at a -/
theorem Z_get (C : zC X G A cc nL own fr lo) {ref CN : String} {T : u_T} {N ci index a : Nat} {fs : List Value} (k : Nat) {v : Value} (ha : a ∈ G.2.2.2) (hm : ∀ f, K f → f a = .inr (ci, fs)) (hc : G.2.1[ci]? = some (CN, T, N)) (hin : ∀ w ∈ u_ws CN T N, w ∈ zT) (hk : k < N) (hlink : Cond.fieldLink own index ref (T k).2.1 (T k).2.2.1 ∈ zT) (href : (T k).1 = ref) (hv : fs[k]? = some v) (hd : decode cc pc = .ok (.getfield index, 3)) (kk : Z X G A nL Q K (pc + 3) lv (v :: st)) : Z X G A nL Q K pc lv (.ref a :: st) := fun f H locs ls hf hP hS hl => by
  obtain ⟨q0, hq⟩ := va_pl_get (X := []) (f := f) ha
  rw [hm f hf] at hq
  exact va_get C.1.1 C.1.2.1 C.1.2.2.2.2 hin C.1.2.2.2.1 C.2.1 hP q0 hq hc k hk (C.1.2.2.2.2 _ hlink) (fun x h => by rw [← href]; exact h) hv hd (kk f H locs ls hf hP hS hl)
theorem Z_put {K' : zK} (C : zC X G A cc nL own fr lo) {ref CN : String} {T : u_T} {N ci index a : Nat} {fs : List Value} (k : Nat) {v : Value} {ty : FieldType} (ty0 : Nat → FieldType) (ha : a ∈ G.2.2.2) (hm : ∀ f, K f → f a = .inr (ci, fs)) (hc : G.2.1[ci]? = some (CN, T, N)) (hin : ∀ w ∈ u_ws CN T N, w ∈ zT) (hty : ∀ k, k < N → parseFieldDescriptor (T k).2.2.1 = some (ty0 k)) (hnm : ∀ a, a < N → ∀ b, b < N → a ≠ b → (T a).2.1 ≠ (T b).2.1) (hk : k < N) (hlink : Cond.fieldLink own index ref (T k).2.1 (T k).2.2.1 ∈ zT) (href : (T k).1 = ref) (hfin : (T k).2.2.2 = false) (hd' : parseFieldDescriptor (T k).2.2.1 = some ty) (hn : narrow ty v = v) (hfit : fits ty v = true) (hl' : k < fs.length) (hK : ∀ f, K f → K' (va_up f a (.inr (ci, fs.set k v)))) (hd : decode cc pc = .ok (.putfield index, 3)) (kk : Z X G A nL Q K' (pc + 3) lv st) : Z X G A nL Q K pc lv (v :: .ref a :: st) := fun f H locs ls hf hP hS hl => by
  obtain ⟨q0, hq⟩ := va_pl_get (X := []) (f := f) ha
  have hD : va_D A (va_pl G.2.2.2 f) := zD C.2.2.1 C.2.2.2.1
  have hq0 := hq
  rw [hm f hf] at hq
  refine va_put C.1.1 C.1.2.1 C.1.2.2.2.2 hin ty0 hty hnm C.1.2.2.2.1 C.2.1 hP hD hS q0 hq hc k hk (C.1.2.2.2.2 _ hlink) (fun x h => by rw [← href]; exact h) hfin hd' hn hfit hl' hd (fun H1 locs1 hP1 hD1 hS1 => ?_)
  have e := va_pl_set (X := []) (e := .inr (ci, fs.set k v)) hD ha hq0
  simp only [List.nil_append] at e
  rw [e] at hP1
  exact kk _ H1 locs1 ls (hK f hf) hP1 hS1 hl
theorem Z_alen (C : zC X G A cc nL own fr lo) {a t0 : Nat} {cA : ClassId} {x : vp_A} {ty : FieldType} {v : Int32} (ha : a ∈ G.2.2.2) (hm : ∀ f, K f → f a = .inl (cA, x)) (ht : G.2.2.1[t0]? = some (cA, ty)) (hv : Int32.ofNat x.1 = v) (hd : decode cc pc = .ok (.arraylength, 1)) (kk : Z X G A nL Q K (pc + 1) lv (.int v :: st)) : Z X G A nL Q K pc lv (.ref a :: st) := fun f H locs ls hf hP hS hl => by
  obtain ⟨q0, hq⟩ := va_pl_get (X := []) (f := f) ha
  rw [hm f hf] at hq
  exact va_alen C.1.1 C.1.2.1 C.2.1 hP q0 t0 hq ht hv hd (kk f H locs ls hf hP hS hl)
theorem Z_iald (C : zC X G A cc nL own fr lo) {a t0 n : Nat} {cA : ClassId} {g : Nat → Int32} {i : Int32} (ha : a ∈ G.2.2.2) (hm : ∀ f, K f → f a = .inl (cA, n, .inl g)) (ht : G.2.2.1[t0]? = some (cA, .int)) (hin : vp_in i n) (hd : decode cc pc = .ok (.iaload, 1)) (kk : Z X G A nL Q K (pc + 1) lv (.int (g i.toNatClampNeg) :: st)) : Z X G A nL Q K pc lv (.int i :: .ref a :: st) := fun f H locs ls hf hP hS hl => by
  obtain ⟨q0, hq⟩ := va_pl_get (X := []) (f := f) ha
  rw [hm f hf] at hq
  exact va_iald C.1.1 C.1.2.1 C.2.1 hP q0 t0 hq ht hin hd (kk f H locs ls hf hP hS hl)
theorem Z_iast {K' : zK} (C : zC X G A cc nL own fr lo) {a t0 n : Nat} {cA : ClassId} {g : Nat → Int32} {i x : Int32} (ha : a ∈ G.2.2.2) (hm : ∀ f, K f → f a = .inl (cA, n, .inl g)) (ht : G.2.2.1[t0]? = some (cA, .int)) (hin : vp_in i n) (hK : ∀ f, K f → K' (va_up f a (.inl (cA, n, .inl (upd g i.toNatClampNeg x))))) (hd : decode cc pc = .ok (.iastore, 1)) (kk : Z X G A nL Q K' (pc + 1) lv st) : Z X G A nL Q K pc lv (.int x :: .int i :: .ref a :: st) := fun f H locs ls hf hP hS hl => by
  obtain ⟨q0, hq⟩ := va_pl_get (X := []) (f := f) ha
  have hD : va_D A (va_pl G.2.2.2 f) := zD C.2.2.1 C.2.2.2.1
  have hq0 := hq
  rw [hm f hf] at hq
  refine va_iast C.1.1 C.1.2.1 C.2.1 hP hD hS q0 t0 hq ht hin hd (fun H1 locs1 hP1 hD1 hS1 => ?_)
  have e := va_pl_set (X := []) (e := .inl (cA, n, .inl (upd g i.toNatClampNeg x))) hD ha hq0
  simp only [List.nil_append] at e
  rw [e] at hP1
  exact kk _ H1 locs1 ls (hK f hf) hP1 hS1 hl
theorem Z_aald (C : zC X G A cc nL own fr lo) {a t0 n : Nat} {cA : ClassId} {CN : String} {g : Nat → Option Nat} {i : Int32} (ha : a ∈ G.2.2.2) (hm : ∀ f, K f → f a = .inl (cA, n, .inr (.inr (.inr (.inr g))))) (ht : G.2.2.1[t0]? = some (cA, .object CN)) (hin : vp_in i n) (hd : decode cc pc = .ok (.aaload, 1)) (kk : Z X G A nL Q K (pc + 1) lv (va_rf (g i.toNatClampNeg) :: st)) : Z X G A nL Q K pc lv (.int i :: .ref a :: st) := fun f H locs ls hf hP hS hl => by
  obtain ⟨q0, hq⟩ := va_pl_get (X := []) (f := f) ha
  rw [hm f hf] at hq
  exact va_aldq C.1.1 C.1.2.1 C.2.1 hP q0 t0 hq ht hin hd (kk f H locs ls hf hP hS hl)
end ZR
end
section
/-! CONTRACTS: functional ones (a method over one pool: these arguments, this state: this answer, that state), returns and calls -/
def zPre (G : zG) (K : zK) (U : State) : Prop := (∃ f, K f ∧ va_P G.1 G.2.1 (va_pl G.2.2.2 f) U.heap) ∧ va_K G.1 G.2.1 G.2.2.1 U
abbrev zA (G : zG) : Nat → Prop := fun q => q ∈ G.2.2.2
def zPost (G : zG) (w : Option Value) (K : zK) : Array Value → State → Outcome → State → Prop := fun _ st oc t => (oc = .returned w ∧ zPre G K t) ∧ va_F (zA G) st t
abbrev zRm (fr lo : Nat) : Room := { frames := fr, cells := 0, slots := 0, locals := lo }
abbrev zWs (y : MethodName) (cc : ByteArray) (nL : Nat) (ret : Option FieldType) : List Cond := Cond.code y cc nL ret :: zT
/-- method y (its code, locals, kind of answer) called with As where the pool holds K: it answers w, the pool holds K' -/
def zF (l : Launch) (y : MethodName) (cc : ByteArray) (nL : Nat) (ret : Option FieldType) (fr lo : Nat) (G : zG) (As : List Value) (K : zK) (w : Option Value) (K' : zK) : Prop :=
  Met l y (zWs y cc nL ret) (zRm fr lo) (va_Pc As (zPre G K)) (zPost G w K') 0 0 (zA G)
def zQ (X : zX) (G : zG) (w : Option Value) (K : zK) : State → Prop := MQ X.2.2.2.2.2.2.2.1 (zPost G w K) X.args X.s 0 0 (zA G)
abbrev zX.l (X : zX) : Launch := X.2.1
def zN (X : zX) : Prop := X.2.2.2.2.2.2.2.2.2.2.1 = 0 ∧ X.2.2.2.2.2.2.2.2.2.2.2 = 0
/-- a contract out of a walk of the body -/
theorem zF.ofZ {l : Launch} {y : MethodName} {fr lo : Nat} {G : zG} {As : List Value} {K K' : zK} {w : Option Value} {cc : ByteArray} {nL : Nat} {ret : Option FieldType}
    (hy : plainName y.cls = true) (hL : G.2.2.2.Nodup) (hE : (lg_sl As).length ≤ nL)
    (body : ∀ X : zX, X.l = l → zN X → X.meth.sig.returnType = ret → zC X G (zA G) cc nL y.cls fr lo → Z X G (zA G) nL (zQ X G w K') K 0 (lv_args 0 As) []) : zF l y cc nL ret fr lo G As K w K' := by
  refine Met.ofW (cc := cc) (maxL := nL) (ret := ret) (ws' := zT) hy rfl ?_
  intro p e s m args below meth c s₁ B hml hv
  obtain ⟨rfl, ⟨f, hf, hP⟩, hK⟩ := hv
  have hts := atoms_spec (ws := zWs y cc nL ret) B.pre
  have hown : s.vm.findClass y.cls = some m.cls := findClass_of_methodNamed B.named
  have hl := lv_entry As (n := nL) hE
  rw [lg_entry_eq]
  exact body (p, l, e, (headSpec (zWs y cc nL ret) (zRm fr lo)).room, s, m, As.toArray, below, meth, c, 0, 0) rfl ⟨rfl, rfl⟩ B.returns ⟨⟨B.exec, B.bytes, hml, hown, fun w h => hts w (List.mem_cons_of_mem _ h)⟩, hK, hL, fun q h => h, B.notSynchronized, Nat.zero_le _, Nat.zero_le _, Nat.le_refl _, Nat.le_refl _⟩ f s.heap [] _ hf hP va_S.rf hl
section ZE
variable {X : zX} {G : zG} {nL : Nat} {K K' : zK} {w : Option Value} {pc : Nat} {lv : List (Nat × Value)} {cc : ByteArray} {own : String} {fr lo : Nat}
theorem Z_iret {v : Int32} (C : zC X G (zA G) cc nL own fr lo) (hN : zN X) (hr : X.meth.sig.returnType = some .int) (hd : decode cc pc = .ok (.ireturn, 1)) (hw : w = some (.int v)) (hK : ∀ f, K f → K' f) : Z X G (zA G) nL (zQ X G w K') K pc lv [.int v] := by
  subst hw
  intro f H locs ls hf hP hS hl
  obtain ⟨p, l, e, R, s, m, args, below, meth, c, n1, n2⟩ := X
  obtain ⟨h1, h2⟩ := hN
  dsimp only at h1 h2
  subst h1; subst h2
  exact W.iret C.1.1 C.1.2.1 hr (fun t ht hW => ⟨⟨rfl, ⟨f, hK f hf, by rw [ht]; exact hP⟩, va_K.moved hW.alike C.2.1⟩, hS.F ht⟩) hS.2.2 hd C.2.2.2.2.1
theorem Z_zret {v : Int32} {ty : FieldType} (C : zC X G (zA G) cc nL own fr lo) (hN : zN X) (hr : X.meth.sig.returnType = some ty) (hn : narrow ty (.int v) = .int v) (hd : decode cc pc = .ok (.ireturn, 1)) (hw : w = some (.int v)) (hK : ∀ f, K f → K' f) : Z X G (zA G) nL (zQ X G w K') K pc lv [.int v] := by
  subst hw
  intro f H locs ls hf hP hS hl
  obtain ⟨p, l, e, R, s, m, args, below, meth, c, n1, n2⟩ := X
  obtain ⟨h1, h2⟩ := hN
  dsimp only at h1 h2
  subst h1; subst h2
  exact W.zret C.1.1 C.1.2.1 hr hn (fun t ht hW => ⟨⟨rfl, ⟨f, hK f hf, by rw [ht]; exact hP⟩, va_K.moved hW.alike C.2.1⟩, hS.F ht⟩) hS.2.2 hd C.2.2.2.2.1
theorem Z_vret (C : zC X G (zA G) cc nL own fr lo) (hN : zN X) (hr : X.meth.sig.returnType = none) (hd : decode cc pc = .ok (.return_, 1)) (hw : w = none) (hK : ∀ f, K f → K' f) : Z X G (zA G) nL (zQ X G w K') K pc lv [] := by
  subst hw
  intro f H locs ls hf hP hS hl
  obtain ⟨p, l, e, R, s, m, args, below, meth, c, n1, n2⟩ := X
  obtain ⟨h1, h2⟩ := hN
  dsimp only at h1 h2
  subst h1; subst h2
  exact W.vret C.1.1 C.1.2.1 hr (fun t ht hW => ⟨⟨rfl, ⟨f, hK f hf, by rw [ht]; exact hP⟩, va_K.moved hW.alike C.2.1⟩, hS.F ht⟩) hS.2.2 hd C.2.2.2.2.1
theorem Z_aret {v : Value} {rt : FieldType} (C : zC X G (zA G) cc nL own fr lo) (hN : zN X) (hr : X.meth.sig.returnType = some rt) (hrt : (∃ n, rt = .object n) ∨ ∃ t, rt = .array t) (hv : v = .null ∨ ∃ a, v = .ref a) (hd : decode cc pc = .ok (.areturn, 1)) (hw : w = some v) (hK : ∀ f, K f → K' f) : Z X G (zA G) nL (zQ X G w K') K pc lv [v] := by
  subst hw
  intro f H locs ls hf hP hS hl
  obtain ⟨p, l, e, R, s, m, args, below, meth, c, n1, n2⟩ := X
  obtain ⟨h1, h2⟩ := hN
  dsimp only at h1 h2
  subst h1; subst h2
  exact W.aret C.1.1 C.1.2.1 hr hrt hv (fun t ht hW => ⟨⟨rfl, ⟨f, hK f hf, by rw [ht]; exact hP⟩, va_K.moved hW.alike C.2.1⟩, hS.F ht⟩) hS.2.2 hd C.2.2.2.2.1
end ZE
section ZCl
variable {X : zX} {G : zG} {A : Nat → Prop} {nL : Nat} {Q : State → Prop} {K K' : zK} {pc : Nat} {lv : List (Nat × Value)} {st rest As : List Value} {cc bytes : ByteArray} {own : String} {fr lo fr' lo' : Nat} {y : MethodName} {w : Option Value} {n b index maxL : Nat} {ret : Option FieldType}
theorem zPre.blind : FrameBlind (va_Pc As (zPre G K)) := fun a U g mk q => by
  obtain ⟨q0, q1, qK⟩ := q
  exact ⟨q0, q1, va_K.moved (u := U) (U := U.calling g mk a) (Vm.Alike.refl U.vm) qK⟩
theorem zPre.at {f : Nat → va_E} {H : Heap} (C : zC X G A cc nL own fr lo) (hf : K f) (hP : va_P G.1 G.2.1 (va_pl G.2.2.2 f) H) : ∀ U : State, U.heap = H → X.s.WarmedH U.vm → va_Pc As (zPre G K) As.toArray U :=
  fun U hU hW => ⟨rfl, ⟨f, hf, by rw [hU]; exact hP⟩, va_K.moved hW.alike C.2.1⟩
/-- behind the run of a call: the walk goes on with the callee's answer and state -/
theorem zBack (C : zC X G A cc nL own fr lo) {H : Heap} {locs : List Loc} {ls : Array Slot} {a : Array Value} (hS : va_S A X.s.heap H locs) (hl : lv_has ls nL lv)
    (hr : va_Run X.1 X.2.1 X.2.2.1 X.2.2.2.1 X.2.2.2.2.1 X.2.2.2.2.2.1 X.2.2.2.2.2.2.1 X.2.2.2.2.2.2.2.1 X.2.2.2.2.2.2.2.2.1 X.2.2.2.2.2.2.2.2.2.1 H locs X.2.2.2.2.2.2.2.2.2.2.1 X.2.2.2.2.2.2.2.2.2.2.2 0 0 (F0 X.m pc ls st) rest (zPost G w K' a) (zA G))
    (k : Z X G A nL Q K' (pc + 3) lv (w.toList ++ rest)) : zW X H locs Q (F0 X.m pc ls st) := by
  intro T hT XX
  obtain ⟨v, st₀, t, T', L, h0, X', hL, e1, e2, ⟨⟨hv, ⟨f', hf', hP'⟩, hK'⟩, hz, hk⟩, stp⟩ := hr T hT XX
  cases hv
  rw [h0] at hz hk
  have hS' : va_S A X.s.heap T'.heap (locs ++ L) := ⟨Nat.le_trans hS.1 (by rw [e1]; exact hz), fun q h1 h2 => by
      rw [e1, hk q (Nat.lt_of_lt_of_le h1 hS.1) (fun z => h2 (C.2.2.2.1 q z))]; exact hS.2.1 q h1 h2, fun q hq => by
      rcases List.mem_append.mp hq with h | h
      · exact hS.2.2 q h
      · exact C.2.2.2.1 _ (hL q h)⟩
  obtain ⟨t2, a1, b1⟩ := k f' T'.heap (locs ++ L) ls hf' (by rw [e1]; exact hP') hS' hl T' rfl X'
  exact ⟨t2, stp t2 a1, b1⟩
/-- what a call's words are, of an instance method; of a static one -/
def zMi (y : MethodName) (bytes : ByteArray) (maxL : Nat) (ret : Option FieldType) (n : Nat) : Prop :=
  Cond.instanceMethod y ∈ zT ∧ Cond.selects y.cls y y ∈ zT ∧ Cond.initialized y.cls ∈ zT ∧ Cond.code y bytes maxL ret ∈ zT ∧ (y.cls ≠ "java/lang/invoke/MethodHandle" ∧ y.cls ≠ "java/lang/invoke/VarHandle") ∧ (parseMethodDescriptor y.desc).map (fun d => d.parameters.length) = some n
def zMs (y : MethodName) (bytes : ByteArray) (maxL : Nat) (ret : Option FieldType) (n : Nat) : Prop :=
  Cond.static y ∈ zT ∧ Cond.initialized y.cls ∈ zT ∧ Cond.code y bytes maxL ret ∈ zT ∧ (y.cls ≠ "java/lang/invoke/MethodHandle" ∧ y.cls ≠ "java/lang/invoke/VarHandle") ∧ (parseMethodDescriptor y.desc).map (fun d => d.parameters.length) = some n
theorem zCB (C : zC X G A cc nL own fr lo) (hini : Cond.initialized y.cls ∈ zT) (hc : Cond.code y bytes maxL ret ∈ zT) (hy : y.cls ≠ "java/lang/invoke/MethodHandle" ∧ y.cls ≠ "java/lang/invoke/VarHandle") (hn : (parseMethodDescriptor y.desc).map (fun d => d.parameters.length) = some n) (hl : Cond.methodLink own index y ∈ zT) (hle : fr' + 1 ≤ fr ∧ 19 + maxL + lo' ≤ lo) :
    CallB X.R X.s X.args own index y bytes maxL ret (zWs y bytes maxL ret) (zRm fr' lo') 0 0 n := by
  have hts := C.1.2.2.2.2
  have good : ∀ w ∈ zWs y bytes maxL ret, w ∈ zT ∧ ((w.onTables && w.keeps) = true ∨ ∃ ty, w = .arrayClass ty) := by
    intro w hw
    have h1 : w ∈ zT := by
      rcases List.mem_cons.mp hw with h | h
      · rw [h]; exact hc
      · exact h
    exact ⟨h1, good_of_word (List.mem_filter.mp h1).2⟩
  have e1 := C.2.2.2.2.2.2.2.1
  have e2 := C.2.2.2.2.2.2.2.2
  refine ⟨rfl, rfl, ?_, ?_, pay_in hts good, List.mem_cons_self, hts _ hc, hts _ hini, hy, fun sig h => ?_, hts _ hl⟩
  · show fr' + 1 ≤ _; omega
  · show 8 + (maxL + 11) + lo' ≤ _; omega
  · rw [h] at hn
    exact (Option.some.inj hn).symm
theorem Z_callV (C : zC X G A cc nL own fr lo) (mi : zMi y bytes maxL ret n) (hlk : Cond.methodLink own index y ∈ zT) (hM : zF X.l y bytes maxL ret fr' lo' G (.ref b :: As) K w K') (hle : fr' + 1 ≤ fr ∧ 19 + maxL + lo' ≤ lo)
    {ci N : Nat} {T : u_T} {fs : List Value} (hb : b ∈ G.2.2.2) (hm : ∀ f, K f → f b = .inr (ci, fs)) (hcl : G.2.1[ci]? = some (y.cls, T, N)) (hn : As.length = n) (hst : st = As.reverse ++ .ref b :: rest) (hrm : (rest.map fun v => v.category).sum ≤ 8) (hd : decode cc pc = .ok (.invokevirtual index, 3))
    (k : Z X G A nL Q K' (pc + 3) lv (w.toList ++ rest)) : Z X G A nL Q K pc lv st := by
  intro f H locs ls hf hP hS hl
  obtain ⟨q0, hq⟩ := va_pl_get (X := []) (f := f) hb
  rw [hm f hf] at hq
  have hcw := zCB C mi.2.2.1 mi.2.2.2.1 mi.2.2.2.2.1 mi.2.2.2.2.2 hlk hle
  exact zBack C hS hl (va_runV (As := As) (rest := rest) C.1 hM ⟨hcw, C.1.2.2.2.2 _ mi.1, C.1.2.2.2.2 _ mi.2.1⟩ ⟨zPre.blind, va_recv C.2.1 hP hcl hq, zPre.at C hf hP⟩ rfl hn hl.1 hst (lv_room hrm) hd ⟨C.2.2.2.2.2.1, C.2.2.2.2.2.2.1⟩) k
theorem Z_callS (C : zC X G A cc nL own fr lo) (mi : zMs y bytes maxL ret n) (hlk : Cond.methodLink own index y ∈ zT) (hM : zF X.l y bytes maxL ret fr' lo' G As K w K') (hle : fr' + 1 ≤ fr ∧ 19 + maxL + lo' ≤ lo)
    (hn : As.length = n) (hst : st = As.reverse ++ rest) (hrm : (rest.map fun v => v.category).sum ≤ 8) (hd : decode cc pc = .ok (.invokestatic index, 3))
    (k : Z X G A nL Q K' (pc + 3) lv (w.toList ++ rest)) : Z X G A nL Q K pc lv st := by
  intro f H locs ls hf hP hS hl
  have hcw := zCB C mi.2.1 mi.2.2.1 mi.2.2.2.1 mi.2.2.2.2 hlk hle
  exact zBack C hS hl (va_runS (As := As) (rest := rest) C.1 hM ⟨hcw, C.1.2.2.2.2 _ mi.1⟩ ⟨zPre.blind, zPre.at C hf hP⟩ rfl hn hl.1 hst (lv_room hrm) hd ⟨C.2.2.2.2.2.1, C.2.2.2.2.2.2.1⟩) k
theorem Z_mmax {x y : Int32} (C : zC X G A cc nL own fr lo) (hlk : Cond.methodLink own index Lib.Math.max.name ∈ zT) (h1 : Cond.static Lib.Math.max.name ∈ zT) (h2 : Cond.initialized "java/lang/Math" ∈ zT) (h3 : Cond.code Lib.Math.max.name Lib.Math.max.code 2 (some .int) ∈ zT) (hle : 1 ≤ fr ∧ (rest.map fun v => v.category).sum + 13 ≤ lo) (hd : decode cc pc = .ok (.invokestatic index, 3))
    (k : Z X G A nL Q K (pc + 3) lv (.int (if x < y then y else x) :: rest)) : Z X G A nL Q K pc lv (.int y :: .int x :: rest) := fun f H locs ls hf hP hS hl =>
  va_mmax C.1.1 C.1.2.1 (by rw [hl.1]; exact C.1.2.2.1) C.1.2.2.2.1 (C.1.2.2.2.2 _ hlk) (C.1.2.2.2.2 _ h1) (C.1.2.2.2.2 _ h2) (C.1.2.2.2.2 _ h3) (Nat.le_trans hle.1 C.2.2.2.2.2.2.2.1) (Nat.le_trans hle.2 C.2.2.2.2.2.2.2.2) C.2.2.2.2.2.1 C.2.2.2.2.2.2.1 hd (k f H locs ls hf hP hS hl)
theorem Z_mmin {x y : Int32} (C : zC X G A cc nL own fr lo) (hlk : Cond.methodLink own index Lib.Math.min.name ∈ zT) (h1 : Cond.static Lib.Math.min.name ∈ zT) (h2 : Cond.initialized "java/lang/Math" ∈ zT) (h3 : Cond.code Lib.Math.min.name Lib.Math.min.code 2 (some .int) ∈ zT) (hle : 1 ≤ fr ∧ (rest.map fun v => v.category).sum + 13 ≤ lo) (hd : decode cc pc = .ok (.invokestatic index, 3))
    (k : Z X G A nL Q K (pc + 3) lv (.int (if y < x then y else x) :: rest)) : Z X G A nL Q K pc lv (.int y :: .int x :: rest) := fun f H locs ls hf hP hS hl =>
  va_mmin C.1.1 C.1.2.1 (by rw [hl.1]; exact C.1.2.2.1) C.1.2.2.2.1 (C.1.2.2.2.2 _ hlk) (C.1.2.2.2.2 _ h1) (C.1.2.2.2.2 _ h2) (C.1.2.2.2.2 _ h3) (Nat.le_trans hle.1 C.2.2.2.2.2.2.2.1) (Nat.le_trans hle.2 C.2.2.2.2.2.2.2.2) C.2.2.2.2.2.1 C.2.2.2.2.2.2.1 hd (k f H locs ls hf hP hS hl)
end ZCl
end
