theorem d_W_init_0 : decode b_W_init 0 = .ok (.aload_n 0, 1) := by decide +kernel
theorem d_W_init_1 : decode b_W_init 1 = .ok (.invokespecial 3, 3) := by decide +kernel
theorem d_W_init_4 : decode b_W_init 4 = .ok (.aload_n 0, 1) := by decide +kernel
theorem d_W_init_5 : decode b_W_init 5 = .ok (.bipush 16, 2) := by decide +kernel
theorem d_W_init_7 : decode b_W_init 7 = .ok (.newarray .int, 2) := by decide +kernel
theorem d_W_init_9 : decode b_W_init 9 = .ok (.putfield 9, 3) := by decide +kernel
theorem d_W_init_12 : decode b_W_init 12 = .ok (.iconst 0, 1) := by decide +kernel
theorem d_W_init_13 : decode b_W_init 13 = .ok (.istore_n 1, 1) := by decide +kernel
theorem d_W_init_14 : decode b_W_init 14 = .ok (.iload_n 1, 1) := by decide +kernel
theorem d_W_init_15 : decode b_W_init 15 = .ok (.bipush 16, 2) := by decide +kernel
theorem d_W_init_17 : decode b_W_init 17 = .ok (.if_icmp .ge 16, 3) := by decide +kernel
theorem d_W_init_20 : decode b_W_init 20 = .ok (.aload_n 0, 1) := by decide +kernel
theorem d_W_init_21 : decode b_W_init 21 = .ok (.getfield 9, 3) := by decide +kernel
theorem d_W_init_24 : decode b_W_init 24 = .ok (.iload_n 1, 1) := by decide +kernel
theorem d_W_init_25 : decode b_W_init 25 = .ok (.iconst (-1), 1) := by decide +kernel
theorem d_W_init_26 : decode b_W_init 26 = .ok (.iastore, 1) := by decide +kernel
theorem d_W_init_27 : decode b_W_init 27 = .ok (.iinc 1 1, 3) := by decide +kernel
theorem d_W_init_30 : decode b_W_init 30 = .ok (.goto (-16), 3) := by decide +kernel
theorem d_W_init_33 : decode b_W_init 33 = .ok (.aload_n 0, 1) := by decide +kernel
theorem d_W_init_34 : decode b_W_init 34 = .ok (.bipush 60, 2) := by decide +kernel
theorem d_W_init_36 : decode b_W_init 36 = .ok (.anewarray 15, 3) := by decide +kernel
theorem d_W_init_39 : decode b_W_init 39 = .ok (.putfield 17, 3) := by decide +kernel
theorem d_W_init_42 : decode b_W_init 42 = .ok (.iconst 0, 1) := by decide +kernel
theorem d_W_init_43 : decode b_W_init 43 = .ok (.istore_n 1, 1) := by decide +kernel
theorem d_W_init_44 : decode b_W_init 44 = .ok (.iload_n 1, 1) := by decide +kernel
theorem d_W_init_45 : decode b_W_init 45 = .ok (.bipush 60, 2) := by decide +kernel
theorem d_W_init_47 : decode b_W_init 47 = .ok (.if_icmp .ge 22, 3) := by decide +kernel
theorem d_W_init_50 : decode b_W_init 50 = .ok (.aload_n 0, 1) := by decide +kernel
theorem d_W_init_51 : decode b_W_init 51 = .ok (.getfield 17, 3) := by decide +kernel
theorem d_W_init_54 : decode b_W_init 54 = .ok (.iload_n 1, 1) := by decide +kernel
theorem d_W_init_55 : decode b_W_init 55 = .ok (.new 15, 3) := by decide +kernel
theorem d_W_init_58 : decode b_W_init 58 = .ok (.dup, 1) := by decide +kernel
theorem d_W_init_59 : decode b_W_init 59 = .ok (.invokespecial 21, 3) := by decide +kernel
theorem d_W_init_62 : decode b_W_init 62 = .ok (.aastore, 1) := by decide +kernel
theorem d_W_init_63 : decode b_W_init 63 = .ok (.iinc 1 1, 3) := by decide +kernel
theorem d_W_init_66 : decode b_W_init 66 = .ok (.goto (-22), 3) := by decide +kernel
theorem d_W_init_69 : decode b_W_init 69 = .ok (.aload_n 0, 1) := by decide +kernel
theorem d_W_init_70 : decode b_W_init 70 = .ok (.new 15, 3) := by decide +kernel
theorem d_W_init_73 : decode b_W_init 73 = .ok (.dup, 1) := by decide +kernel
theorem d_W_init_74 : decode b_W_init 74 = .ok (.invokespecial 21, 3) := by decide +kernel
theorem d_W_init_77 : decode b_W_init 77 = .ok (.putfield 22, 3) := by decide +kernel
theorem d_W_init_80 : decode b_W_init 80 = .ok (.aload_n 0, 1) := by decide +kernel
theorem d_W_init_81 : decode b_W_init 81 = .ok (.new 15, 3) := by decide +kernel
theorem d_W_init_84 : decode b_W_init 84 = .ok (.dup, 1) := by decide +kernel
theorem d_W_init_85 : decode b_W_init 85 = .ok (.invokespecial 21, 3) := by decide +kernel
theorem d_W_init_88 : decode b_W_init 88 = .ok (.putfield 26, 3) := by decide +kernel
theorem d_W_init_91 : decode b_W_init 91 = .ok (.return_, 1) := by decide +kernel
theorem d_W_placeOf_0 : decode b_W_placeOf 0 = .ok (.iload_n 1, 1) := by decide +kernel
theorem d_W_placeOf_1 : decode b_W_placeOf 1 = .ok (.ifCond .lt 21, 3) := by decide +kernel
theorem d_W_placeOf_4 : decode b_W_placeOf 4 = .ok (.iload_n 1, 1) := by decide +kernel
theorem d_W_placeOf_5 : decode b_W_placeOf 5 = .ok (.aload_n 0, 1) := by decide +kernel
theorem d_W_placeOf_6 : decode b_W_placeOf 6 = .ok (.getfield 9, 3) := by decide +kernel
theorem d_W_placeOf_9 : decode b_W_placeOf 9 = .ok (.arraylength, 1) := by decide +kernel
theorem d_W_placeOf_10 : decode b_W_placeOf 10 = .ok (.if_icmp .ge 12, 3) := by decide +kernel
theorem d_W_placeOf_13 : decode b_W_placeOf 13 = .ok (.aload_n 0, 1) := by decide +kernel
theorem d_W_placeOf_14 : decode b_W_placeOf 14 = .ok (.getfield 9, 3) := by decide +kernel
theorem d_W_placeOf_17 : decode b_W_placeOf 17 = .ok (.iload_n 1, 1) := by decide +kernel
theorem d_W_placeOf_18 : decode b_W_placeOf 18 = .ok (.iaload, 1) := by decide +kernel
theorem d_W_placeOf_19 : decode b_W_placeOf 19 = .ok (.goto 4, 3) := by decide +kernel
theorem d_W_placeOf_22 : decode b_W_placeOf 22 = .ok (.iconst (-1), 1) := by decide +kernel
theorem d_W_placeOf_23 : decode b_W_placeOf 23 = .ok (.ireturn, 1) := by decide +kernel
theorem d_W_countDue_0 : decode b_W_countDue 0 = .ok (.iconst 0, 1) := by decide +kernel
theorem d_W_countDue_1 : decode b_W_countDue 1 = .ok (.istore_n 1, 1) := by decide +kernel
theorem d_W_countDue_2 : decode b_W_countDue 2 = .ok (.iconst 0, 1) := by decide +kernel
theorem d_W_countDue_3 : decode b_W_countDue 3 = .ok (.istore_n 2, 1) := by decide +kernel
theorem d_W_countDue_4 : decode b_W_countDue 4 = .ok (.iload_n 2, 1) := by decide +kernel
theorem d_W_countDue_5 : decode b_W_countDue 5 = .ok (.aload_n 0, 1) := by decide +kernel
theorem d_W_countDue_6 : decode b_W_countDue 6 = .ok (.getfield 29, 3) := by decide +kernel
theorem d_W_countDue_9 : decode b_W_countDue 9 = .ok (.if_icmp .ge 37, 3) := by decide +kernel
theorem d_W_countDue_12 : decode b_W_countDue 12 = .ok (.iload_n 2, 1) := by decide +kernel
theorem d_W_countDue_13 : decode b_W_countDue 13 = .ok (.aload_n 0, 1) := by decide +kernel
theorem d_W_countDue_14 : decode b_W_countDue 14 = .ok (.getfield 17, 3) := by decide +kernel
theorem d_W_countDue_17 : decode b_W_countDue 17 = .ok (.arraylength, 1) := by decide +kernel
theorem d_W_countDue_18 : decode b_W_countDue 18 = .ok (.if_icmp .ge 28, 3) := by decide +kernel
theorem d_W_countDue_21 : decode b_W_countDue 21 = .ok (.aload_n 0, 1) := by decide +kernel
theorem d_W_countDue_22 : decode b_W_countDue 22 = .ok (.getfield 17, 3) := by decide +kernel
theorem d_W_countDue_25 : decode b_W_countDue 25 = .ok (.iload_n 2, 1) := by decide +kernel
theorem d_W_countDue_26 : decode b_W_countDue 26 = .ok (.aaload, 1) := by decide +kernel
theorem d_W_countDue_27 : decode b_W_countDue 27 = .ok (.getfield 33, 3) := by decide +kernel
theorem d_W_countDue_30 : decode b_W_countDue 30 = .ok (.aload_n 0, 1) := by decide +kernel
theorem d_W_countDue_31 : decode b_W_countDue 31 = .ok (.getfield 36, 3) := by decide +kernel
theorem d_W_countDue_34 : decode b_W_countDue 34 = .ok (.if_icmp .gt 6, 3) := by decide +kernel
theorem d_W_countDue_37 : decode b_W_countDue 37 = .ok (.iinc 1 1, 3) := by decide +kernel
theorem d_W_countDue_40 : decode b_W_countDue 40 = .ok (.iinc 2 1, 3) := by decide +kernel
theorem d_W_countDue_43 : decode b_W_countDue 43 = .ok (.goto (-39), 3) := by decide +kernel
theorem d_W_countDue_46 : decode b_W_countDue 46 = .ok (.iload_n 1, 1) := by decide +kernel
theorem d_W_countDue_47 : decode b_W_countDue 47 = .ok (.ireturn, 1) := by decide +kernel
theorem d_W_takeDue_0 : decode b_W_takeDue 0 = .ok (.iconst 0, 1) := by decide +kernel
theorem d_W_takeDue_1 : decode b_W_takeDue 1 = .ok (.istore_n 1, 1) := by decide +kernel
theorem d_W_takeDue_2 : decode b_W_takeDue 2 = .ok (.iload_n 1, 1) := by decide +kernel
theorem d_W_takeDue_3 : decode b_W_takeDue 3 = .ok (.aload_n 0, 1) := by decide +kernel
theorem d_W_takeDue_4 : decode b_W_takeDue 4 = .ok (.getfield 29, 3) := by decide +kernel
theorem d_W_takeDue_7 : decode b_W_takeDue 7 = .ok (.if_icmp .ge 34, 3) := by decide +kernel
theorem d_W_takeDue_10 : decode b_W_takeDue 10 = .ok (.iload_n 1, 1) := by decide +kernel
theorem d_W_takeDue_11 : decode b_W_takeDue 11 = .ok (.aload_n 0, 1) := by decide +kernel
theorem d_W_takeDue_12 : decode b_W_takeDue 12 = .ok (.getfield 17, 3) := by decide +kernel
theorem d_W_takeDue_15 : decode b_W_takeDue 15 = .ok (.arraylength, 1) := by decide +kernel
theorem d_W_takeDue_16 : decode b_W_takeDue 16 = .ok (.if_icmp .ge 25, 3) := by decide +kernel
theorem d_W_takeDue_19 : decode b_W_takeDue 19 = .ok (.aload_n 0, 1) := by decide +kernel
theorem d_W_takeDue_20 : decode b_W_takeDue 20 = .ok (.getfield 17, 3) := by decide +kernel
theorem d_W_takeDue_23 : decode b_W_takeDue 23 = .ok (.iload_n 1, 1) := by decide +kernel
theorem d_W_takeDue_24 : decode b_W_takeDue 24 = .ok (.aaload, 1) := by decide +kernel
theorem d_W_takeDue_25 : decode b_W_takeDue 25 = .ok (.getfield 33, 3) := by decide +kernel
theorem d_W_takeDue_28 : decode b_W_takeDue 28 = .ok (.aload_n 0, 1) := by decide +kernel
theorem d_W_takeDue_29 : decode b_W_takeDue 29 = .ok (.getfield 36, 3) := by decide +kernel
theorem d_W_takeDue_32 : decode b_W_takeDue 32 = .ok (.if_icmp .le 9, 3) := by decide +kernel
theorem d_W_takeDue_35 : decode b_W_takeDue 35 = .ok (.iinc 1 1, 3) := by decide +kernel
theorem d_W_takeDue_38 : decode b_W_takeDue 38 = .ok (.goto (-36), 3) := by decide +kernel
theorem d_W_takeDue_41 : decode b_W_takeDue 41 = .ok (.iload_n 1, 1) := by decide +kernel
theorem d_W_takeDue_42 : decode b_W_takeDue 42 = .ok (.aload_n 0, 1) := by decide +kernel
theorem d_W_takeDue_43 : decode b_W_takeDue 43 = .ok (.getfield 29, 3) := by decide +kernel
theorem d_W_takeDue_46 : decode b_W_takeDue 46 = .ok (.if_icmp .ge 82, 3) := by decide +kernel
theorem d_W_takeDue_49 : decode b_W_takeDue 49 = .ok (.aload_n 0, 1) := by decide +kernel
theorem d_W_takeDue_50 : decode b_W_takeDue 50 = .ok (.getfield 29, 3) := by decide +kernel
theorem d_W_takeDue_53 : decode b_W_takeDue 53 = .ok (.aload_n 0, 1) := by decide +kernel
theorem d_W_takeDue_54 : decode b_W_takeDue 54 = .ok (.getfield 17, 3) := by decide +kernel
theorem d_W_takeDue_57 : decode b_W_takeDue 57 = .ok (.arraylength, 1) := by decide +kernel
theorem d_W_takeDue_58 : decode b_W_takeDue 58 = .ok (.if_icmp .gt 70, 3) := by decide +kernel
theorem d_W_takeDue_61 : decode b_W_takeDue 61 = .ok (.aload_n 0, 1) := by decide +kernel
theorem d_W_takeDue_62 : decode b_W_takeDue 62 = .ok (.getfield 17, 3) := by decide +kernel
theorem d_W_takeDue_65 : decode b_W_takeDue 65 = .ok (.iload_n 1, 1) := by decide +kernel
theorem d_W_takeDue_66 : decode b_W_takeDue 66 = .ok (.aaload, 1) := by decide +kernel
theorem d_W_takeDue_67 : decode b_W_takeDue 67 = .ok (.astore_n 2, 1) := by decide +kernel
theorem d_W_takeDue_68 : decode b_W_takeDue 68 = .ok (.iload_n 1, 1) := by decide +kernel
theorem d_W_takeDue_69 : decode b_W_takeDue 69 = .ok (.iconst 1, 1) := by decide +kernel
theorem d_W_takeDue_70 : decode b_W_takeDue 70 = .ok (.iadd, 1) := by decide +kernel
theorem d_W_takeDue_71 : decode b_W_takeDue 71 = .ok (.istore_n 3, 1) := by decide +kernel
theorem d_W_takeDue_72 : decode b_W_takeDue 72 = .ok (.iload_n 3, 1) := by decide +kernel
theorem d_W_takeDue_73 : decode b_W_takeDue 73 = .ok (.aload_n 0, 1) := by decide +kernel
theorem d_W_takeDue_74 : decode b_W_takeDue 74 = .ok (.getfield 29, 3) := by decide +kernel
theorem d_W_takeDue_77 : decode b_W_takeDue 77 = .ok (.if_icmp .ge 23, 3) := by decide +kernel
theorem d_W_takeDue_80 : decode b_W_takeDue 80 = .ok (.aload_n 0, 1) := by decide +kernel
theorem d_W_takeDue_81 : decode b_W_takeDue 81 = .ok (.getfield 17, 3) := by decide +kernel
theorem d_W_takeDue_84 : decode b_W_takeDue 84 = .ok (.iload_n 3, 1) := by decide +kernel
theorem d_W_takeDue_85 : decode b_W_takeDue 85 = .ok (.iconst 1, 1) := by decide +kernel
theorem d_W_takeDue_86 : decode b_W_takeDue 86 = .ok (.isub, 1) := by decide +kernel
theorem d_W_takeDue_87 : decode b_W_takeDue 87 = .ok (.aload_n 0, 1) := by decide +kernel
theorem d_W_takeDue_88 : decode b_W_takeDue 88 = .ok (.getfield 17, 3) := by decide +kernel
theorem d_W_takeDue_91 : decode b_W_takeDue 91 = .ok (.iload_n 3, 1) := by decide +kernel
theorem d_W_takeDue_92 : decode b_W_takeDue 92 = .ok (.aaload, 1) := by decide +kernel
theorem d_W_takeDue_93 : decode b_W_takeDue 93 = .ok (.aastore, 1) := by decide +kernel
theorem d_W_takeDue_94 : decode b_W_takeDue 94 = .ok (.iinc 3 1, 3) := by decide +kernel
theorem d_W_takeDue_97 : decode b_W_takeDue 97 = .ok (.goto (-25), 3) := by decide +kernel
theorem d_W_takeDue_100 : decode b_W_takeDue 100 = .ok (.aload_n 0, 1) := by decide +kernel
theorem d_W_takeDue_101 : decode b_W_takeDue 101 = .ok (.dup, 1) := by decide +kernel
theorem d_W_takeDue_102 : decode b_W_takeDue 102 = .ok (.getfield 29, 3) := by decide +kernel
theorem d_W_takeDue_105 : decode b_W_takeDue 105 = .ok (.iconst 1, 1) := by decide +kernel
theorem d_W_takeDue_106 : decode b_W_takeDue 106 = .ok (.isub, 1) := by decide +kernel
theorem d_W_takeDue_107 : decode b_W_takeDue 107 = .ok (.putfield 29, 3) := by decide +kernel
theorem d_W_takeDue_110 : decode b_W_takeDue 110 = .ok (.aload_n 0, 1) := by decide +kernel
theorem d_W_takeDue_111 : decode b_W_takeDue 111 = .ok (.getfield 17, 3) := by decide +kernel
theorem d_W_takeDue_114 : decode b_W_takeDue 114 = .ok (.aload_n 0, 1) := by decide +kernel
theorem d_W_takeDue_115 : decode b_W_takeDue 115 = .ok (.getfield 29, 3) := by decide +kernel
theorem d_W_takeDue_118 : decode b_W_takeDue 118 = .ok (.aload_n 0, 1) := by decide +kernel
theorem d_W_takeDue_119 : decode b_W_takeDue 119 = .ok (.getfield 26, 3) := by decide +kernel
theorem d_W_takeDue_122 : decode b_W_takeDue 122 = .ok (.aastore, 1) := by decide +kernel
theorem d_W_takeDue_123 : decode b_W_takeDue 123 = .ok (.aload_n 0, 1) := by decide +kernel
theorem d_W_takeDue_124 : decode b_W_takeDue 124 = .ok (.aload_n 2, 1) := by decide +kernel
theorem d_W_takeDue_125 : decode b_W_takeDue 125 = .ok (.putfield 26, 3) := by decide +kernel
theorem d_W_takeDue_128 : decode b_W_takeDue 128 = .ok (.aload_n 0, 1) := by decide +kernel
theorem d_W_takeDue_129 : decode b_W_takeDue 129 = .ok (.getfield 26, 3) := by decide +kernel
theorem d_W_takeDue_132 : decode b_W_takeDue 132 = .ok (.areturn, 1) := by decide +kernel
theorem d_W_newDraft_0 : decode b_W_newDraft 0 = .ok (.aload_n 0, 1) := by decide +kernel
theorem d_W_newDraft_1 : decode b_W_newDraft 1 = .ok (.getfield 22, 3) := by decide +kernel
theorem d_W_newDraft_4 : decode b_W_newDraft 4 = .ok (.iconst 0, 1) := by decide +kernel
theorem d_W_newDraft_5 : decode b_W_newDraft 5 = .ok (.putfield 39, 3) := by decide +kernel
theorem d_W_newDraft_8 : decode b_W_newDraft 8 = .ok (.aload_n 0, 1) := by decide +kernel
theorem d_W_newDraft_9 : decode b_W_newDraft 9 = .ok (.getfield 22, 3) := by decide +kernel
theorem d_W_newDraft_12 : decode b_W_newDraft 12 = .ok (.iload_n 1, 1) := by decide +kernel
theorem d_W_newDraft_13 : decode b_W_newDraft 13 = .ok (.putfield 42, 3) := by decide +kernel
theorem d_W_newDraft_16 : decode b_W_newDraft 16 = .ok (.aload_n 0, 1) := by decide +kernel
theorem d_W_newDraft_17 : decode b_W_newDraft 17 = .ok (.getfield 22, 3) := by decide +kernel
theorem d_W_newDraft_20 : decode b_W_newDraft 20 = .ok (.iload_n 2, 1) := by decide +kernel
theorem d_W_newDraft_21 : decode b_W_newDraft 21 = .ok (.putfield 45, 3) := by decide +kernel
theorem d_W_newDraft_24 : decode b_W_newDraft 24 = .ok (.aload_n 0, 1) := by decide +kernel
theorem d_W_newDraft_25 : decode b_W_newDraft 25 = .ok (.getfield 22, 3) := by decide +kernel
theorem d_W_newDraft_28 : decode b_W_newDraft 28 = .ok (.iload_n 3, 1) := by decide +kernel
theorem d_W_newDraft_29 : decode b_W_newDraft 29 = .ok (.putfield 48, 3) := by decide +kernel
theorem d_W_newDraft_32 : decode b_W_newDraft 32 = .ok (.aload_n 0, 1) := by decide +kernel
theorem d_W_newDraft_33 : decode b_W_newDraft 33 = .ok (.getfield 22, 3) := by decide +kernel
theorem d_W_newDraft_36 : decode b_W_newDraft 36 = .ok (.iload 4, 2) := by decide +kernel
theorem d_W_newDraft_38 : decode b_W_newDraft 38 = .ok (.putfield 51, 3) := by decide +kernel
theorem d_W_newDraft_41 : decode b_W_newDraft 41 = .ok (.aload_n 0, 1) := by decide +kernel
theorem d_W_newDraft_42 : decode b_W_newDraft 42 = .ok (.getfield 22, 3) := by decide +kernel
theorem d_W_newDraft_45 : decode b_W_newDraft 45 = .ok (.sipush 255, 3) := by decide +kernel
theorem d_W_newDraft_48 : decode b_W_newDraft 48 = .ok (.putfield 54, 3) := by decide +kernel
theorem d_W_newDraft_51 : decode b_W_newDraft 51 = .ok (.aload_n 0, 1) := by decide +kernel
theorem d_W_newDraft_52 : decode b_W_newDraft 52 = .ok (.getfield 22, 3) := by decide +kernel
theorem d_W_newDraft_55 : decode b_W_newDraft 55 = .ok (.areturn, 1) := by decide +kernel
theorem d_W_carryDraft_0 : decode b_W_carryDraft 0 = .ok (.aload_n 0, 1) := by decide +kernel
theorem d_W_carryDraft_1 : decode b_W_carryDraft 1 = .ok (.getfield 22, 3) := by decide +kernel
theorem d_W_carryDraft_4 : decode b_W_carryDraft 4 = .ok (.getfield 45, 3) := by decide +kernel
theorem d_W_carryDraft_7 : decode b_W_carryDraft 7 = .ok (.ifCond .lt 31, 3) := by decide +kernel
theorem d_W_carryDraft_10 : decode b_W_carryDraft 10 = .ok (.aload_n 0, 1) := by decide +kernel
theorem d_W_carryDraft_11 : decode b_W_carryDraft 11 = .ok (.getfield 22, 3) := by decide +kernel
theorem d_W_carryDraft_14 : decode b_W_carryDraft 14 = .ok (.getfield 45, 3) := by decide +kernel
theorem d_W_carryDraft_17 : decode b_W_carryDraft 17 = .ok (.aload_n 0, 1) := by decide +kernel
theorem d_W_carryDraft_18 : decode b_W_carryDraft 18 = .ok (.getfield 9, 3) := by decide +kernel
theorem d_W_carryDraft_21 : decode b_W_carryDraft 21 = .ok (.arraylength, 1) := by decide +kernel
theorem d_W_carryDraft_22 : decode b_W_carryDraft 22 = .ok (.if_icmp .ge 16, 3) := by decide +kernel
theorem d_W_carryDraft_25 : decode b_W_carryDraft 25 = .ok (.aload_n 0, 1) := by decide +kernel
theorem d_W_carryDraft_26 : decode b_W_carryDraft 26 = .ok (.getfield 9, 3) := by decide +kernel
theorem d_W_carryDraft_29 : decode b_W_carryDraft 29 = .ok (.aload_n 0, 1) := by decide +kernel
theorem d_W_carryDraft_30 : decode b_W_carryDraft 30 = .ok (.getfield 22, 3) := by decide +kernel
theorem d_W_carryDraft_33 : decode b_W_carryDraft 33 = .ok (.getfield 45, 3) := by decide +kernel
theorem d_W_carryDraft_36 : decode b_W_carryDraft 36 = .ok (.iload_n 1, 1) := by decide +kernel
theorem d_W_carryDraft_37 : decode b_W_carryDraft 37 = .ok (.iastore, 1) := by decide +kernel
theorem d_W_carryDraft_38 : decode b_W_carryDraft 38 = .ok (.aload_n 0, 1) := by decide +kernel
theorem d_W_carryDraft_39 : decode b_W_carryDraft 39 = .ok (.getfield 29, 3) := by decide +kernel
theorem d_W_carryDraft_42 : decode b_W_carryDraft 42 = .ok (.ifCond .lt 15, 3) := by decide +kernel
theorem d_W_carryDraft_45 : decode b_W_carryDraft 45 = .ok (.aload_n 0, 1) := by decide +kernel
theorem d_W_carryDraft_46 : decode b_W_carryDraft 46 = .ok (.getfield 29, 3) := by decide +kernel
theorem d_W_carryDraft_49 : decode b_W_carryDraft 49 = .ok (.aload_n 0, 1) := by decide +kernel
theorem d_W_carryDraft_50 : decode b_W_carryDraft 50 = .ok (.getfield 17, 3) := by decide +kernel
theorem d_W_carryDraft_53 : decode b_W_carryDraft 53 = .ok (.arraylength, 1) := by decide +kernel
theorem d_W_carryDraft_54 : decode b_W_carryDraft 54 = .ok (.if_icmp .lt 4, 3) := by decide +kernel
theorem d_W_carryDraft_57 : decode b_W_carryDraft 57 = .ok (.return_, 1) := by decide +kernel
theorem d_W_carryDraft_58 : decode b_W_carryDraft 58 = .ok (.aload_n 0, 1) := by decide +kernel
theorem d_W_carryDraft_59 : decode b_W_carryDraft 59 = .ok (.getfield 22, 3) := by decide +kernel
theorem d_W_carryDraft_62 : decode b_W_carryDraft 62 = .ok (.getfield 48, 3) := by decide +kernel
theorem d_W_carryDraft_65 : decode b_W_carryDraft 65 = .ok (.ifCond .lt 38, 3) := by decide +kernel
theorem d_W_carryDraft_68 : decode b_W_carryDraft 68 = .ok (.aload_n 0, 1) := by decide +kernel
theorem d_W_carryDraft_69 : decode b_W_carryDraft 69 = .ok (.getfield 22, 3) := by decide +kernel
theorem d_W_carryDraft_72 : decode b_W_carryDraft 72 = .ok (.getfield 48, 3) := by decide +kernel
theorem d_W_carryDraft_75 : decode b_W_carryDraft 75 = .ok (.aload_n 0, 1) := by decide +kernel
theorem d_W_carryDraft_76 : decode b_W_carryDraft 76 = .ok (.getfield 9, 3) := by decide +kernel
theorem d_W_carryDraft_79 : decode b_W_carryDraft 79 = .ok (.arraylength, 1) := by decide +kernel
theorem d_W_carryDraft_80 : decode b_W_carryDraft 80 = .ok (.if_icmp .ge 23, 3) := by decide +kernel
theorem d_W_carryDraft_83 : decode b_W_carryDraft 83 = .ok (.aload_n 0, 1) := by decide +kernel
theorem d_W_carryDraft_84 : decode b_W_carryDraft 84 = .ok (.getfield 9, 3) := by decide +kernel
theorem d_W_carryDraft_87 : decode b_W_carryDraft 87 = .ok (.aload_n 0, 1) := by decide +kernel
theorem d_W_carryDraft_88 : decode b_W_carryDraft 88 = .ok (.getfield 22, 3) := by decide +kernel
theorem d_W_carryDraft_91 : decode b_W_carryDraft 91 = .ok (.getfield 48, 3) := by decide +kernel
theorem d_W_carryDraft_94 : decode b_W_carryDraft 94 = .ok (.iaload, 1) := by decide +kernel
theorem d_W_carryDraft_95 : decode b_W_carryDraft 95 = .ok (.iconst (-1), 1) := by decide +kernel
theorem d_W_carryDraft_96 : decode b_W_carryDraft 96 = .ok (.if_icmp .eq 7, 3) := by decide +kernel
theorem d_W_carryDraft_99 : decode b_W_carryDraft 99 = .ok (.iconst 1, 1) := by decide +kernel
theorem d_W_carryDraft_100 : decode b_W_carryDraft 100 = .ok (.goto 4, 3) := by decide +kernel
theorem d_W_carryDraft_103 : decode b_W_carryDraft 103 = .ok (.iconst 0, 1) := by decide +kernel
theorem d_W_carryDraft_104 : decode b_W_carryDraft 104 = .ok (.istore_n 3, 1) := by decide +kernel
theorem d_W_carryDraft_105 : decode b_W_carryDraft 105 = .ok (.iload_n 3, 1) := by decide +kernel
theorem d_W_carryDraft_106 : decode b_W_carryDraft 106 = .ok (.ifCond .eq 20, 3) := by decide +kernel
theorem d_W_carryDraft_109 : decode b_W_carryDraft 109 = .ok (.iconst 1, 1) := by decide +kernel
theorem d_W_carryDraft_110 : decode b_W_carryDraft 110 = .ok (.aload_n 0, 1) := by decide +kernel
theorem d_W_carryDraft_111 : decode b_W_carryDraft 111 = .ok (.getfield 9, 3) := by decide +kernel
theorem d_W_carryDraft_114 : decode b_W_carryDraft 114 = .ok (.aload_n 0, 1) := by decide +kernel
theorem d_W_carryDraft_115 : decode b_W_carryDraft 115 = .ok (.getfield 22, 3) := by decide +kernel
theorem d_W_carryDraft_118 : decode b_W_carryDraft 118 = .ok (.getfield 48, 3) := by decide +kernel
theorem d_W_carryDraft_121 : decode b_W_carryDraft 121 = .ok (.iaload, 1) := by decide +kernel
theorem d_W_carryDraft_122 : decode b_W_carryDraft 122 = .ok (.ishl, 1) := by decide +kernel
theorem d_W_carryDraft_123 : decode b_W_carryDraft 123 = .ok (.goto 5, 3) := by decide +kernel
theorem d_W_carryDraft_126 : decode b_W_carryDraft 126 = .ok (.bipush 31, 2) := by decide +kernel
theorem d_W_carryDraft_128 : decode b_W_carryDraft 128 = .ok (.istore 4, 2) := by decide +kernel
theorem d_W_carryDraft_130 : decode b_W_carryDraft 130 = .ok (.aload_n 0, 1) := by decide +kernel
theorem d_W_carryDraft_131 : decode b_W_carryDraft 131 = .ok (.getfield 22, 3) := by decide +kernel
theorem d_W_carryDraft_134 : decode b_W_carryDraft 134 = .ok (.iload 4, 2) := by decide +kernel
theorem d_W_carryDraft_136 : decode b_W_carryDraft 136 = .ok (.iconst 1, 1) := by decide +kernel
theorem d_W_carryDraft_137 : decode b_W_carryDraft 137 = .ok (.iload_n 1, 1) := by decide +kernel
theorem d_W_carryDraft_138 : decode b_W_carryDraft 138 = .ok (.ishl, 1) := by decide +kernel
theorem d_W_carryDraft_139 : decode b_W_carryDraft 139 = .ok (.iconst (-1), 1) := by decide +kernel
theorem d_W_carryDraft_140 : decode b_W_carryDraft 140 = .ok (.ixor, 1) := by decide +kernel
theorem d_W_carryDraft_141 : decode b_W_carryDraft 141 = .ok (.iand, 1) := by decide +kernel
theorem d_W_carryDraft_142 : decode b_W_carryDraft 142 = .ok (.putfield 57, 3) := by decide +kernel
theorem d_W_carryDraft_145 : decode b_W_carryDraft 145 = .ok (.aload_n 0, 1) := by decide +kernel
theorem d_W_carryDraft_146 : decode b_W_carryDraft 146 = .ok (.getfield 22, 3) := by decide +kernel
theorem d_W_carryDraft_149 : decode b_W_carryDraft 149 = .ok (.aload_n 0, 1) := by decide +kernel
theorem d_W_carryDraft_150 : decode b_W_carryDraft 150 = .ok (.getfield 36, 3) := by decide +kernel
theorem d_W_carryDraft_153 : decode b_W_carryDraft 153 = .ok (.iload_n 2, 1) := by decide +kernel
theorem d_W_carryDraft_154 : decode b_W_carryDraft 154 = .ok (.iadd, 1) := by decide +kernel
theorem d_W_carryDraft_155 : decode b_W_carryDraft 155 = .ok (.putfield 33, 3) := by decide +kernel
theorem d_W_carryDraft_158 : decode b_W_carryDraft 158 = .ok (.aload_n 0, 1) := by decide +kernel
theorem d_W_carryDraft_159 : decode b_W_carryDraft 159 = .ok (.getfield 17, 3) := by decide +kernel
theorem d_W_carryDraft_162 : decode b_W_carryDraft 162 = .ok (.aload_n 0, 1) := by decide +kernel
theorem d_W_carryDraft_163 : decode b_W_carryDraft 163 = .ok (.getfield 29, 3) := by decide +kernel
theorem d_W_carryDraft_166 : decode b_W_carryDraft 166 = .ok (.aaload, 1) := by decide +kernel
theorem d_W_carryDraft_167 : decode b_W_carryDraft 167 = .ok (.astore 5, 2) := by decide +kernel
theorem d_W_carryDraft_169 : decode b_W_carryDraft 169 = .ok (.aload_n 0, 1) := by decide +kernel
theorem d_W_carryDraft_170 : decode b_W_carryDraft 170 = .ok (.getfield 17, 3) := by decide +kernel
theorem d_W_carryDraft_173 : decode b_W_carryDraft 173 = .ok (.aload_n 0, 1) := by decide +kernel
theorem d_W_carryDraft_174 : decode b_W_carryDraft 174 = .ok (.getfield 29, 3) := by decide +kernel
theorem d_W_carryDraft_177 : decode b_W_carryDraft 177 = .ok (.aload_n 0, 1) := by decide +kernel
theorem d_W_carryDraft_178 : decode b_W_carryDraft 178 = .ok (.getfield 22, 3) := by decide +kernel
theorem d_W_carryDraft_181 : decode b_W_carryDraft 181 = .ok (.aastore, 1) := by decide +kernel
theorem d_W_carryDraft_182 : decode b_W_carryDraft 182 = .ok (.aload_n 0, 1) := by decide +kernel
theorem d_W_carryDraft_183 : decode b_W_carryDraft 183 = .ok (.dup, 1) := by decide +kernel
theorem d_W_carryDraft_184 : decode b_W_carryDraft 184 = .ok (.getfield 29, 3) := by decide +kernel
theorem d_W_carryDraft_187 : decode b_W_carryDraft 187 = .ok (.iconst 1, 1) := by decide +kernel
theorem d_W_carryDraft_188 : decode b_W_carryDraft 188 = .ok (.iadd, 1) := by decide +kernel
theorem d_W_carryDraft_189 : decode b_W_carryDraft 189 = .ok (.putfield 29, 3) := by decide +kernel
theorem d_W_carryDraft_192 : decode b_W_carryDraft 192 = .ok (.aload_n 0, 1) := by decide +kernel
theorem d_W_carryDraft_193 : decode b_W_carryDraft 193 = .ok (.aload 5, 2) := by decide +kernel
theorem d_W_carryDraft_195 : decode b_W_carryDraft 195 = .ok (.putfield 22, 3) := by decide +kernel
theorem d_W_carryDraft_198 : decode b_W_carryDraft 198 = .ok (.return_, 1) := by decide +kernel
