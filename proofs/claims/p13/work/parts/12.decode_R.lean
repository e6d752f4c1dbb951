theorem d_R_init_0 : decode b_R_init 0 = .ok (.aload_n 0, 1) := by decide +kernel
theorem d_R_init_1 : decode b_R_init 1 = .ok (.invokespecial 3, 3) := by decide +kernel
theorem d_R_init_4 : decode b_R_init 4 = .ok (.aload_n 0, 1) := by decide +kernel
theorem d_R_init_5 : decode b_R_init 5 = .ok (.iload_n 1, 1) := by decide +kernel
theorem d_R_init_6 : decode b_R_init 6 = .ok (.putfield 9, 3) := by decide +kernel
theorem d_R_init_9 : decode b_R_init 9 = .ok (.aload_n 0, 1) := by decide +kernel
theorem d_R_init_10 : decode b_R_init 10 = .ok (.aload_n 2, 1) := by decide +kernel
theorem d_R_init_11 : decode b_R_init 11 = .ok (.putfield 15, 3) := by decide +kernel
theorem d_R_init_14 : decode b_R_init 14 = .ok (.aload_n 0, 1) := by decide +kernel
theorem d_R_init_15 : decode b_R_init 15 = .ok (.bipush 10, 2) := by decide +kernel
theorem d_R_init_17 : decode b_R_init 17 = .ok (.newarray .int, 2) := by decide +kernel
theorem d_R_init_19 : decode b_R_init 19 = .ok (.dup, 1) := by decide +kernel
theorem d_R_init_20 : decode b_R_init 20 = .ok (.iconst 0, 1) := by decide +kernel
theorem d_R_init_21 : decode b_R_init 21 = .ok (.bipush 100, 2) := by decide +kernel
theorem d_R_init_23 : decode b_R_init 23 = .ok (.iastore, 1) := by decide +kernel
theorem d_R_init_24 : decode b_R_init 24 = .ok (.dup, 1) := by decide +kernel
theorem d_R_init_25 : decode b_R_init 25 = .ok (.iconst 1, 1) := by decide +kernel
theorem d_R_init_26 : decode b_R_init 26 = .ok (.bipush 100, 2) := by decide +kernel
theorem d_R_init_28 : decode b_R_init 28 = .ok (.iastore, 1) := by decide +kernel
theorem d_R_init_29 : decode b_R_init 29 = .ok (.dup, 1) := by decide +kernel
theorem d_R_init_30 : decode b_R_init 30 = .ok (.iconst 2, 1) := by decide +kernel
theorem d_R_init_31 : decode b_R_init 31 = .ok (.iconst 1, 1) := by decide +kernel
theorem d_R_init_32 : decode b_R_init 32 = .ok (.iastore, 1) := by decide +kernel
theorem d_R_init_33 : decode b_R_init 33 = .ok (.dup, 1) := by decide +kernel
theorem d_R_init_34 : decode b_R_init 34 = .ok (.iconst 3, 1) := by decide +kernel
theorem d_R_init_35 : decode b_R_init 35 = .ok (.iconst 1, 1) := by decide +kernel
theorem d_R_init_36 : decode b_R_init 36 = .ok (.iastore, 1) := by decide +kernel
theorem d_R_init_37 : decode b_R_init 37 = .ok (.dup, 1) := by decide +kernel
theorem d_R_init_38 : decode b_R_init 38 = .ok (.iconst 4, 1) := by decide +kernel
theorem d_R_init_39 : decode b_R_init 39 = .ok (.ldc 19, 2) := by decide +kernel
theorem d_R_init_41 : decode b_R_init 41 = .ok (.iload_n 1, 1) := by decide +kernel
theorem d_R_init_42 : decode b_R_init 42 = .ok (.iadd, 1) := by decide +kernel
theorem d_R_init_43 : decode b_R_init 43 = .ok (.iastore, 1) := by decide +kernel
theorem d_R_init_44 : decode b_R_init 44 = .ok (.dup, 1) := by decide +kernel
theorem d_R_init_45 : decode b_R_init 45 = .ok (.iconst 5, 1) := by decide +kernel
theorem d_R_init_46 : decode b_R_init 46 = .ok (.ldc 20, 2) := by decide +kernel
theorem d_R_init_48 : decode b_R_init 48 = .ok (.iastore, 1) := by decide +kernel
theorem d_R_init_49 : decode b_R_init 49 = .ok (.dup, 1) := by decide +kernel
theorem d_R_init_50 : decode b_R_init 50 = .ok (.bipush 6, 2) := by decide +kernel
theorem d_R_init_52 : decode b_R_init 52 = .ok (.iconst 1, 1) := by decide +kernel
theorem d_R_init_53 : decode b_R_init 53 = .ok (.iastore, 1) := by decide +kernel
theorem d_R_init_54 : decode b_R_init 54 = .ok (.dup, 1) := by decide +kernel
theorem d_R_init_55 : decode b_R_init 55 = .ok (.bipush 7, 2) := by decide +kernel
theorem d_R_init_57 : decode b_R_init 57 = .ok (.iconst 0, 1) := by decide +kernel
theorem d_R_init_58 : decode b_R_init 58 = .ok (.iastore, 1) := by decide +kernel
theorem d_R_init_59 : decode b_R_init 59 = .ok (.dup, 1) := by decide +kernel
theorem d_R_init_60 : decode b_R_init 60 = .ok (.bipush 8, 2) := by decide +kernel
theorem d_R_init_62 : decode b_R_init 62 = .ok (.iconst 0, 1) := by decide +kernel
theorem d_R_init_63 : decode b_R_init 63 = .ok (.iastore, 1) := by decide +kernel
theorem d_R_init_64 : decode b_R_init 64 = .ok (.dup, 1) := by decide +kernel
theorem d_R_init_65 : decode b_R_init 65 = .ok (.bipush 9, 2) := by decide +kernel
theorem d_R_init_67 : decode b_R_init 67 = .ok (.iconst 0, 1) := by decide +kernel
theorem d_R_init_68 : decode b_R_init 68 = .ok (.iastore, 1) := by decide +kernel
theorem d_R_init_69 : decode b_R_init 69 = .ok (.putfield 21, 3) := by decide +kernel
theorem d_R_init_72 : decode b_R_init 72 = .ok (.aload_n 0, 1) := by decide +kernel
theorem d_R_init_73 : decode b_R_init 73 = .ok (.iconst 5, 1) := by decide +kernel
theorem d_R_init_74 : decode b_R_init 74 = .ok (.anewarray 25, 3) := by decide +kernel
theorem d_R_init_77 : decode b_R_init 77 = .ok (.putfield 27, 3) := by decide +kernel
theorem d_R_init_80 : decode b_R_init 80 = .ok (.iconst 0, 1) := by decide +kernel
theorem d_R_init_81 : decode b_R_init 81 = .ok (.istore_n 3, 1) := by decide +kernel
theorem d_R_init_82 : decode b_R_init 82 = .ok (.iload_n 3, 1) := by decide +kernel
theorem d_R_init_83 : decode b_R_init 83 = .ok (.iconst 5, 1) := by decide +kernel
theorem d_R_init_84 : decode b_R_init 84 = .ok (.if_icmp .ge 31, 3) := by decide +kernel
theorem d_R_init_87 : decode b_R_init 87 = .ok (.aload_n 0, 1) := by decide +kernel
theorem d_R_init_88 : decode b_R_init 88 = .ok (.getfield 27, 3) := by decide +kernel
theorem d_R_init_91 : decode b_R_init 91 = .ok (.iload_n 3, 1) := by decide +kernel
theorem d_R_init_92 : decode b_R_init 92 = .ok (.new 25, 3) := by decide +kernel
theorem d_R_init_95 : decode b_R_init 95 = .ok (.dup, 1) := by decide +kernel
theorem d_R_init_96 : decode b_R_init 96 = .ok (.bipush 16, 2) := by decide +kernel
theorem d_R_init_98 : decode b_R_init 98 = .ok (.iload_n 1, 1) := by decide +kernel
theorem d_R_init_99 : decode b_R_init 99 = .ok (.imul, 1) := by decide +kernel
theorem d_R_init_100 : decode b_R_init 100 = .ok (.iload_n 3, 1) := by decide +kernel
theorem d_R_init_101 : decode b_R_init 101 = .ok (.iadd, 1) := by decide +kernel
theorem d_R_init_102 : decode b_R_init 102 = .ok (.iconst 1, 1) := by decide +kernel
theorem d_R_init_103 : decode b_R_init 103 = .ok (.iadd, 1) := by decide +kernel
theorem d_R_init_104 : decode b_R_init 104 = .ok (.iload_n 3, 1) := by decide +kernel
theorem d_R_init_105 : decode b_R_init 105 = .ok (.invokespecial 31, 3) := by decide +kernel
theorem d_R_init_108 : decode b_R_init 108 = .ok (.aastore, 1) := by decide +kernel
theorem d_R_init_109 : decode b_R_init 109 = .ok (.iinc 3 1, 3) := by decide +kernel
theorem d_R_init_112 : decode b_R_init 112 = .ok (.goto (-30), 3) := by decide +kernel
theorem d_R_init_115 : decode b_R_init 115 = .ok (.return_, 1) := by decide +kernel
theorem d_R_tell_0 : decode b_R_tell 0 = .ok (.iload_n 1, 1) := by decide +kernel
theorem d_R_tell_1 : decode b_R_tell 1 = .ok (.tableswitch 98 0 7 #[47, 52, 57, 73, 78, 83, 88, 93], 47) := by decide +kernel
theorem d_R_tell_48 : decode b_R_tell 48 = .ok (.aload_n 0, 1) := by decide +kernel
theorem d_R_tell_49 : decode b_R_tell 49 = .ok (.getfield 34, 3) := by decide +kernel
theorem d_R_tell_52 : decode b_R_tell 52 = .ok (.ireturn, 1) := by decide +kernel
theorem d_R_tell_53 : decode b_R_tell 53 = .ok (.aload_n 0, 1) := by decide +kernel
theorem d_R_tell_54 : decode b_R_tell 54 = .ok (.getfield 37, 3) := by decide +kernel
theorem d_R_tell_57 : decode b_R_tell 57 = .ok (.ireturn, 1) := by decide +kernel
theorem d_R_tell_58 : decode b_R_tell 58 = .ok (.aload_n 0, 1) := by decide +kernel
theorem d_R_tell_59 : decode b_R_tell 59 = .ok (.getfield 34, 3) := by decide +kernel
theorem d_R_tell_62 : decode b_R_tell 62 = .ok (.ifCond .ne 7, 3) := by decide +kernel
theorem d_R_tell_65 : decode b_R_tell 65 = .ok (.iconst 0, 1) := by decide +kernel
theorem d_R_tell_66 : decode b_R_tell 66 = .ok (.goto 7, 3) := by decide +kernel
theorem d_R_tell_69 : decode b_R_tell 69 = .ok (.aload_n 0, 1) := by decide +kernel
theorem d_R_tell_70 : decode b_R_tell 70 = .ok (.invokevirtual 40, 3) := by decide +kernel
theorem d_R_tell_73 : decode b_R_tell 73 = .ok (.ireturn, 1) := by decide +kernel
theorem d_R_tell_74 : decode b_R_tell 74 = .ok (.aload_n 0, 1) := by decide +kernel
theorem d_R_tell_75 : decode b_R_tell 75 = .ok (.getfield 44, 3) := by decide +kernel
theorem d_R_tell_78 : decode b_R_tell 78 = .ok (.ireturn, 1) := by decide +kernel
theorem d_R_tell_79 : decode b_R_tell 79 = .ok (.aload_n 0, 1) := by decide +kernel
theorem d_R_tell_80 : decode b_R_tell 80 = .ok (.getfield 47, 3) := by decide +kernel
theorem d_R_tell_83 : decode b_R_tell 83 = .ok (.ireturn, 1) := by decide +kernel
theorem d_R_tell_84 : decode b_R_tell 84 = .ok (.aload_n 0, 1) := by decide +kernel
theorem d_R_tell_85 : decode b_R_tell 85 = .ok (.getfield 50, 3) := by decide +kernel
theorem d_R_tell_88 : decode b_R_tell 88 = .ok (.ireturn, 1) := by decide +kernel
theorem d_R_tell_89 : decode b_R_tell 89 = .ok (.aload_n 0, 1) := by decide +kernel
theorem d_R_tell_90 : decode b_R_tell 90 = .ok (.getfield 53, 3) := by decide +kernel
theorem d_R_tell_93 : decode b_R_tell 93 = .ok (.ireturn, 1) := by decide +kernel
theorem d_R_tell_94 : decode b_R_tell 94 = .ok (.aload_n 0, 1) := by decide +kernel
theorem d_R_tell_95 : decode b_R_tell 95 = .ok (.getfield 56, 3) := by decide +kernel
theorem d_R_tell_98 : decode b_R_tell 98 = .ok (.ireturn, 1) := by decide +kernel
theorem d_R_tell_99 : decode b_R_tell 99 = .ok (.iconst (-1), 1) := by decide +kernel
theorem d_R_tell_100 : decode b_R_tell 100 = .ok (.ireturn, 1) := by decide +kernel
theorem d_R_wake_0 : decode b_R_wake 0 = .ok (.aload_n 0, 1) := by decide +kernel
theorem d_R_wake_1 : decode b_R_wake 1 = .ok (.aload_n 0, 1) := by decide +kernel
theorem d_R_wake_2 : decode b_R_wake 2 = .ok (.getfield 21, 3) := by decide +kernel
theorem d_R_wake_5 : decode b_R_wake 5 = .ok (.iconst 1, 1) := by decide +kernel
theorem d_R_wake_6 : decode b_R_wake 6 = .ok (.iaload, 1) := by decide +kernel
theorem d_R_wake_7 : decode b_R_wake 7 = .ok (.putfield 44, 3) := by decide +kernel
theorem d_R_wake_10 : decode b_R_wake 10 = .ok (.aload_n 0, 1) := by decide +kernel
theorem d_R_wake_11 : decode b_R_wake 11 = .ok (.invokevirtual 40, 3) := by decide +kernel
theorem d_R_wake_14 : decode b_R_wake 14 = .ok (.sipush 255, 3) := by decide +kernel
theorem d_R_wake_17 : decode b_R_wake 17 = .ok (.if_icmp .ne 10, 3) := by decide +kernel
theorem d_R_wake_20 : decode b_R_wake 20 = .ok (.aload_n 0, 1) := by decide +kernel
theorem d_R_wake_21 : decode b_R_wake 21 = .ok (.invokevirtual 59, 3) := by decide +kernel
theorem d_R_wake_24 : decode b_R_wake 24 = .ok (.goto 7, 3) := by decide +kernel
theorem d_R_wake_27 : decode b_R_wake 27 = .ok (.aload_n 0, 1) := by decide +kernel
theorem d_R_wake_28 : decode b_R_wake 28 = .ok (.invokevirtual 62, 3) := by decide +kernel
theorem d_R_wake_31 : decode b_R_wake 31 = .ok (.return_, 1) := by decide +kernel
theorem d_R_sayGoodbye_0 : decode b_R_sayGoodbye 0 = .ok (.aload_n 0, 1) := by decide +kernel
theorem d_R_sayGoodbye_1 : decode b_R_sayGoodbye 1 = .ok (.getfield 34, 3) := by decide +kernel
theorem d_R_sayGoodbye_4 : decode b_R_sayGoodbye 4 = .ok (.iconst 2, 1) := by decide +kernel
theorem d_R_sayGoodbye_5 : decode b_R_sayGoodbye 5 = .ok (.if_icmp .ne 8, 3) := by decide +kernel
theorem d_R_sayGoodbye_8 : decode b_R_sayGoodbye 8 = .ok (.aload_n 0, 1) := by decide +kernel
theorem d_R_sayGoodbye_9 : decode b_R_sayGoodbye 9 = .ok (.iconst 0, 1) := by decide +kernel
theorem d_R_sayGoodbye_10 : decode b_R_sayGoodbye 10 = .ok (.invokevirtual 65, 3) := by decide +kernel
theorem d_R_sayGoodbye_13 : decode b_R_sayGoodbye 13 = .ok (.return_, 1) := by decide +kernel
theorem d_R_forgetAll_0 : decode b_R_forgetAll 0 = .ok (.aload_n 0, 1) := by decide +kernel
theorem d_R_forgetAll_1 : decode b_R_forgetAll 1 = .ok (.iconst 0, 1) := by decide +kernel
theorem d_R_forgetAll_2 : decode b_R_forgetAll 2 = .ok (.putfield 34, 3) := by decide +kernel
theorem d_R_forgetAll_5 : decode b_R_forgetAll 5 = .ok (.aload_n 0, 1) := by decide +kernel
theorem d_R_forgetAll_6 : decode b_R_forgetAll 6 = .ok (.iconst 0, 1) := by decide +kernel
theorem d_R_forgetAll_7 : decode b_R_forgetAll 7 = .ok (.putfield 37, 3) := by decide +kernel
theorem d_R_forgetAll_10 : decode b_R_forgetAll 10 = .ok (.aload_n 0, 1) := by decide +kernel
theorem d_R_forgetAll_11 : decode b_R_forgetAll 11 = .ok (.iconst 0, 1) := by decide +kernel
theorem d_R_forgetAll_12 : decode b_R_forgetAll 12 = .ok (.putfield 44, 3) := by decide +kernel
theorem d_R_forgetAll_15 : decode b_R_forgetAll 15 = .ok (.iconst 0, 1) := by decide +kernel
theorem d_R_forgetAll_16 : decode b_R_forgetAll 16 = .ok (.istore_n 1, 1) := by decide +kernel
theorem d_R_forgetAll_17 : decode b_R_forgetAll 17 = .ok (.iload_n 1, 1) := by decide +kernel
theorem d_R_forgetAll_18 : decode b_R_forgetAll 18 = .ok (.iconst 5, 1) := by decide +kernel
theorem d_R_forgetAll_19 : decode b_R_forgetAll 19 = .ok (.if_icmp .ge 19, 3) := by decide +kernel
theorem d_R_forgetAll_22 : decode b_R_forgetAll 22 = .ok (.aload_n 0, 1) := by decide +kernel
theorem d_R_forgetAll_23 : decode b_R_forgetAll 23 = .ok (.getfield 27, 3) := by decide +kernel
theorem d_R_forgetAll_26 : decode b_R_forgetAll 26 = .ok (.iload_n 1, 1) := by decide +kernel
theorem d_R_forgetAll_27 : decode b_R_forgetAll 27 = .ok (.aaload, 1) := by decide +kernel
theorem d_R_forgetAll_28 : decode b_R_forgetAll 28 = .ok (.iconst 0, 1) := by decide +kernel
theorem d_R_forgetAll_29 : decode b_R_forgetAll 29 = .ok (.putfield 69, 3) := by decide +kernel
theorem d_R_forgetAll_32 : decode b_R_forgetAll 32 = .ok (.iinc 1 1, 3) := by decide +kernel
theorem d_R_forgetAll_35 : decode b_R_forgetAll 35 = .ok (.goto (-18), 3) := by decide +kernel
theorem d_R_forgetAll_38 : decode b_R_forgetAll 38 = .ok (.return_, 1) := by decide +kernel
theorem d_R_weighed_0 : decode b_R_weighed 0 = .ok (.aload_n 0, 1) := by decide +kernel
theorem d_R_weighed_1 : decode b_R_weighed 1 = .ok (.getfield 21, 3) := by decide +kernel
theorem d_R_weighed_4 : decode b_R_weighed 4 = .ok (.iconst 0, 1) := by decide +kernel
theorem d_R_weighed_5 : decode b_R_weighed 5 = .ok (.iaload, 1) := by decide +kernel
theorem d_R_weighed_6 : decode b_R_weighed 6 = .ok (.istore_n 1, 1) := by decide +kernel
theorem d_R_weighed_7 : decode b_R_weighed 7 = .ok (.iload_n 1, 1) := by decide +kernel
theorem d_R_weighed_8 : decode b_R_weighed 8 = .ok (.sipush 255, 3) := by decide +kernel
theorem d_R_weighed_11 : decode b_R_weighed 11 = .ok (.if_icmp .ne 5, 3) := by decide +kernel
theorem d_R_weighed_14 : decode b_R_weighed 14 = .ok (.iload_n 1, 1) := by decide +kernel
theorem d_R_weighed_15 : decode b_R_weighed 15 = .ok (.ireturn, 1) := by decide +kernel
theorem d_R_weighed_16 : decode b_R_weighed 16 = .ok (.iconst 0, 1) := by decide +kernel
theorem d_R_weighed_17 : decode b_R_weighed 17 = .ok (.istore_n 2, 1) := by decide +kernel
theorem d_R_weighed_18 : decode b_R_weighed 18 = .ok (.iload_n 2, 1) := by decide +kernel
theorem d_R_weighed_19 : decode b_R_weighed 19 = .ok (.iconst 5, 1) := by decide +kernel
theorem d_R_weighed_20 : decode b_R_weighed 20 = .ok (.if_icmp .ge 58, 3) := by decide +kernel
theorem d_R_weighed_23 : decode b_R_weighed 23 = .ok (.aload_n 0, 1) := by decide +kernel
theorem d_R_weighed_24 : decode b_R_weighed 24 = .ok (.getfield 21, 3) := by decide +kernel
theorem d_R_weighed_27 : decode b_R_weighed 27 = .ok (.bipush 9, 2) := by decide +kernel
theorem d_R_weighed_29 : decode b_R_weighed 29 = .ok (.iaload, 1) := by decide +kernel
theorem d_R_weighed_30 : decode b_R_weighed 30 = .ok (.iload_n 2, 1) := by decide +kernel
theorem d_R_weighed_31 : decode b_R_weighed 31 = .ok (.ishr, 1) := by decide +kernel
theorem d_R_weighed_32 : decode b_R_weighed 32 = .ok (.iconst 1, 1) := by decide +kernel
theorem d_R_weighed_33 : decode b_R_weighed 33 = .ok (.iand, 1) := by decide +kernel
theorem d_R_weighed_34 : decode b_R_weighed 34 = .ok (.ifCond .eq 38, 3) := by decide +kernel
theorem d_R_weighed_37 : decode b_R_weighed 37 = .ok (.aload_n 0, 1) := by decide +kernel
theorem d_R_weighed_38 : decode b_R_weighed 38 = .ok (.getfield 27, 3) := by decide +kernel
theorem d_R_weighed_41 : decode b_R_weighed 41 = .ok (.iload_n 2, 1) := by decide +kernel
theorem d_R_weighed_42 : decode b_R_weighed 42 = .ok (.aaload, 1) := by decide +kernel
theorem d_R_weighed_43 : decode b_R_weighed 43 = .ok (.getfield 69, 3) := by decide +kernel
theorem d_R_weighed_46 : decode b_R_weighed 46 = .ok (.ifCond .eq 26, 3) := by decide +kernel
theorem d_R_weighed_49 : decode b_R_weighed 49 = .ok (.aload_n 0, 1) := by decide +kernel
theorem d_R_weighed_50 : decode b_R_weighed 50 = .ok (.getfield 27, 3) := by decide +kernel
theorem d_R_weighed_53 : decode b_R_weighed 53 = .ok (.iload_n 2, 1) := by decide +kernel
theorem d_R_weighed_54 : decode b_R_weighed 54 = .ok (.aaload, 1) := by decide +kernel
theorem d_R_weighed_55 : decode b_R_weighed 55 = .ok (.getfield 73, 3) := by decide +kernel
theorem d_R_weighed_58 : decode b_R_weighed 58 = .ok (.iconst 3, 1) := by decide +kernel
theorem d_R_weighed_59 : decode b_R_weighed 59 = .ok (.if_icmp .eq 13, 3) := by decide +kernel
theorem d_R_weighed_62 : decode b_R_weighed 62 = .ok (.iload_n 1, 1) := by decide +kernel
theorem d_R_weighed_63 : decode b_R_weighed 63 = .ok (.aload_n 0, 1) := by decide +kernel
theorem d_R_weighed_64 : decode b_R_weighed 64 = .ok (.getfield 21, 3) := by decide +kernel
theorem d_R_weighed_67 : decode b_R_weighed 67 = .ok (.bipush 8, 2) := by decide +kernel
theorem d_R_weighed_69 : decode b_R_weighed 69 = .ok (.iaload, 1) := by decide +kernel
theorem d_R_weighed_70 : decode b_R_weighed 70 = .ok (.isub, 1) := by decide +kernel
theorem d_R_weighed_71 : decode b_R_weighed 71 = .ok (.istore_n 1, 1) := by decide +kernel
theorem d_R_weighed_72 : decode b_R_weighed 72 = .ok (.iinc 2 1, 3) := by decide +kernel
theorem d_R_weighed_75 : decode b_R_weighed 75 = .ok (.goto (-57), 3) := by decide +kernel
theorem d_R_weighed_78 : decode b_R_weighed 78 = .ok (.iload_n 1, 1) := by decide +kernel
theorem d_R_weighed_79 : decode b_R_weighed 79 = .ok (.iconst 1, 1) := by decide +kernel
theorem d_R_weighed_80 : decode b_R_weighed 80 = .ok (.if_icmp .ge 7, 3) := by decide +kernel
theorem d_R_weighed_83 : decode b_R_weighed 83 = .ok (.iconst 1, 1) := by decide +kernel
theorem d_R_weighed_84 : decode b_R_weighed 84 = .ok (.goto 4, 3) := by decide +kernel
theorem d_R_weighed_87 : decode b_R_weighed 87 = .ok (.iload_n 1, 1) := by decide +kernel
theorem d_R_weighed_88 : decode b_R_weighed 88 = .ok (.ireturn, 1) := by decide +kernel
theorem d_R_skew_0 : decode b_R_skew 0 = .ok (.sipush 256, 3) := by decide +kernel
theorem d_R_skew_3 : decode b_R_skew 3 = .ok (.aload_n 0, 1) := by decide +kernel
theorem d_R_skew_4 : decode b_R_skew 4 = .ok (.invokevirtual 40, 3) := by decide +kernel
theorem d_R_skew_7 : decode b_R_skew 7 = .ok (.isub, 1) := by decide +kernel
theorem d_R_skew_8 : decode b_R_skew 8 = .ok (.aload_n 0, 1) := by decide +kernel
theorem d_R_skew_9 : decode b_R_skew 9 = .ok (.getfield 44, 3) := by decide +kernel
theorem d_R_skew_12 : decode b_R_skew 12 = .ok (.imul, 1) := by decide +kernel
theorem d_R_skew_13 : decode b_R_skew 13 = .ok (.sipush 256, 3) := by decide +kernel
theorem d_R_skew_16 : decode b_R_skew 16 = .ok (.idiv, 1) := by decide +kernel
theorem d_R_skew_17 : decode b_R_skew 17 = .ok (.ireturn, 1) := by decide +kernel
theorem d_R_becomeActive_0 : decode b_R_becomeActive 0 = .ok (.aload_n 0, 1) := by decide +kernel
theorem d_R_becomeActive_1 : decode b_R_becomeActive 1 = .ok (.aload_n 0, 1) := by decide +kernel
theorem d_R_becomeActive_2 : decode b_R_becomeActive 2 = .ok (.invokevirtual 40, 3) := by decide +kernel
theorem d_R_becomeActive_5 : decode b_R_becomeActive 5 = .ok (.invokevirtual 65, 3) := by decide +kernel
theorem d_R_becomeActive_8 : decode b_R_becomeActive 8 = .ok (.aload_n 0, 1) := by decide +kernel
theorem d_R_becomeActive_9 : decode b_R_becomeActive 9 = .ok (.iconst 3, 1) := by decide +kernel
theorem d_R_becomeActive_10 : decode b_R_becomeActive 10 = .ok (.bipush 9, 2) := by decide +kernel
theorem d_R_becomeActive_12 : decode b_R_becomeActive 12 = .ok (.bipush 15, 2) := by decide +kernel
theorem d_R_becomeActive_14 : decode b_R_becomeActive 14 = .ok (.invokevirtual 74, 3) := by decide +kernel
theorem d_R_becomeActive_17 : decode b_R_becomeActive 17 = .ok (.aload_n 0, 1) := by decide +kernel
theorem d_R_becomeActive_18 : decode b_R_becomeActive 18 = .ok (.aload_n 0, 1) := by decide +kernel
theorem d_R_becomeActive_19 : decode b_R_becomeActive 19 = .ok (.getfield 21, 3) := by decide +kernel
theorem d_R_becomeActive_22 : decode b_R_becomeActive 22 = .ok (.iconst 1, 1) := by decide +kernel
theorem d_R_becomeActive_23 : decode b_R_becomeActive 23 = .ok (.iaload, 1) := by decide +kernel
theorem d_R_becomeActive_24 : decode b_R_becomeActive 24 = .ok (.putfield 37, 3) := by decide +kernel
theorem d_R_becomeActive_27 : decode b_R_becomeActive 27 = .ok (.aload_n 0, 1) := by decide +kernel
theorem d_R_becomeActive_28 : decode b_R_becomeActive 28 = .ok (.iconst 2, 1) := by decide +kernel
theorem d_R_becomeActive_29 : decode b_R_becomeActive 29 = .ok (.putfield 34, 3) := by decide +kernel
theorem d_R_becomeActive_32 : decode b_R_becomeActive 32 = .ok (.aload_n 0, 1) := by decide +kernel
theorem d_R_becomeActive_33 : decode b_R_becomeActive 33 = .ok (.dup, 1) := by decide +kernel
theorem d_R_becomeActive_34 : decode b_R_becomeActive 34 = .ok (.getfield 47, 3) := by decide +kernel
theorem d_R_becomeActive_37 : decode b_R_becomeActive 37 = .ok (.iconst 1, 1) := by decide +kernel
theorem d_R_becomeActive_38 : decode b_R_becomeActive 38 = .ok (.iadd, 1) := by decide +kernel
theorem d_R_becomeActive_39 : decode b_R_becomeActive 39 = .ok (.putfield 47, 3) := by decide +kernel
theorem d_R_becomeActive_42 : decode b_R_becomeActive 42 = .ok (.return_, 1) := by decide +kernel
theorem d_R_becomeBackup_0 : decode b_R_becomeBackup 0 = .ok (.aload_n 0, 1) := by decide +kernel
theorem d_R_becomeBackup_1 : decode b_R_becomeBackup 1 = .ok (.iconst 3, 1) := by decide +kernel
theorem d_R_becomeBackup_2 : decode b_R_becomeBackup 2 = .ok (.aload_n 0, 1) := by decide +kernel
theorem d_R_becomeBackup_3 : decode b_R_becomeBackup 3 = .ok (.getfield 44, 3) := by decide +kernel
theorem d_R_becomeBackup_6 : decode b_R_becomeBackup 6 = .ok (.imul, 1) := by decide +kernel
theorem d_R_becomeBackup_7 : decode b_R_becomeBackup 7 = .ok (.aload_n 0, 1) := by decide +kernel
theorem d_R_becomeBackup_8 : decode b_R_becomeBackup 8 = .ok (.invokevirtual 78, 3) := by decide +kernel
theorem d_R_becomeBackup_11 : decode b_R_becomeBackup 11 = .ok (.iadd, 1) := by decide +kernel
theorem d_R_becomeBackup_12 : decode b_R_becomeBackup 12 = .ok (.putfield 37, 3) := by decide +kernel
theorem d_R_becomeBackup_15 : decode b_R_becomeBackup 15 = .ok (.aload_n 0, 1) := by decide +kernel
theorem d_R_becomeBackup_16 : decode b_R_becomeBackup 16 = .ok (.iconst 1, 1) := by decide +kernel
theorem d_R_becomeBackup_17 : decode b_R_becomeBackup 17 = .ok (.putfield 34, 3) := by decide +kernel
theorem d_R_becomeBackup_20 : decode b_R_becomeBackup 20 = .ok (.return_, 1) := by decide +kernel
theorem d_R_advertise_0 : decode b_R_advertise 0 = .ok (.aload_n 0, 1) := by decide +kernel
theorem d_R_advertise_1 : decode b_R_advertise 1 = .ok (.getfield 15, 3) := by decide +kernel
theorem d_R_advertise_4 : decode b_R_advertise 4 = .ok (.iconst 1, 1) := by decide +kernel
theorem d_R_advertise_5 : decode b_R_advertise 5 = .ok (.bipush 9, 2) := by decide +kernel
theorem d_R_advertise_7 : decode b_R_advertise 7 = .ok (.bipush 15, 2) := by decide +kernel
theorem d_R_advertise_9 : decode b_R_advertise 9 = .ok (.aload_n 0, 1) := by decide +kernel
theorem d_R_advertise_10 : decode b_R_advertise 10 = .ok (.getfield 21, 3) := by decide +kernel
theorem d_R_advertise_13 : decode b_R_advertise 13 = .ok (.iconst 4, 1) := by decide +kernel
theorem d_R_advertise_14 : decode b_R_advertise 14 = .ok (.iaload, 1) := by decide +kernel
theorem d_R_advertise_15 : decode b_R_advertise 15 = .ok (.invokevirtual 81, 3) := by decide +kernel
theorem d_R_advertise_18 : decode b_R_advertise 18 = .ok (.astore_n 2, 1) := by decide +kernel
theorem d_R_advertise_19 : decode b_R_advertise 19 = .ok (.aload_n 2, 1) := by decide +kernel
theorem d_R_advertise_20 : decode b_R_advertise 20 = .ok (.bipush 49, 2) := by decide +kernel
theorem d_R_advertise_22 : decode b_R_advertise 22 = .ok (.invokevirtual 87, 3) := by decide +kernel
theorem d_R_advertise_25 : decode b_R_advertise 25 = .ok (.aload_n 2, 1) := by decide +kernel
theorem d_R_advertise_26 : decode b_R_advertise 26 = .ok (.aload_n 0, 1) := by decide +kernel
theorem d_R_advertise_27 : decode b_R_advertise 27 = .ok (.getfield 21, 3) := by decide +kernel
theorem d_R_advertise_30 : decode b_R_advertise 30 = .ok (.iconst 3, 1) := by decide +kernel
theorem d_R_advertise_31 : decode b_R_advertise 31 = .ok (.iaload, 1) := by decide +kernel
theorem d_R_advertise_32 : decode b_R_advertise 32 = .ok (.invokevirtual 87, 3) := by decide +kernel
theorem d_R_advertise_35 : decode b_R_advertise 35 = .ok (.aload_n 2, 1) := by decide +kernel
theorem d_R_advertise_36 : decode b_R_advertise 36 = .ok (.iload_n 1, 1) := by decide +kernel
theorem d_R_advertise_37 : decode b_R_advertise 37 = .ok (.invokevirtual 87, 3) := by decide +kernel
theorem d_R_advertise_40 : decode b_R_advertise 40 = .ok (.aload_n 2, 1) := by decide +kernel
theorem d_R_advertise_41 : decode b_R_advertise 41 = .ok (.iconst 1, 1) := by decide +kernel
theorem d_R_advertise_42 : decode b_R_advertise 42 = .ok (.invokevirtual 87, 3) := by decide +kernel
theorem d_R_advertise_45 : decode b_R_advertise 45 = .ok (.aload_n 2, 1) := by decide +kernel
theorem d_R_advertise_46 : decode b_R_advertise 46 = .ok (.aload_n 0, 1) := by decide +kernel
theorem d_R_advertise_47 : decode b_R_advertise 47 = .ok (.getfield 21, 3) := by decide +kernel
theorem d_R_advertise_50 : decode b_R_advertise 50 = .ok (.iconst 1, 1) := by decide +kernel
theorem d_R_advertise_51 : decode b_R_advertise 51 = .ok (.iaload, 1) := by decide +kernel
theorem d_R_advertise_52 : decode b_R_advertise 52 = .ok (.invokevirtual 92, 3) := by decide +kernel
theorem d_R_advertise_55 : decode b_R_advertise 55 = .ok (.aload_n 2, 1) := by decide +kernel
theorem d_R_advertise_56 : decode b_R_advertise 56 = .ok (.iconst 0, 1) := by decide +kernel
theorem d_R_advertise_57 : decode b_R_advertise 57 = .ok (.invokevirtual 92, 3) := by decide +kernel
theorem d_R_advertise_60 : decode b_R_advertise 60 = .ok (.aload_n 2, 1) := by decide +kernel
theorem d_R_advertise_61 : decode b_R_advertise 61 = .ok (.aload_n 0, 1) := by decide +kernel
theorem d_R_advertise_62 : decode b_R_advertise 62 = .ok (.getfield 21, 3) := by decide +kernel
theorem d_R_advertise_65 : decode b_R_advertise 65 = .ok (.iconst 5, 1) := by decide +kernel
theorem d_R_advertise_66 : decode b_R_advertise 66 = .ok (.iaload, 1) := by decide +kernel
theorem d_R_advertise_67 : decode b_R_advertise 67 = .ok (.invokevirtual 95, 3) := by decide +kernel
theorem d_R_advertise_70 : decode b_R_advertise 70 = .ok (.aload_n 2, 1) := by decide +kernel
theorem d_R_advertise_71 : decode b_R_advertise 71 = .ok (.bipush 6, 2) := by decide +kernel
theorem d_R_advertise_73 : decode b_R_advertise 73 = .ok (.invokevirtual 98, 3) := by decide +kernel
theorem d_R_advertise_76 : decode b_R_advertise 76 = .ok (.aload_n 0, 1) := by decide +kernel
theorem d_R_advertise_77 : decode b_R_advertise 77 = .ok (.invokevirtual 101, 3) := by decide +kernel
theorem d_R_advertise_80 : decode b_R_advertise 80 = .ok (.return_, 1) := by decide +kernel
theorem d_R_sendEmpty_0 : decode b_R_sendEmpty 0 = .ok (.aload_n 0, 1) := by decide +kernel
theorem d_R_sendEmpty_1 : decode b_R_sendEmpty 1 = .ok (.getfield 15, 3) := by decide +kernel
theorem d_R_sendEmpty_4 : decode b_R_sendEmpty 4 = .ok (.iload_n 1, 1) := by decide +kernel
theorem d_R_sendEmpty_5 : decode b_R_sendEmpty 5 = .ok (.iload_n 2, 1) := by decide +kernel
theorem d_R_sendEmpty_6 : decode b_R_sendEmpty 6 = .ok (.iload_n 3, 1) := by decide +kernel
theorem d_R_sendEmpty_7 : decode b_R_sendEmpty 7 = .ok (.aload_n 0, 1) := by decide +kernel
theorem d_R_sendEmpty_8 : decode b_R_sendEmpty 8 = .ok (.getfield 21, 3) := by decide +kernel
theorem d_R_sendEmpty_11 : decode b_R_sendEmpty 11 = .ok (.iconst 4, 1) := by decide +kernel
theorem d_R_sendEmpty_12 : decode b_R_sendEmpty 12 = .ok (.iaload, 1) := by decide +kernel
theorem d_R_sendEmpty_13 : decode b_R_sendEmpty 13 = .ok (.invokevirtual 81, 3) := by decide +kernel
theorem d_R_sendEmpty_16 : decode b_R_sendEmpty 16 = .ok (.pop, 1) := by decide +kernel
theorem d_R_sendEmpty_17 : decode b_R_sendEmpty 17 = .ok (.aload_n 0, 1) := by decide +kernel
theorem d_R_sendEmpty_18 : decode b_R_sendEmpty 18 = .ok (.invokevirtual 101, 3) := by decide +kernel
theorem d_R_sendEmpty_21 : decode b_R_sendEmpty 21 = .ok (.return_, 1) := by decide +kernel
theorem d_R_sendPacket_0 : decode b_R_sendPacket 0 = .ok (.aload_n 0, 1) := by decide +kernel
theorem d_R_sendPacket_1 : decode b_R_sendPacket 1 = .ok (.getfield 15, 3) := by decide +kernel
theorem d_R_sendPacket_4 : decode b_R_sendPacket 4 = .ok (.iconst 2, 1) := by decide +kernel
theorem d_R_sendPacket_5 : decode b_R_sendPacket 5 = .ok (.aload_n 0, 1) := by decide +kernel
theorem d_R_sendPacket_6 : decode b_R_sendPacket 6 = .ok (.getfield 9, 3) := by decide +kernel
theorem d_R_sendPacket_9 : decode b_R_sendPacket 9 = .ok (.aload_n 1, 1) := by decide +kernel
theorem d_R_sendPacket_10 : decode b_R_sendPacket 10 = .ok (.getfield 104, 3) := by decide +kernel
theorem d_R_sendPacket_13 : decode b_R_sendPacket 13 = .ok (.aload_n 0, 1) := by decide +kernel
theorem d_R_sendPacket_14 : decode b_R_sendPacket 14 = .ok (.getfield 21, 3) := by decide +kernel
theorem d_R_sendPacket_17 : decode b_R_sendPacket 17 = .ok (.iconst 4, 1) := by decide +kernel
theorem d_R_sendPacket_18 : decode b_R_sendPacket 18 = .ok (.iaload, 1) := by decide +kernel
theorem d_R_sendPacket_19 : decode b_R_sendPacket 19 = .ok (.invokevirtual 81, 3) := by decide +kernel
theorem d_R_sendPacket_22 : decode b_R_sendPacket 22 = .ok (.astore_n 3, 1) := by decide +kernel
theorem d_R_sendPacket_23 : decode b_R_sendPacket 23 = .ok (.aload_n 3, 1) := by decide +kernel
theorem d_R_sendPacket_24 : decode b_R_sendPacket 24 = .ok (.bipush 32, 2) := by decide +kernel
theorem d_R_sendPacket_26 : decode b_R_sendPacket 26 = .ok (.aload_n 1, 1) := by decide +kernel
theorem d_R_sendPacket_27 : decode b_R_sendPacket 27 = .ok (.getfield 107, 3) := by decide +kernel
theorem d_R_sendPacket_30 : decode b_R_sendPacket 30 = .ok (.iadd, 1) := by decide +kernel
theorem d_R_sendPacket_31 : decode b_R_sendPacket 31 = .ok (.invokevirtual 87, 3) := by decide +kernel
theorem d_R_sendPacket_34 : decode b_R_sendPacket 34 = .ok (.aload_n 3, 1) := by decide +kernel
theorem d_R_sendPacket_35 : decode b_R_sendPacket 35 = .ok (.bipush 64, 2) := by decide +kernel
theorem d_R_sendPacket_37 : decode b_R_sendPacket 37 = .ok (.aload_n 1, 1) := by decide +kernel
theorem d_R_sendPacket_38 : decode b_R_sendPacket 38 = .ok (.getfield 73, 3) := by decide +kernel
theorem d_R_sendPacket_41 : decode b_R_sendPacket 41 = .ok (.imul, 1) := by decide +kernel
theorem d_R_sendPacket_42 : decode b_R_sendPacket 42 = .ok (.iload_n 2, 1) := by decide +kernel
theorem d_R_sendPacket_43 : decode b_R_sendPacket 43 = .ok (.iadd, 1) := by decide +kernel
theorem d_R_sendPacket_44 : decode b_R_sendPacket 44 = .ok (.invokevirtual 87, 3) := by decide +kernel
theorem d_R_sendPacket_47 : decode b_R_sendPacket 47 = .ok (.aload_n 3, 1) := by decide +kernel
theorem d_R_sendPacket_48 : decode b_R_sendPacket 48 = .ok (.aload_n 1, 1) := by decide +kernel
theorem d_R_sendPacket_49 : decode b_R_sendPacket 49 = .ok (.getfield 110, 3) := by decide +kernel
theorem d_R_sendPacket_52 : decode b_R_sendPacket 52 = .ok (.invokevirtual 87, 3) := by decide +kernel
theorem d_R_sendPacket_55 : decode b_R_sendPacket 55 = .ok (.aload_n 3, 1) := by decide +kernel
theorem d_R_sendPacket_56 : decode b_R_sendPacket 56 = .ok (.bipush 24, 2) := by decide +kernel
theorem d_R_sendPacket_58 : decode b_R_sendPacket 58 = .ok (.invokevirtual 87, 3) := by decide +kernel
theorem d_R_sendPacket_61 : decode b_R_sendPacket 61 = .ok (.aload_n 3, 1) := by decide +kernel
theorem d_R_sendPacket_62 : decode b_R_sendPacket 62 = .ok (.aload_n 1, 1) := by decide +kernel
theorem d_R_sendPacket_63 : decode b_R_sendPacket 63 = .ok (.getfield 113, 3) := by decide +kernel
theorem d_R_sendPacket_66 : decode b_R_sendPacket 66 = .ok (.invokevirtual 95, 3) := by decide +kernel
theorem d_R_sendPacket_69 : decode b_R_sendPacket 69 = .ok (.aload_n 3, 1) := by decide +kernel
theorem d_R_sendPacket_70 : decode b_R_sendPacket 70 = .ok (.aload_n 1, 1) := by decide +kernel
theorem d_R_sendPacket_71 : decode b_R_sendPacket 71 = .ok (.getfield 114, 3) := by decide +kernel
theorem d_R_sendPacket_74 : decode b_R_sendPacket 74 = .ok (.invokevirtual 95, 3) := by decide +kernel
theorem d_R_sendPacket_77 : decode b_R_sendPacket 77 = .ok (.aload_n 3, 1) := by decide +kernel
theorem d_R_sendPacket_78 : decode b_R_sendPacket 78 = .ok (.aload_n 1, 1) := by decide +kernel
theorem d_R_sendPacket_79 : decode b_R_sendPacket 79 = .ok (.aload_n 1, 1) := by decide +kernel
theorem d_R_sendPacket_80 : decode b_R_sendPacket 80 = .ok (.getfield 117, 3) := by decide +kernel
theorem d_R_sendPacket_83 : decode b_R_sendPacket 83 = .ok (.invokevirtual 120, 3) := by decide +kernel
theorem d_R_sendPacket_86 : decode b_R_sendPacket 86 = .ok (.invokevirtual 95, 3) := by decide +kernel
theorem d_R_sendPacket_89 : decode b_R_sendPacket 89 = .ok (.aload_n 3, 1) := by decide +kernel
theorem d_R_sendPacket_90 : decode b_R_sendPacket 90 = .ok (.aload_n 1, 1) := by decide +kernel
theorem d_R_sendPacket_91 : decode b_R_sendPacket 91 = .ok (.getfield 124, 3) := by decide +kernel
theorem d_R_sendPacket_94 : decode b_R_sendPacket 94 = .ok (.invokevirtual 95, 3) := by decide +kernel
theorem d_R_sendPacket_97 : decode b_R_sendPacket 97 = .ok (.aload_n 3, 1) := by decide +kernel
theorem d_R_sendPacket_98 : decode b_R_sendPacket 98 = .ok (.iconst 0, 1) := by decide +kernel
theorem d_R_sendPacket_99 : decode b_R_sendPacket 99 = .ok (.invokevirtual 95, 3) := by decide +kernel
theorem d_R_sendPacket_102 : decode b_R_sendPacket 102 = .ok (.aload_n 0, 1) := by decide +kernel
theorem d_R_sendPacket_103 : decode b_R_sendPacket 103 = .ok (.invokevirtual 101, 3) := by decide +kernel
theorem d_R_sendPacket_106 : decode b_R_sendPacket 106 = .ok (.return_, 1) := by decide +kernel
theorem d_R_sendDraft_0 : decode b_R_sendDraft 0 = .ok (.aload_n 0, 1) := by decide +kernel
theorem d_R_sendDraft_1 : decode b_R_sendDraft 1 = .ok (.dup, 1) := by decide +kernel
theorem d_R_sendDraft_2 : decode b_R_sendDraft 2 = .ok (.getfield 53, 3) := by decide +kernel
theorem d_R_sendDraft_5 : decode b_R_sendDraft 5 = .ok (.iconst 1, 1) := by decide +kernel
theorem d_R_sendDraft_6 : decode b_R_sendDraft 6 = .ok (.iadd, 1) := by decide +kernel
theorem d_R_sendDraft_7 : decode b_R_sendDraft 7 = .ok (.putfield 53, 3) := by decide +kernel
theorem d_R_sendDraft_10 : decode b_R_sendDraft 10 = .ok (.aload_n 0, 1) := by decide +kernel
theorem d_R_sendDraft_11 : decode b_R_sendDraft 11 = .ok (.getfield 21, 3) := by decide +kernel
theorem d_R_sendDraft_14 : decode b_R_sendDraft 14 = .ok (.bipush 7, 2) := by decide +kernel
theorem d_R_sendDraft_16 : decode b_R_sendDraft 16 = .ok (.iaload, 1) := by decide +kernel
theorem d_R_sendDraft_17 : decode b_R_sendDraft 17 = .ok (.iconst 1, 1) := by decide +kernel
theorem d_R_sendDraft_18 : decode b_R_sendDraft 18 = .ok (.iand, 1) := by decide +kernel
theorem d_R_sendDraft_19 : decode b_R_sendDraft 19 = .ok (.ifCond .ne 21, 3) := by decide +kernel
theorem d_R_sendDraft_22 : decode b_R_sendDraft 22 = .ok (.aload_n 0, 1) := by decide +kernel
theorem d_R_sendDraft_23 : decode b_R_sendDraft 23 = .ok (.getfield 15, 3) := by decide +kernel
theorem d_R_sendDraft_26 : decode b_R_sendDraft 26 = .ok (.aload_n 0, 1) := by decide +kernel
theorem d_R_sendDraft_27 : decode b_R_sendDraft 27 = .ok (.getfield 9, 3) := by decide +kernel
theorem d_R_sendDraft_30 : decode b_R_sendDraft 30 = .ok (.aload_n 0, 1) := by decide +kernel
theorem d_R_sendDraft_31 : decode b_R_sendDraft 31 = .ok (.getfield 21, 3) := by decide +kernel
theorem d_R_sendDraft_34 : decode b_R_sendDraft 34 = .ok (.bipush 6, 2) := by decide +kernel
theorem d_R_sendDraft_36 : decode b_R_sendDraft 36 = .ok (.iaload, 1) := by decide +kernel
theorem d_R_sendDraft_37 : decode b_R_sendDraft 37 = .ok (.invokevirtual 127, 3) := by decide +kernel
theorem d_R_sendDraft_40 : decode b_R_sendDraft 40 = .ok (.return_, 1) := by decide +kernel
theorem d_R_minds_0 : decode b_R_minds 0 = .ok (.aload_n 0, 1) := by decide +kernel
theorem d_R_minds_1 : decode b_R_minds 1 = .ok (.getfield 34, 3) := by decide +kernel
theorem d_R_minds_4 : decode b_R_minds 4 = .ok (.ifCond .eq 15, 3) := by decide +kernel
theorem d_R_minds_7 : decode b_R_minds 7 = .ok (.aload_n 0, 1) := by decide +kernel
theorem d_R_minds_8 : decode b_R_minds 8 = .ok (.getfield 21, 3) := by decide +kernel
theorem d_R_minds_11 : decode b_R_minds 11 = .ok (.bipush 7, 2) := by decide +kernel
theorem d_R_minds_13 : decode b_R_minds 13 = .ok (.iaload, 1) := by decide +kernel
theorem d_R_minds_14 : decode b_R_minds 14 = .ok (.iconst 2, 1) := by decide +kernel
theorem d_R_minds_15 : decode b_R_minds 15 = .ok (.iand, 1) := by decide +kernel
theorem d_R_minds_16 : decode b_R_minds 16 = .ok (.ifCond .eq 5, 3) := by decide +kernel
theorem d_R_minds_19 : decode b_R_minds 19 = .ok (.iconst 0, 1) := by decide +kernel
theorem d_R_minds_20 : decode b_R_minds 20 = .ok (.ireturn, 1) := by decide +kernel
theorem d_R_minds_21 : decode b_R_minds 21 = .ok (.aload_n 1, 1) := by decide +kernel
theorem d_R_minds_22 : decode b_R_minds 22 = .ok (.getfield 130, 3) := by decide +kernel
theorem d_R_minds_25 : decode b_R_minds 25 = .ok (.bipush 15, 2) := by decide +kernel
theorem d_R_minds_27 : decode b_R_minds 27 = .ok (.if_icmp .eq 31, 3) := by decide +kernel
theorem d_R_minds_30 : decode b_R_minds 30 = .ok (.aload_n 1, 1) := by decide +kernel
theorem d_R_minds_31 : decode b_R_minds 31 = .ok (.getfield 130, 3) := by decide +kernel
theorem d_R_minds_34 : decode b_R_minds 34 = .ok (.aload_n 0, 1) := by decide +kernel
theorem d_R_minds_35 : decode b_R_minds 35 = .ok (.getfield 9, 3) := by decide +kernel
theorem d_R_minds_38 : decode b_R_minds 38 = .ok (.if_icmp .eq 20, 3) := by decide +kernel
theorem d_R_minds_41 : decode b_R_minds 41 = .ok (.aload_n 1, 1) := by decide +kernel
theorem d_R_minds_42 : decode b_R_minds 42 = .ok (.getfield 130, 3) := by decide +kernel
theorem d_R_minds_45 : decode b_R_minds 45 = .ok (.bipush 9, 2) := by decide +kernel
theorem d_R_minds_47 : decode b_R_minds 47 = .ok (.if_icmp .ne 15, 3) := by decide +kernel
theorem d_R_minds_50 : decode b_R_minds 50 = .ok (.aload_n 0, 1) := by decide +kernel
theorem d_R_minds_51 : decode b_R_minds 51 = .ok (.getfield 34, 3) := by decide +kernel
theorem d_R_minds_54 : decode b_R_minds 54 = .ok (.iconst 2, 1) := by decide +kernel
theorem d_R_minds_55 : decode b_R_minds 55 = .ok (.if_icmp .ne 7, 3) := by decide +kernel
theorem d_R_minds_58 : decode b_R_minds 58 = .ok (.iconst 1, 1) := by decide +kernel
theorem d_R_minds_59 : decode b_R_minds 59 = .ok (.goto 4, 3) := by decide +kernel
theorem d_R_minds_62 : decode b_R_minds 62 = .ok (.iconst 0, 1) := by decide +kernel
theorem d_R_minds_63 : decode b_R_minds 63 = .ok (.ireturn, 1) := by decide +kernel
theorem d_R_hear_0 : decode b_R_hear 0 = .ok (.aload_n 1, 1) := by decide +kernel
theorem d_R_hear_1 : decode b_R_hear 1 = .ok (.getfield 133, 3) := by decide +kernel
theorem d_R_hear_4 : decode b_R_hear 4 = .ok (.tableswitch 121 1 4 #[32, 75, 81, 111], 32) := by decide +kernel
theorem d_R_hear_36 : decode b_R_hear 36 = .ok (.aload_n 0, 1) := by decide +kernel
theorem d_R_hear_37 : decode b_R_hear 37 = .ok (.aload_n 1, 1) := by decide +kernel
theorem d_R_hear_38 : decode b_R_hear 38 = .ok (.invokevirtual 136, 3) := by decide +kernel
theorem d_R_hear_41 : decode b_R_hear 41 = .ok (.ifCond .ne 5, 3) := by decide +kernel
theorem d_R_hear_44 : decode b_R_hear 44 = .ok (.iconst 0, 1) := by decide +kernel
theorem d_R_hear_45 : decode b_R_hear 45 = .ok (.ireturn, 1) := by decide +kernel
theorem d_R_hear_46 : decode b_R_hear 46 = .ok (.aload_n 0, 1) := by decide +kernel
theorem d_R_hear_47 : decode b_R_hear 47 = .ok (.dup, 1) := by decide +kernel
theorem d_R_hear_48 : decode b_R_hear 48 = .ok (.getfield 50, 3) := by decide +kernel
theorem d_R_hear_51 : decode b_R_hear 51 = .ok (.iconst 1, 1) := by decide +kernel
theorem d_R_hear_52 : decode b_R_hear 52 = .ok (.iadd, 1) := by decide +kernel
theorem d_R_hear_53 : decode b_R_hear 53 = .ok (.putfield 50, 3) := by decide +kernel
theorem d_R_hear_56 : decode b_R_hear 56 = .ok (.aload_n 0, 1) := by decide +kernel
theorem d_R_hear_57 : decode b_R_hear 57 = .ok (.getfield 34, 3) := by decide +kernel
theorem d_R_hear_60 : decode b_R_hear 60 = .ok (.iconst 2, 1) := by decide +kernel
theorem d_R_hear_61 : decode b_R_hear 61 = .ok (.if_icmp .ne 11, 3) := by decide +kernel
theorem d_R_hear_64 : decode b_R_hear 64 = .ok (.aload_n 0, 1) := by decide +kernel
theorem d_R_hear_65 : decode b_R_hear 65 = .ok (.aload_n 1, 1) := by decide +kernel
theorem d_R_hear_66 : decode b_R_hear 66 = .ok (.invokevirtual 140, 3) := by decide +kernel
theorem d_R_hear_69 : decode b_R_hear 69 = .ok (.goto 8, 3) := by decide +kernel
theorem d_R_hear_72 : decode b_R_hear 72 = .ok (.aload_n 0, 1) := by decide +kernel
theorem d_R_hear_73 : decode b_R_hear 73 = .ok (.aload_n 1, 1) := by decide +kernel
theorem d_R_hear_74 : decode b_R_hear 74 = .ok (.invokevirtual 144, 3) := by decide +kernel
theorem d_R_hear_77 : decode b_R_hear 77 = .ok (.iconst 1, 1) := by decide +kernel
theorem d_R_hear_78 : decode b_R_hear 78 = .ok (.ireturn, 1) := by decide +kernel
theorem d_R_hear_79 : decode b_R_hear 79 = .ok (.aload_n 0, 1) := by decide +kernel
theorem d_R_hear_80 : decode b_R_hear 80 = .ok (.aload_n 1, 1) := by decide +kernel
theorem d_R_hear_81 : decode b_R_hear 81 = .ok (.invokevirtual 147, 3) := by decide +kernel
theorem d_R_hear_84 : decode b_R_hear 84 = .ok (.ireturn, 1) := by decide +kernel
theorem d_R_hear_85 : decode b_R_hear 85 = .ok (.aload_n 0, 1) := by decide +kernel
theorem d_R_hear_86 : decode b_R_hear 86 = .ok (.getfield 34, 3) := by decide +kernel
theorem d_R_hear_89 : decode b_R_hear 89 = .ok (.iconst 2, 1) := by decide +kernel
theorem d_R_hear_90 : decode b_R_hear 90 = .ok (.if_icmp .ne 23, 3) := by decide +kernel
theorem d_R_hear_93 : decode b_R_hear 93 = .ok (.aload_n 1, 1) := by decide +kernel
theorem d_R_hear_94 : decode b_R_hear 94 = .ok (.getfield 150, 3) := by decide +kernel
theorem d_R_hear_97 : decode b_R_hear 97 = .ok (.bipush 9, 2) := by decide +kernel
theorem d_R_hear_99 : decode b_R_hear 99 = .ok (.if_icmp .eq 14, 3) := by decide +kernel
theorem d_R_hear_102 : decode b_R_hear 102 = .ok (.aload_n 0, 1) := by decide +kernel
theorem d_R_hear_103 : decode b_R_hear 103 = .ok (.iconst 4, 1) := by decide +kernel
theorem d_R_hear_104 : decode b_R_hear 104 = .ok (.bipush 9, 2) := by decide +kernel
theorem d_R_hear_106 : decode b_R_hear 106 = .ok (.aload_n 1, 1) := by decide +kernel
theorem d_R_hear_107 : decode b_R_hear 107 = .ok (.getfield 150, 3) := by decide +kernel
theorem d_R_hear_110 : decode b_R_hear 110 = .ok (.invokevirtual 74, 3) := by decide +kernel
theorem d_R_hear_113 : decode b_R_hear 113 = .ok (.iconst 0, 1) := by decide +kernel
theorem d_R_hear_114 : decode b_R_hear 114 = .ok (.ireturn, 1) := by decide +kernel
theorem d_R_hear_115 : decode b_R_hear 115 = .ok (.aload_n 0, 1) := by decide +kernel
theorem d_R_hear_116 : decode b_R_hear 116 = .ok (.aload_n 1, 1) := by decide +kernel
theorem d_R_hear_117 : decode b_R_hear 117 = .ok (.getfield 153, 3) := by decide +kernel
theorem d_R_hear_120 : decode b_R_hear 120 = .ok (.putfield 56, 3) := by decide +kernel
theorem d_R_hear_123 : decode b_R_hear 123 = .ok (.iconst 0, 1) := by decide +kernel
theorem d_R_hear_124 : decode b_R_hear 124 = .ok (.ireturn, 1) := by decide +kernel
theorem d_R_hear_125 : decode b_R_hear 125 = .ok (.iconst 0, 1) := by decide +kernel
theorem d_R_hear_126 : decode b_R_hear 126 = .ok (.ireturn, 1) := by decide +kernel
theorem d_R_isForUs_0 : decode b_R_isForUs 0 = .ok (.aload_n 1, 1) := by decide +kernel
theorem d_R_isForUs_1 : decode b_R_isForUs 1 = .ok (.getfield 156, 3) := by decide +kernel
theorem d_R_isForUs_4 : decode b_R_isForUs 4 = .ok (.sipush 255, 3) := by decide +kernel
theorem d_R_isForUs_7 : decode b_R_isForUs 7 = .ok (.if_icmp .ne 85, 3) := by decide +kernel
theorem d_R_isForUs_10 : decode b_R_isForUs 10 = .ok (.aload_n 1, 1) := by decide +kernel
theorem d_R_isForUs_11 : decode b_R_isForUs 11 = .ok (.getfield 159, 3) := by decide +kernel
theorem d_R_isForUs_14 : decode b_R_isForUs 14 = .ok (.bipush 12, 2) := by decide +kernel
theorem d_R_isForUs_16 : decode b_R_isForUs 16 = .ok (.if_icmp .ne 76, 3) := by decide +kernel
theorem d_R_isForUs_19 : decode b_R_isForUs 19 = .ok (.aload_n 1, 1) := by decide +kernel
theorem d_R_isForUs_20 : decode b_R_isForUs 20 = .ok (.iconst 0, 1) := by decide +kernel
theorem d_R_isForUs_21 : decode b_R_isForUs 21 = .ok (.invokevirtual 162, 3) := by decide +kernel
theorem d_R_isForUs_24 : decode b_R_isForUs 24 = .ok (.bipush 49, 2) := by decide +kernel
theorem d_R_isForUs_26 : decode b_R_isForUs 26 = .ok (.if_icmp .ne 66, 3) := by decide +kernel
theorem d_R_isForUs_29 : decode b_R_isForUs 29 = .ok (.aload_n 1, 1) := by decide +kernel
theorem d_R_isForUs_30 : decode b_R_isForUs 30 = .ok (.iconst 1, 1) := by decide +kernel
theorem d_R_isForUs_31 : decode b_R_isForUs 31 = .ok (.invokevirtual 162, 3) := by decide +kernel
theorem d_R_isForUs_34 : decode b_R_isForUs 34 = .ok (.aload_n 0, 1) := by decide +kernel
theorem d_R_isForUs_35 : decode b_R_isForUs 35 = .ok (.getfield 21, 3) := by decide +kernel
theorem d_R_isForUs_38 : decode b_R_isForUs 38 = .ok (.iconst 3, 1) := by decide +kernel
theorem d_R_isForUs_39 : decode b_R_isForUs 39 = .ok (.iaload, 1) := by decide +kernel
theorem d_R_isForUs_40 : decode b_R_isForUs 40 = .ok (.if_icmp .ne 52, 3) := by decide +kernel
theorem d_R_isForUs_43 : decode b_R_isForUs 43 = .ok (.aload_n 1, 1) := by decide +kernel
theorem d_R_isForUs_44 : decode b_R_isForUs 44 = .ok (.iconst 3, 1) := by decide +kernel
theorem d_R_isForUs_45 : decode b_R_isForUs 45 = .ok (.invokevirtual 162, 3) := by decide +kernel
theorem d_R_isForUs_48 : decode b_R_isForUs 48 = .ok (.iconst 1, 1) := by decide +kernel
theorem d_R_isForUs_49 : decode b_R_isForUs 49 = .ok (.if_icmp .ne 43, 3) := by decide +kernel
theorem d_R_isForUs_52 : decode b_R_isForUs 52 = .ok (.aload_n 1, 1) := by decide +kernel
theorem d_R_isForUs_53 : decode b_R_isForUs 53 = .ok (.bipush 8, 2) := by decide +kernel
theorem d_R_isForUs_55 : decode b_R_isForUs 55 = .ok (.invokevirtual 165, 3) := by decide +kernel
theorem d_R_isForUs_58 : decode b_R_isForUs 58 = .ok (.aload_n 0, 1) := by decide +kernel
theorem d_R_isForUs_59 : decode b_R_isForUs 59 = .ok (.getfield 21, 3) := by decide +kernel
theorem d_R_isForUs_62 : decode b_R_isForUs 62 = .ok (.iconst 5, 1) := by decide +kernel
theorem d_R_isForUs_63 : decode b_R_isForUs 63 = .ok (.iaload, 1) := by decide +kernel
theorem d_R_isForUs_64 : decode b_R_isForUs 64 = .ok (.if_icmp .ne 28, 3) := by decide +kernel
theorem d_R_isForUs_67 : decode b_R_isForUs 67 = .ok (.aload_n 1, 1) := by decide +kernel
theorem d_R_isForUs_68 : decode b_R_isForUs 68 = .ok (.invokevirtual 168, 3) := by decide +kernel
theorem d_R_isForUs_71 : decode b_R_isForUs 71 = .ok (.ldc 171, 2) := by decide +kernel
theorem d_R_isForUs_73 : decode b_R_isForUs 73 = .ok (.if_icmp .ne 19, 3) := by decide +kernel
theorem d_R_isForUs_76 : decode b_R_isForUs 76 = .ok (.aload_n 0, 1) := by decide +kernel
theorem d_R_isForUs_77 : decode b_R_isForUs 77 = .ok (.getfield 21, 3) := by decide +kernel
theorem d_R_isForUs_80 : decode b_R_isForUs 80 = .ok (.iconst 0, 1) := by decide +kernel
theorem d_R_isForUs_81 : decode b_R_isForUs 81 = .ok (.iaload, 1) := by decide +kernel
theorem d_R_isForUs_82 : decode b_R_isForUs 82 = .ok (.sipush 255, 3) := by decide +kernel
theorem d_R_isForUs_85 : decode b_R_isForUs 85 = .ok (.if_icmp .eq 7, 3) := by decide +kernel
theorem d_R_isForUs_88 : decode b_R_isForUs 88 = .ok (.iconst 1, 1) := by decide +kernel
theorem d_R_isForUs_89 : decode b_R_isForUs 89 = .ok (.goto 4, 3) := by decide +kernel
theorem d_R_isForUs_92 : decode b_R_isForUs 92 = .ok (.iconst 0, 1) := by decide +kernel
theorem d_R_isForUs_93 : decode b_R_isForUs 93 = .ok (.ireturn, 1) := by decide +kernel
theorem d_R_hearAsBackup_0 : decode b_R_hearAsBackup 0 = .ok (.aload_n 1, 1) := by decide +kernel
theorem d_R_hearAsBackup_1 : decode b_R_hearAsBackup 1 = .ok (.iconst 2, 1) := by decide +kernel
theorem d_R_hearAsBackup_2 : decode b_R_hearAsBackup 2 = .ok (.invokevirtual 162, 3) := by decide +kernel
theorem d_R_hearAsBackup_5 : decode b_R_hearAsBackup 5 = .ok (.istore_n 2, 1) := by decide +kernel
theorem d_R_hearAsBackup_6 : decode b_R_hearAsBackup 6 = .ok (.iload_n 2, 1) := by decide +kernel
theorem d_R_hearAsBackup_7 : decode b_R_hearAsBackup 7 = .ok (.ifCond .ne 18, 3) := by decide +kernel
theorem d_R_hearAsBackup_10 : decode b_R_hearAsBackup 10 = .ok (.aload_n 0, 1) := by decide +kernel
theorem d_R_hearAsBackup_11 : decode b_R_hearAsBackup 11 = .ok (.iconst 1, 1) := by decide +kernel
theorem d_R_hearAsBackup_12 : decode b_R_hearAsBackup 12 = .ok (.aload_n 0, 1) := by decide +kernel
theorem d_R_hearAsBackup_13 : decode b_R_hearAsBackup 13 = .ok (.invokevirtual 78, 3) := by decide +kernel
theorem d_R_hearAsBackup_16 : decode b_R_hearAsBackup 16 = .ok (.invokestatic 172, 3) := by decide +kernel
theorem d_R_hearAsBackup_19 : decode b_R_hearAsBackup 19 = .ok (.putfield 37, 3) := by decide +kernel
theorem d_R_hearAsBackup_22 : decode b_R_hearAsBackup 22 = .ok (.goto 32, 3) := by decide +kernel
theorem d_R_hearAsBackup_25 : decode b_R_hearAsBackup 25 = .ok (.aload_n 0, 1) := by decide +kernel
theorem d_R_hearAsBackup_26 : decode b_R_hearAsBackup 26 = .ok (.getfield 21, 3) := by decide +kernel
theorem d_R_hearAsBackup_29 : decode b_R_hearAsBackup 29 = .ok (.iconst 2, 1) := by decide +kernel
theorem d_R_hearAsBackup_30 : decode b_R_hearAsBackup 30 = .ok (.iaload, 1) := by decide +kernel
theorem d_R_hearAsBackup_31 : decode b_R_hearAsBackup 31 = .ok (.ifCond .eq 11, 3) := by decide +kernel
theorem d_R_hearAsBackup_34 : decode b_R_hearAsBackup 34 = .ok (.iload_n 2, 1) := by decide +kernel
theorem d_R_hearAsBackup_35 : decode b_R_hearAsBackup 35 = .ok (.aload_n 0, 1) := by decide +kernel
theorem d_R_hearAsBackup_36 : decode b_R_hearAsBackup 36 = .ok (.invokevirtual 40, 3) := by decide +kernel
theorem d_R_hearAsBackup_39 : decode b_R_hearAsBackup 39 = .ok (.if_icmp .lt 15, 3) := by decide +kernel
theorem d_R_hearAsBackup_42 : decode b_R_hearAsBackup 42 = .ok (.aload_n 0, 1) := by decide +kernel
theorem d_R_hearAsBackup_43 : decode b_R_hearAsBackup 43 = .ok (.aload_n 1, 1) := by decide +kernel
theorem d_R_hearAsBackup_44 : decode b_R_hearAsBackup 44 = .ok (.invokestatic 178, 3) := by decide +kernel
theorem d_R_hearAsBackup_47 : decode b_R_hearAsBackup 47 = .ok (.putfield 44, 3) := by decide +kernel
theorem d_R_hearAsBackup_50 : decode b_R_hearAsBackup 50 = .ok (.aload_n 0, 1) := by decide +kernel
theorem d_R_hearAsBackup_51 : decode b_R_hearAsBackup 51 = .ok (.invokevirtual 62, 3) := by decide +kernel
theorem d_R_hearAsBackup_54 : decode b_R_hearAsBackup 54 = .ok (.return_, 1) := by decide +kernel
theorem d_R_hearAsActive_0 : decode b_R_hearAsActive 0 = .ok (.aload_n 1, 1) := by decide +kernel
theorem d_R_hearAsActive_1 : decode b_R_hearAsActive 1 = .ok (.iconst 2, 1) := by decide +kernel
theorem d_R_hearAsActive_2 : decode b_R_hearAsActive 2 = .ok (.invokevirtual 162, 3) := by decide +kernel
theorem d_R_hearAsActive_5 : decode b_R_hearAsActive 5 = .ok (.istore_n 2, 1) := by decide +kernel
theorem d_R_hearAsActive_6 : decode b_R_hearAsActive 6 = .ok (.aload_n 0, 1) := by decide +kernel
theorem d_R_hearAsActive_7 : decode b_R_hearAsActive 7 = .ok (.invokevirtual 40, 3) := by decide +kernel
theorem d_R_hearAsActive_10 : decode b_R_hearAsActive 10 = .ok (.istore_n 3, 1) := by decide +kernel
theorem d_R_hearAsActive_11 : decode b_R_hearAsActive 11 = .ok (.iload_n 2, 1) := by decide +kernel
theorem d_R_hearAsActive_12 : decode b_R_hearAsActive 12 = .ok (.ifCond .ne 21, 3) := by decide +kernel
theorem d_R_hearAsActive_15 : decode b_R_hearAsActive 15 = .ok (.aload_n 0, 1) := by decide +kernel
theorem d_R_hearAsActive_16 : decode b_R_hearAsActive 16 = .ok (.iload_n 3, 1) := by decide +kernel
theorem d_R_hearAsActive_17 : decode b_R_hearAsActive 17 = .ok (.invokevirtual 65, 3) := by decide +kernel
theorem d_R_hearAsActive_20 : decode b_R_hearAsActive 20 = .ok (.aload_n 0, 1) := by decide +kernel
theorem d_R_hearAsActive_21 : decode b_R_hearAsActive 21 = .ok (.aload_n 0, 1) := by decide +kernel
theorem d_R_hearAsActive_22 : decode b_R_hearAsActive 22 = .ok (.getfield 21, 3) := by decide +kernel
theorem d_R_hearAsActive_25 : decode b_R_hearAsActive 25 = .ok (.iconst 1, 1) := by decide +kernel
theorem d_R_hearAsActive_26 : decode b_R_hearAsActive 26 = .ok (.iaload, 1) := by decide +kernel
theorem d_R_hearAsActive_27 : decode b_R_hearAsActive 27 = .ok (.putfield 37, 3) := by decide +kernel
theorem d_R_hearAsActive_30 : decode b_R_hearAsActive 30 = .ok (.goto 49, 3) := by decide +kernel
theorem d_R_hearAsActive_33 : decode b_R_hearAsActive 33 = .ok (.iload_n 2, 1) := by decide +kernel
theorem d_R_hearAsActive_34 : decode b_R_hearAsActive 34 = .ok (.iload_n 3, 1) := by decide +kernel
theorem d_R_hearAsActive_35 : decode b_R_hearAsActive 35 = .ok (.if_icmp .gt 24, 3) := by decide +kernel
theorem d_R_hearAsActive_38 : decode b_R_hearAsActive 38 = .ok (.iload_n 2, 1) := by decide +kernel
theorem d_R_hearAsActive_39 : decode b_R_hearAsActive 39 = .ok (.iload_n 3, 1) := by decide +kernel
theorem d_R_hearAsActive_40 : decode b_R_hearAsActive 40 = .ok (.if_icmp .ne 34, 3) := by decide +kernel
theorem d_R_hearAsActive_43 : decode b_R_hearAsActive 43 = .ok (.aload_n 1, 1) := by decide +kernel
theorem d_R_hearAsActive_44 : decode b_R_hearAsActive 44 = .ok (.getfield 153, 3) := by decide +kernel
theorem d_R_hearAsActive_47 : decode b_R_hearAsActive 47 = .ok (.aload_n 0, 1) := by decide +kernel
theorem d_R_hearAsActive_48 : decode b_R_hearAsActive 48 = .ok (.getfield 21, 3) := by decide +kernel
theorem d_R_hearAsActive_51 : decode b_R_hearAsActive 51 = .ok (.iconst 4, 1) := by decide +kernel
theorem d_R_hearAsActive_52 : decode b_R_hearAsActive 52 = .ok (.iaload, 1) := by decide +kernel
theorem d_R_hearAsActive_53 : decode b_R_hearAsActive 53 = .ok (.invokestatic 182, 3) := by decide +kernel
theorem d_R_hearAsActive_56 : decode b_R_hearAsActive 56 = .ok (.ifCond .eq 18, 3) := by decide +kernel
theorem d_R_hearAsActive_59 : decode b_R_hearAsActive 59 = .ok (.aload_n 0, 1) := by decide +kernel
theorem d_R_hearAsActive_60 : decode b_R_hearAsActive 60 = .ok (.aload_n 1, 1) := by decide +kernel
theorem d_R_hearAsActive_61 : decode b_R_hearAsActive 61 = .ok (.invokestatic 178, 3) := by decide +kernel
theorem d_R_hearAsActive_64 : decode b_R_hearAsActive 64 = .ok (.putfield 44, 3) := by decide +kernel
theorem d_R_hearAsActive_67 : decode b_R_hearAsActive 67 = .ok (.aload_n 0, 1) := by decide +kernel
theorem d_R_hearAsActive_68 : decode b_R_hearAsActive 68 = .ok (.invokevirtual 62, 3) := by decide +kernel
theorem d_R_hearAsActive_71 : decode b_R_hearAsActive 71 = .ok (.goto 8, 3) := by decide +kernel
theorem d_R_hearAsActive_74 : decode b_R_hearAsActive 74 = .ok (.aload_n 0, 1) := by decide +kernel
theorem d_R_hearAsActive_75 : decode b_R_hearAsActive 75 = .ok (.iload_n 3, 1) := by decide +kernel
theorem d_R_hearAsActive_76 : decode b_R_hearAsActive 76 = .ok (.invokevirtual 65, 3) := by decide +kernel
theorem d_R_hearAsActive_79 : decode b_R_hearAsActive 79 = .ok (.return_, 1) := by decide +kernel
theorem d_R_intervalIn_0 : decode b_R_intervalIn 0 = .ok (.iconst 1, 1) := by decide +kernel
theorem d_R_intervalIn_1 : decode b_R_intervalIn 1 = .ok (.aload_n 0, 1) := by decide +kernel
theorem d_R_intervalIn_2 : decode b_R_intervalIn 2 = .ok (.iconst 4, 1) := by decide +kernel
theorem d_R_intervalIn_3 : decode b_R_intervalIn 3 = .ok (.invokevirtual 186, 3) := by decide +kernel
theorem d_R_intervalIn_6 : decode b_R_intervalIn 6 = .ok (.sipush 4095, 3) := by decide +kernel
theorem d_R_intervalIn_9 : decode b_R_intervalIn 9 = .ok (.iand, 1) := by decide +kernel
theorem d_R_intervalIn_10 : decode b_R_intervalIn 10 = .ok (.invokestatic 172, 3) := by decide +kernel
theorem d_R_intervalIn_13 : decode b_R_intervalIn 13 = .ok (.ireturn, 1) := by decide +kernel
theorem d_R_isAbove_0 : decode b_R_isAbove 0 = .ok (.iload_n 0, 1) := by decide +kernel
theorem d_R_isAbove_1 : decode b_R_isAbove 1 = .ok (.i2l, 1) := by decide +kernel
theorem d_R_isAbove_2 : decode b_R_isAbove 2 = .ok (.ldc2_w 189, 3) := by decide +kernel
theorem d_R_isAbove_5 : decode b_R_isAbove 5 = .ok (.land, 1) := by decide +kernel
theorem d_R_isAbove_6 : decode b_R_isAbove 6 = .ok (.iload_n 1, 1) := by decide +kernel
theorem d_R_isAbove_7 : decode b_R_isAbove 7 = .ok (.i2l, 1) := by decide +kernel
theorem d_R_isAbove_8 : decode b_R_isAbove 8 = .ok (.ldc2_w 189, 3) := by decide +kernel
theorem d_R_isAbove_11 : decode b_R_isAbove 11 = .ok (.land, 1) := by decide +kernel
theorem d_R_isAbove_12 : decode b_R_isAbove 12 = .ok (.lcmp, 1) := by decide +kernel
theorem d_R_isAbove_13 : decode b_R_isAbove 13 = .ok (.ifCond .le 7, 3) := by decide +kernel
theorem d_R_isAbove_16 : decode b_R_isAbove 16 = .ok (.iconst 1, 1) := by decide +kernel
theorem d_R_isAbove_17 : decode b_R_isAbove 17 = .ok (.goto 4, 3) := by decide +kernel
theorem d_R_isAbove_20 : decode b_R_isAbove 20 = .ok (.iconst 0, 1) := by decide +kernel
theorem d_R_isAbove_21 : decode b_R_isAbove 21 = .ok (.ireturn, 1) := by decide +kernel
theorem d_R_hearPacket_0 : decode b_R_hearPacket 0 = .ok (.aload_n 1, 1) := by decide +kernel
theorem d_R_hearPacket_1 : decode b_R_hearPacket 1 = .ok (.invokestatic 191, 3) := by decide +kernel
theorem d_R_hearPacket_4 : decode b_R_hearPacket 4 = .ok (.ifCond .eq 11, 3) := by decide +kernel
theorem d_R_hearPacket_7 : decode b_R_hearPacket 7 = .ok (.aload_n 0, 1) := by decide +kernel
theorem d_R_hearPacket_8 : decode b_R_hearPacket 8 = .ok (.aload_n 1, 1) := by decide +kernel
theorem d_R_hearPacket_9 : decode b_R_hearPacket 9 = .ok (.invokevirtual 194, 3) := by decide +kernel
theorem d_R_hearPacket_12 : decode b_R_hearPacket 12 = .ok (.goto 4, 3) := by decide +kernel
theorem d_R_hearPacket_15 : decode b_R_hearPacket 15 = .ok (.aconst_null, 1) := by decide +kernel
theorem d_R_hearPacket_16 : decode b_R_hearPacket 16 = .ok (.astore_n 2, 1) := by decide +kernel
theorem d_R_hearPacket_17 : decode b_R_hearPacket 17 = .ok (.aload_n 2, 1) := by decide +kernel
theorem d_R_hearPacket_18 : decode b_R_hearPacket 18 = .ok (.ifnonnull 5, 3) := by decide +kernel
theorem d_R_hearPacket_21 : decode b_R_hearPacket 21 = .ok (.iconst 0, 1) := by decide +kernel
theorem d_R_hearPacket_22 : decode b_R_hearPacket 22 = .ok (.ireturn, 1) := by decide +kernel
theorem d_R_hearPacket_23 : decode b_R_hearPacket 23 = .ok (.aload_n 2, 1) := by decide +kernel
theorem d_R_hearPacket_24 : decode b_R_hearPacket 24 = .ok (.aload_n 1, 1) := by decide +kernel
theorem d_R_hearPacket_25 : decode b_R_hearPacket 25 = .ok (.invokevirtual 198, 3) := by decide +kernel
theorem d_R_hearPacket_28 : decode b_R_hearPacket 28 = .ok (.istore_n 3, 1) := by decide +kernel
theorem d_R_hearPacket_29 : decode b_R_hearPacket 29 = .ok (.aload_n 1, 1) := by decide +kernel
theorem d_R_hearPacket_30 : decode b_R_hearPacket 30 = .ok (.iconst 1, 1) := by decide +kernel
theorem d_R_hearPacket_31 : decode b_R_hearPacket 31 = .ok (.invokevirtual 162, 3) := by decide +kernel
theorem d_R_hearPacket_34 : decode b_R_hearPacket 34 = .ok (.bipush 32, 2) := by decide +kernel
theorem d_R_hearPacket_36 : decode b_R_hearPacket 36 = .ok (.iand, 1) := by decide +kernel
theorem d_R_hearPacket_37 : decode b_R_hearPacket 37 = .ok (.ifCond .eq 10, 3) := by decide +kernel
theorem d_R_hearPacket_40 : decode b_R_hearPacket 40 = .ok (.aload_n 0, 1) := by decide +kernel
theorem d_R_hearPacket_41 : decode b_R_hearPacket 41 = .ok (.aload_n 2, 1) := by decide +kernel
theorem d_R_hearPacket_42 : decode b_R_hearPacket 42 = .ok (.bipush 16, 2) := by decide +kernel
theorem d_R_hearPacket_44 : decode b_R_hearPacket 44 = .ok (.invokevirtual 201, 3) := by decide +kernel
theorem d_R_hearPacket_47 : decode b_R_hearPacket 47 = .ok (.iload_n 3, 1) := by decide +kernel
theorem d_R_hearPacket_48 : decode b_R_hearPacket 48 = .ok (.ifCond .eq 7, 3) := by decide +kernel
theorem d_R_hearPacket_51 : decode b_R_hearPacket 51 = .ok (.aload_n 2, 1) := by decide +kernel
theorem d_R_hearPacket_52 : decode b_R_hearPacket 52 = .ok (.invokevirtual 205, 3) := by decide +kernel
theorem d_R_hearPacket_55 : decode b_R_hearPacket 55 = .ok (.iconst 1, 1) := by decide +kernel
theorem d_R_hearPacket_56 : decode b_R_hearPacket 56 = .ok (.ireturn, 1) := by decide +kernel
theorem d_R_isWhole_0 : decode b_R_isWhole 0 = .ok (.aload_n 0, 1) := by decide +kernel
theorem d_R_isWhole_1 : decode b_R_isWhole 1 = .ok (.getfield 156, 3) := by decide +kernel
theorem d_R_isWhole_4 : decode b_R_isWhole 4 = .ok (.sipush 255, 3) := by decide +kernel
theorem d_R_isWhole_7 : decode b_R_isWhole 7 = .ok (.if_icmp .ne 84, 3) := by decide +kernel
theorem d_R_isWhole_10 : decode b_R_isWhole 10 = .ok (.aload_n 0, 1) := by decide +kernel
theorem d_R_isWhole_11 : decode b_R_isWhole 11 = .ok (.getfield 159, 3) := by decide +kernel
theorem d_R_isWhole_14 : decode b_R_isWhole 14 = .ok (.bipush 24, 2) := by decide +kernel
theorem d_R_isWhole_16 : decode b_R_isWhole 16 = .ok (.if_icmp .lt 75, 3) := by decide +kernel
theorem d_R_isWhole_19 : decode b_R_isWhole 19 = .ok (.aload_n 0, 1) := by decide +kernel
theorem d_R_isWhole_20 : decode b_R_isWhole 20 = .ok (.iconst 0, 1) := by decide +kernel
theorem d_R_isWhole_21 : decode b_R_isWhole 21 = .ok (.invokevirtual 162, 3) := by decide +kernel
theorem d_R_isWhole_24 : decode b_R_isWhole 24 = .ok (.bipush 32, 2) := by decide +kernel
theorem d_R_isWhole_26 : decode b_R_isWhole 26 = .ok (.if_icmp .lt 65, 3) := by decide +kernel
theorem d_R_isWhole_29 : decode b_R_isWhole 29 = .ok (.aload_n 0, 1) := by decide +kernel
theorem d_R_isWhole_30 : decode b_R_isWhole 30 = .ok (.iconst 0, 1) := by decide +kernel
theorem d_R_isWhole_31 : decode b_R_isWhole 31 = .ok (.invokevirtual 162, 3) := by decide +kernel
theorem d_R_isWhole_34 : decode b_R_isWhole 34 = .ok (.bipush 63, 2) := by decide +kernel
theorem d_R_isWhole_36 : decode b_R_isWhole 36 = .ok (.if_icmp .gt 55, 3) := by decide +kernel
theorem d_R_isWhole_39 : decode b_R_isWhole 39 = .ok (.aload_n 0, 1) := by decide +kernel
theorem d_R_isWhole_40 : decode b_R_isWhole 40 = .ok (.iconst 3, 1) := by decide +kernel
theorem d_R_isWhole_41 : decode b_R_isWhole 41 = .ok (.invokevirtual 162, 3) := by decide +kernel
theorem d_R_isWhole_44 : decode b_R_isWhole 44 = .ok (.bipush 24, 2) := by decide +kernel
theorem d_R_isWhole_46 : decode b_R_isWhole 46 = .ok (.if_icmp .lt 45, 3) := by decide +kernel
theorem d_R_isWhole_49 : decode b_R_isWhole 49 = .ok (.aload_n 0, 1) := by decide +kernel
theorem d_R_isWhole_50 : decode b_R_isWhole 50 = .ok (.iconst 3, 1) := by decide +kernel
theorem d_R_isWhole_51 : decode b_R_isWhole 51 = .ok (.invokevirtual 162, 3) := by decide +kernel
theorem d_R_isWhole_54 : decode b_R_isWhole 54 = .ok (.aload_n 0, 1) := by decide +kernel
theorem d_R_isWhole_55 : decode b_R_isWhole 55 = .ok (.getfield 159, 3) := by decide +kernel
theorem d_R_isWhole_58 : decode b_R_isWhole 58 = .ok (.if_icmp .gt 33, 3) := by decide +kernel
theorem d_R_isWhole_61 : decode b_R_isWhole 61 = .ok (.aload_n 0, 1) := by decide +kernel
theorem d_R_isWhole_62 : decode b_R_isWhole 62 = .ok (.iconst 2, 1) := by decide +kernel
theorem d_R_isWhole_63 : decode b_R_isWhole 63 = .ok (.invokevirtual 162, 3) := by decide +kernel
theorem d_R_isWhole_66 : decode b_R_isWhole 66 = .ok (.ifCond .eq 25, 3) := by decide +kernel
theorem d_R_isWhole_69 : decode b_R_isWhole 69 = .ok (.aload_n 0, 1) := by decide +kernel
theorem d_R_isWhole_70 : decode b_R_isWhole 70 = .ok (.iconst 1, 1) := by decide +kernel
theorem d_R_isWhole_71 : decode b_R_isWhole 71 = .ok (.invokevirtual 162, 3) := by decide +kernel
theorem d_R_isWhole_74 : decode b_R_isWhole 74 = .ok (.iconst 5, 1) := by decide +kernel
theorem d_R_isWhole_75 : decode b_R_isWhole 75 = .ok (.iand, 1) := by decide +kernel
theorem d_R_isWhole_76 : decode b_R_isWhole 76 = .ok (.ifCond .ne 15, 3) := by decide +kernel
theorem d_R_isWhole_79 : decode b_R_isWhole 79 = .ok (.aload_n 0, 1) := by decide +kernel
theorem d_R_isWhole_80 : decode b_R_isWhole 80 = .ok (.iconst 4, 1) := by decide +kernel
theorem d_R_isWhole_81 : decode b_R_isWhole 81 = .ok (.invokevirtual 165, 3) := by decide +kernel
theorem d_R_isWhole_84 : decode b_R_isWhole 84 = .ok (.ifCond .eq 7, 3) := by decide +kernel
theorem d_R_isWhole_87 : decode b_R_isWhole 87 = .ok (.iconst 1, 1) := by decide +kernel
theorem d_R_isWhole_88 : decode b_R_isWhole 88 = .ok (.goto 4, 3) := by decide +kernel
theorem d_R_isWhole_91 : decode b_R_isWhole 91 = .ok (.iconst 0, 1) := by decide +kernel
theorem d_R_isWhole_92 : decode b_R_isWhole 92 = .ok (.ireturn, 1) := by decide +kernel
theorem d_R_sessionMeant_0 : decode b_R_sessionMeant 0 = .ok (.aload_n 1, 1) := by decide +kernel
theorem d_R_sessionMeant_1 : decode b_R_sessionMeant 1 = .ok (.bipush 8, 2) := by decide +kernel
theorem d_R_sessionMeant_3 : decode b_R_sessionMeant 3 = .ok (.invokevirtual 165, 3) := by decide +kernel
theorem d_R_sessionMeant_6 : decode b_R_sessionMeant 6 = .ok (.istore_n 2, 1) := by decide +kernel
theorem d_R_sessionMeant_7 : decode b_R_sessionMeant 7 = .ok (.iload_n 2, 1) := by decide +kernel
theorem d_R_sessionMeant_8 : decode b_R_sessionMeant 8 = .ok (.ifCond .ne 19, 3) := by decide +kernel
theorem d_R_sessionMeant_11 : decode b_R_sessionMeant 11 = .ok (.aload_n 1, 1) := by decide +kernel
theorem d_R_sessionMeant_12 : decode b_R_sessionMeant 12 = .ok (.iconst 1, 1) := by decide +kernel
theorem d_R_sessionMeant_13 : decode b_R_sessionMeant 13 = .ok (.invokevirtual 162, 3) := by decide +kernel
theorem d_R_sessionMeant_16 : decode b_R_sessionMeant 16 = .ok (.bipush 64, 2) := by decide +kernel
theorem d_R_sessionMeant_18 : decode b_R_sessionMeant 18 = .ok (.idiv, 1) := by decide +kernel
theorem d_R_sessionMeant_19 : decode b_R_sessionMeant 19 = .ok (.iconst 1, 1) := by decide +kernel
theorem d_R_sessionMeant_20 : decode b_R_sessionMeant 20 = .ok (.if_icmp .gt 7, 3) := by decide +kernel
theorem d_R_sessionMeant_23 : decode b_R_sessionMeant 23 = .ok (.iconst 1, 1) := by decide +kernel
theorem d_R_sessionMeant_24 : decode b_R_sessionMeant 24 = .ok (.goto 4, 3) := by decide +kernel
theorem d_R_sessionMeant_27 : decode b_R_sessionMeant 27 = .ok (.iconst 0, 1) := by decide +kernel
theorem d_R_sessionMeant_28 : decode b_R_sessionMeant 28 = .ok (.istore_n 3, 1) := by decide +kernel
theorem d_R_sessionMeant_29 : decode b_R_sessionMeant 29 = .ok (.iconst 0, 1) := by decide +kernel
theorem d_R_sessionMeant_30 : decode b_R_sessionMeant 30 = .ok (.istore 4, 2) := by decide +kernel
theorem d_R_sessionMeant_32 : decode b_R_sessionMeant 32 = .ok (.iload 4, 2) := by decide +kernel
theorem d_R_sessionMeant_34 : decode b_R_sessionMeant 34 = .ok (.iconst 5, 1) := by decide +kernel
theorem d_R_sessionMeant_35 : decode b_R_sessionMeant 35 = .ok (.if_icmp .ge 51, 3) := by decide +kernel
theorem d_R_sessionMeant_38 : decode b_R_sessionMeant 38 = .ok (.aload_n 0, 1) := by decide +kernel
theorem d_R_sessionMeant_39 : decode b_R_sessionMeant 39 = .ok (.getfield 27, 3) := by decide +kernel
theorem d_R_sessionMeant_42 : decode b_R_sessionMeant 42 = .ok (.iload 4, 2) := by decide +kernel
theorem d_R_sessionMeant_44 : decode b_R_sessionMeant 44 = .ok (.aaload, 1) := by decide +kernel
theorem d_R_sessionMeant_45 : decode b_R_sessionMeant 45 = .ok (.astore 5, 2) := by decide +kernel
theorem d_R_sessionMeant_47 : decode b_R_sessionMeant 47 = .ok (.aload 5, 2) := by decide +kernel
theorem d_R_sessionMeant_49 : decode b_R_sessionMeant 49 = .ok (.getfield 69, 3) := by decide +kernel
theorem d_R_sessionMeant_52 : decode b_R_sessionMeant 52 = .ok (.ifCond .eq 28, 3) := by decide +kernel
theorem d_R_sessionMeant_55 : decode b_R_sessionMeant 55 = .ok (.aload 5, 2) := by decide +kernel
theorem d_R_sessionMeant_57 : decode b_R_sessionMeant 57 = .ok (.getfield 113, 3) := by decide +kernel
theorem d_R_sessionMeant_60 : decode b_R_sessionMeant 60 = .ok (.iload_n 2, 1) := by decide +kernel
theorem d_R_sessionMeant_61 : decode b_R_sessionMeant 61 = .ok (.if_icmp .eq 16, 3) := by decide +kernel
theorem d_R_sessionMeant_64 : decode b_R_sessionMeant 64 = .ok (.iload_n 3, 1) := by decide +kernel
theorem d_R_sessionMeant_65 : decode b_R_sessionMeant 65 = .ok (.ifCond .eq 15, 3) := by decide +kernel
theorem d_R_sessionMeant_68 : decode b_R_sessionMeant 68 = .ok (.iload 4, 2) := by decide +kernel
theorem d_R_sessionMeant_70 : decode b_R_sessionMeant 70 = .ok (.aload_n 1, 1) := by decide +kernel
theorem d_R_sessionMeant_71 : decode b_R_sessionMeant 71 = .ok (.getfield 150, 3) := by decide +kernel
theorem d_R_sessionMeant_74 : decode b_R_sessionMeant 74 = .ok (.if_icmp .ne 6, 3) := by decide +kernel
theorem d_R_sessionMeant_77 : decode b_R_sessionMeant 77 = .ok (.aload 5, 2) := by decide +kernel
theorem d_R_sessionMeant_79 : decode b_R_sessionMeant 79 = .ok (.areturn, 1) := by decide +kernel
theorem d_R_sessionMeant_80 : decode b_R_sessionMeant 80 = .ok (.iinc 4 1, 3) := by decide +kernel
theorem d_R_sessionMeant_83 : decode b_R_sessionMeant 83 = .ok (.goto (-51), 3) := by decide +kernel
theorem d_R_sessionMeant_86 : decode b_R_sessionMeant 86 = .ok (.aconst_null, 1) := by decide +kernel
theorem d_R_sessionMeant_87 : decode b_R_sessionMeant 87 = .ok (.areturn, 1) := by decide +kernel
theorem d_R_runTimers_0 : decode b_R_runTimers 0 = .ok (.aload_n 0, 1) := by decide +kernel
theorem d_R_runTimers_1 : decode b_R_runTimers 1 = .ok (.getfield 34, 3) := by decide +kernel
theorem d_R_runTimers_4 : decode b_R_runTimers 4 = .ok (.ifCond .ne 4, 3) := by decide +kernel
theorem d_R_runTimers_7 : decode b_R_runTimers 7 = .ok (.return_, 1) := by decide +kernel
theorem d_R_runTimers_8 : decode b_R_runTimers 8 = .ok (.aload_n 0, 1) := by decide +kernel
theorem d_R_runTimers_9 : decode b_R_runTimers 9 = .ok (.dup, 1) := by decide +kernel
theorem d_R_runTimers_10 : decode b_R_runTimers 10 = .ok (.getfield 37, 3) := by decide +kernel
theorem d_R_runTimers_13 : decode b_R_runTimers 13 = .ok (.iconst 1, 1) := by decide +kernel
theorem d_R_runTimers_14 : decode b_R_runTimers 14 = .ok (.isub, 1) := by decide +kernel
theorem d_R_runTimers_15 : decode b_R_runTimers 15 = .ok (.putfield 37, 3) := by decide +kernel
theorem d_R_runTimers_18 : decode b_R_runTimers 18 = .ok (.aload_n 0, 1) := by decide +kernel
theorem d_R_runTimers_19 : decode b_R_runTimers 19 = .ok (.getfield 37, 3) := by decide +kernel
theorem d_R_runTimers_22 : decode b_R_runTimers 22 = .ok (.ifCond .gt 7, 3) := by decide +kernel
theorem d_R_runTimers_25 : decode b_R_runTimers 25 = .ok (.aload_n 0, 1) := by decide +kernel
theorem d_R_runTimers_26 : decode b_R_runTimers 26 = .ok (.invokevirtual 208, 3) := by decide +kernel
theorem d_R_runTimers_29 : decode b_R_runTimers 29 = .ok (.iconst 0, 1) := by decide +kernel
theorem d_R_runTimers_30 : decode b_R_runTimers 30 = .ok (.istore_n 1, 1) := by decide +kernel
theorem d_R_runTimers_31 : decode b_R_runTimers 31 = .ok (.iload_n 1, 1) := by decide +kernel
theorem d_R_runTimers_32 : decode b_R_runTimers 32 = .ok (.iconst 5, 1) := by decide +kernel
theorem d_R_runTimers_33 : decode b_R_runTimers 33 = .ok (.if_icmp .ge 31, 3) := by decide +kernel
theorem d_R_runTimers_36 : decode b_R_runTimers 36 = .ok (.aload_n 0, 1) := by decide +kernel
theorem d_R_runTimers_37 : decode b_R_runTimers 37 = .ok (.getfield 27, 3) := by decide +kernel
theorem d_R_runTimers_40 : decode b_R_runTimers 40 = .ok (.iload_n 1, 1) := by decide +kernel
theorem d_R_runTimers_41 : decode b_R_runTimers 41 = .ok (.aaload, 1) := by decide +kernel
theorem d_R_runTimers_42 : decode b_R_runTimers 42 = .ok (.getfield 69, 3) := by decide +kernel
theorem d_R_runTimers_45 : decode b_R_runTimers 45 = .ok (.ifCond .eq 13, 3) := by decide +kernel
theorem d_R_runTimers_48 : decode b_R_runTimers 48 = .ok (.aload_n 0, 1) := by decide +kernel
theorem d_R_runTimers_49 : decode b_R_runTimers 49 = .ok (.aload_n 0, 1) := by decide +kernel
theorem d_R_runTimers_50 : decode b_R_runTimers 50 = .ok (.getfield 27, 3) := by decide +kernel
theorem d_R_runTimers_53 : decode b_R_runTimers 53 = .ok (.iload_n 1, 1) := by decide +kernel
theorem d_R_runTimers_54 : decode b_R_runTimers 54 = .ok (.aaload, 1) := by decide +kernel
theorem d_R_runTimers_55 : decode b_R_runTimers 55 = .ok (.invokevirtual 211, 3) := by decide +kernel
theorem d_R_runTimers_58 : decode b_R_runTimers 58 = .ok (.iinc 1 1, 3) := by decide +kernel
theorem d_R_runTimers_61 : decode b_R_runTimers 61 = .ok (.goto (-30), 3) := by decide +kernel
theorem d_R_runTimers_64 : decode b_R_runTimers 64 = .ok (.return_, 1) := by decide +kernel
theorem d_R_timerFires_0 : decode b_R_timerFires 0 = .ok (.aload_n 0, 1) := by decide +kernel
theorem d_R_timerFires_1 : decode b_R_timerFires 1 = .ok (.getfield 34, 3) := by decide +kernel
theorem d_R_timerFires_4 : decode b_R_timerFires 4 = .ok (.iconst 1, 1) := by decide +kernel
theorem d_R_timerFires_5 : decode b_R_timerFires 5 = .ok (.if_icmp .ne 10, 3) := by decide +kernel
theorem d_R_timerFires_8 : decode b_R_timerFires 8 = .ok (.aload_n 0, 1) := by decide +kernel
theorem d_R_timerFires_9 : decode b_R_timerFires 9 = .ok (.invokevirtual 59, 3) := by decide +kernel
theorem d_R_timerFires_12 : decode b_R_timerFires 12 = .ok (.goto 21, 3) := by decide +kernel
theorem d_R_timerFires_15 : decode b_R_timerFires 15 = .ok (.aload_n 0, 1) := by decide +kernel
theorem d_R_timerFires_16 : decode b_R_timerFires 16 = .ok (.aload_n 0, 1) := by decide +kernel
theorem d_R_timerFires_17 : decode b_R_timerFires 17 = .ok (.invokevirtual 40, 3) := by decide +kernel
theorem d_R_timerFires_20 : decode b_R_timerFires 20 = .ok (.invokevirtual 65, 3) := by decide +kernel
theorem d_R_timerFires_23 : decode b_R_timerFires 23 = .ok (.aload_n 0, 1) := by decide +kernel
theorem d_R_timerFires_24 : decode b_R_timerFires 24 = .ok (.aload_n 0, 1) := by decide +kernel
theorem d_R_timerFires_25 : decode b_R_timerFires 25 = .ok (.getfield 21, 3) := by decide +kernel
theorem d_R_timerFires_28 : decode b_R_timerFires 28 = .ok (.iconst 1, 1) := by decide +kernel
theorem d_R_timerFires_29 : decode b_R_timerFires 29 = .ok (.iaload, 1) := by decide +kernel
theorem d_R_timerFires_30 : decode b_R_timerFires 30 = .ok (.putfield 37, 3) := by decide +kernel
theorem d_R_timerFires_33 : decode b_R_timerFires 33 = .ok (.return_, 1) := by decide +kernel
theorem d_R_runSession_0 : decode b_R_runSession 0 = .ok (.aload_n 1, 1) := by decide +kernel
theorem d_R_runSession_1 : decode b_R_runSession 1 = .ok (.invokevirtual 215, 3) := by decide +kernel
theorem d_R_runSession_4 : decode b_R_runSession 4 = .ok (.aload_n 1, 1) := by decide +kernel
theorem d_R_runSession_5 : decode b_R_runSession 5 = .ok (.invokevirtual 218, 3) := by decide +kernel
theorem d_R_runSession_8 : decode b_R_runSession 8 = .ok (.ifCond .eq 29, 3) := by decide +kernel
theorem d_R_runSession_11 : decode b_R_runSession 11 = .ok (.aload_n 0, 1) := by decide +kernel
theorem d_R_runSession_12 : decode b_R_runSession 12 = .ok (.aload_n 1, 1) := by decide +kernel
theorem d_R_runSession_13 : decode b_R_runSession 13 = .ok (.aload_n 1, 1) := by decide +kernel
theorem d_R_runSession_14 : decode b_R_runSession 14 = .ok (.getfield 222, 3) := by decide +kernel
theorem d_R_runSession_17 : decode b_R_runSession 17 = .ok (.ifCond .eq 8, 3) := by decide +kernel
theorem d_R_runSession_20 : decode b_R_runSession 20 = .ok (.bipush 32, 2) := by decide +kernel
theorem d_R_runSession_22 : decode b_R_runSession 22 = .ok (.goto 4, 3) := by decide +kernel
theorem d_R_runSession_25 : decode b_R_runSession 25 = .ok (.iconst 0, 1) := by decide +kernel
theorem d_R_runSession_26 : decode b_R_runSession 26 = .ok (.invokevirtual 201, 3) := by decide +kernel
theorem d_R_runSession_29 : decode b_R_runSession 29 = .ok (.aload_n 1, 1) := by decide +kernel
theorem d_R_runSession_30 : decode b_R_runSession 30 = .ok (.aload_n 1, 1) := by decide +kernel
theorem d_R_runSession_31 : decode b_R_runSession 31 = .ok (.invokevirtual 225, 3) := by decide +kernel
theorem d_R_runSession_34 : decode b_R_runSession 34 = .ok (.putfield 228, 3) := by decide +kernel
theorem d_R_runSession_37 : decode b_R_runSession 37 = .ok (.return_, 1) := by decide +kernel
