theorem d_S_init_0 : decode b_S_init 0 = .ok (.aload_n 0, 1) := by decide +kernel
theorem d_S_init_1 : decode b_S_init 1 = .ok (.invokespecial 3, 3) := by decide +kernel
theorem d_S_init_4 : decode b_S_init 4 = .ok (.aload_n 0, 1) := by decide +kernel
theorem d_S_init_5 : decode b_S_init 5 = .ok (.iload_n 1, 1) := by decide +kernel
theorem d_S_init_6 : decode b_S_init 6 = .ok (.putfield 9, 3) := by decide +kernel
theorem d_S_init_9 : decode b_S_init 9 = .ok (.aload_n 0, 1) := by decide +kernel
theorem d_S_init_10 : decode b_S_init 10 = .ok (.iload_n 2, 1) := by decide +kernel
theorem d_S_init_11 : decode b_S_init 11 = .ok (.putfield 15, 3) := by decide +kernel
theorem d_S_init_14 : decode b_S_init 14 = .ok (.return_, 1) := by decide +kernel
theorem d_S_begin_0 : decode b_S_begin 0 = .ok (.aload_n 0, 1) := by decide +kernel
theorem d_S_begin_1 : decode b_S_begin 1 = .ok (.iconst 1, 1) := by decide +kernel
theorem d_S_begin_2 : decode b_S_begin 2 = .ok (.putfield 18, 3) := by decide +kernel
theorem d_S_begin_5 : decode b_S_begin 5 = .ok (.aload_n 0, 1) := by decide +kernel
theorem d_S_begin_6 : decode b_S_begin 6 = .ok (.iconst 1, 1) := by decide +kernel
theorem d_S_begin_7 : decode b_S_begin 7 = .ok (.putfield 22, 3) := by decide +kernel
theorem d_S_begin_10 : decode b_S_begin 10 = .ok (.aload_n 0, 1) := by decide +kernel
theorem d_S_begin_11 : decode b_S_begin 11 = .ok (.iconst 1, 1) := by decide +kernel
theorem d_S_begin_12 : decode b_S_begin 12 = .ok (.putfield 25, 3) := by decide +kernel
theorem d_S_begin_15 : decode b_S_begin 15 = .ok (.aload_n 0, 1) := by decide +kernel
theorem d_S_begin_16 : decode b_S_begin 16 = .ok (.iconst 0, 1) := by decide +kernel
theorem d_S_begin_17 : decode b_S_begin 17 = .ok (.putfield 28, 3) := by decide +kernel
theorem d_S_begin_20 : decode b_S_begin 20 = .ok (.aload_n 0, 1) := by decide +kernel
theorem d_S_begin_21 : decode b_S_begin 21 = .ok (.iconst 0, 1) := by decide +kernel
theorem d_S_begin_22 : decode b_S_begin 22 = .ok (.putfield 31, 3) := by decide +kernel
theorem d_S_begin_25 : decode b_S_begin 25 = .ok (.aload_n 0, 1) := by decide +kernel
theorem d_S_begin_26 : decode b_S_begin 26 = .ok (.iload_n 1, 1) := by decide +kernel
theorem d_S_begin_27 : decode b_S_begin 27 = .ok (.putfield 34, 3) := by decide +kernel
theorem d_S_begin_30 : decode b_S_begin 30 = .ok (.aload_n 0, 1) := by decide +kernel
theorem d_S_begin_31 : decode b_S_begin 31 = .ok (.iload_n 2, 1) := by decide +kernel
theorem d_S_begin_32 : decode b_S_begin 32 = .ok (.putfield 37, 3) := by decide +kernel
theorem d_S_begin_35 : decode b_S_begin 35 = .ok (.aload_n 0, 1) := by decide +kernel
theorem d_S_begin_36 : decode b_S_begin 36 = .ok (.iload_n 3, 1) := by decide +kernel
theorem d_S_begin_37 : decode b_S_begin 37 = .ok (.putfield 40, 3) := by decide +kernel
theorem d_S_begin_40 : decode b_S_begin 40 = .ok (.aload_n 0, 1) := by decide +kernel
theorem d_S_begin_41 : decode b_S_begin 41 = .ok (.iconst 1, 1) := by decide +kernel
theorem d_S_begin_42 : decode b_S_begin 42 = .ok (.putfield 43, 3) := by decide +kernel
theorem d_S_begin_45 : decode b_S_begin 45 = .ok (.aload_n 0, 1) := by decide +kernel
theorem d_S_begin_46 : decode b_S_begin 46 = .ok (.iconst 0, 1) := by decide +kernel
theorem d_S_begin_47 : decode b_S_begin 47 = .ok (.putfield 46, 3) := by decide +kernel
theorem d_S_begin_50 : decode b_S_begin 50 = .ok (.aload_n 0, 1) := by decide +kernel
theorem d_S_begin_51 : decode b_S_begin 51 = .ok (.iconst 0, 1) := by decide +kernel
theorem d_S_begin_52 : decode b_S_begin 52 = .ok (.putfield 49, 3) := by decide +kernel
theorem d_S_begin_55 : decode b_S_begin 55 = .ok (.aload_n 0, 1) := by decide +kernel
theorem d_S_begin_56 : decode b_S_begin 56 = .ok (.iconst 0, 1) := by decide +kernel
theorem d_S_begin_57 : decode b_S_begin 57 = .ok (.putfield 52, 3) := by decide +kernel
theorem d_S_begin_60 : decode b_S_begin 60 = .ok (.aload_n 0, 1) := by decide +kernel
theorem d_S_begin_61 : decode b_S_begin 61 = .ok (.invokevirtual 55, 3) := by decide +kernel
theorem d_S_begin_64 : decode b_S_begin 64 = .ok (.aload_n 0, 1) := by decide +kernel
theorem d_S_begin_65 : decode b_S_begin 65 = .ok (.iconst 0, 1) := by decide +kernel
theorem d_S_begin_66 : decode b_S_begin 66 = .ok (.putfield 58, 3) := by decide +kernel
theorem d_S_begin_69 : decode b_S_begin 69 = .ok (.aload_n 0, 1) := by decide +kernel
theorem d_S_begin_70 : decode b_S_begin 70 = .ok (.iconst 0, 1) := by decide +kernel
theorem d_S_begin_71 : decode b_S_begin 71 = .ok (.putfield 61, 3) := by decide +kernel
theorem d_S_begin_74 : decode b_S_begin 74 = .ok (.aload_n 0, 1) := by decide +kernel
theorem d_S_begin_75 : decode b_S_begin 75 = .ok (.aload_n 0, 1) := by decide +kernel
theorem d_S_begin_76 : decode b_S_begin 76 = .ok (.invokevirtual 64, 3) := by decide +kernel
theorem d_S_begin_79 : decode b_S_begin 79 = .ok (.putfield 68, 3) := by decide +kernel
theorem d_S_begin_82 : decode b_S_begin 82 = .ok (.return_, 1) := by decide +kernel
theorem d_S_wantRates_0 : decode b_S_wantRates 0 = .ok (.aload_n 0, 1) := by decide +kernel
theorem d_S_wantRates_1 : decode b_S_wantRates 1 = .ok (.iload_n 1, 1) := by decide +kernel
theorem d_S_wantRates_2 : decode b_S_wantRates 2 = .ok (.putfield 34, 3) := by decide +kernel
theorem d_S_wantRates_5 : decode b_S_wantRates 5 = .ok (.aload_n 0, 1) := by decide +kernel
theorem d_S_wantRates_6 : decode b_S_wantRates 6 = .ok (.iload_n 2, 1) := by decide +kernel
theorem d_S_wantRates_7 : decode b_S_wantRates 7 = .ok (.putfield 37, 3) := by decide +kernel
theorem d_S_wantRates_10 : decode b_S_wantRates 10 = .ok (.aload_n 0, 1) := by decide +kernel
theorem d_S_wantRates_11 : decode b_S_wantRates 11 = .ok (.getfield 22, 3) := by decide +kernel
theorem d_S_wantRates_14 : decode b_S_wantRates 14 = .ok (.iconst 3, 1) := by decide +kernel
theorem d_S_wantRates_15 : decode b_S_wantRates 15 = .ok (.if_icmp .eq 10, 3) := by decide +kernel
theorem d_S_wantRates_18 : decode b_S_wantRates 18 = .ok (.aload_n 0, 1) := by decide +kernel
theorem d_S_wantRates_19 : decode b_S_wantRates 19 = .ok (.invokevirtual 55, 3) := by decide +kernel
theorem d_S_wantRates_22 : decode b_S_wantRates 22 = .ok (.goto 38, 3) := by decide +kernel
theorem d_S_wantRates_25 : decode b_S_wantRates 25 = .ok (.aload_n 0, 1) := by decide +kernel
theorem d_S_wantRates_26 : decode b_S_wantRates 26 = .ok (.iconst 1, 1) := by decide +kernel
theorem d_S_wantRates_27 : decode b_S_wantRates 27 = .ok (.putfield 52, 3) := by decide +kernel
theorem d_S_wantRates_30 : decode b_S_wantRates 30 = .ok (.aload_n 0, 1) := by decide +kernel
theorem d_S_wantRates_31 : decode b_S_wantRates 31 = .ok (.aload_n 0, 1) := by decide +kernel
theorem d_S_wantRates_32 : decode b_S_wantRates 32 = .ok (.getfield 71, 3) := by decide +kernel
theorem d_S_wantRates_35 : decode b_S_wantRates 35 = .ok (.aload_n 0, 1) := by decide +kernel
theorem d_S_wantRates_36 : decode b_S_wantRates 36 = .ok (.getfield 34, 3) := by decide +kernel
theorem d_S_wantRates_39 : decode b_S_wantRates 39 = .ok (.invokestatic 74, 3) := by decide +kernel
theorem d_S_wantRates_42 : decode b_S_wantRates 42 = .ok (.putfield 71, 3) := by decide +kernel
theorem d_S_wantRates_45 : decode b_S_wantRates 45 = .ok (.aload_n 0, 1) := by decide +kernel
theorem d_S_wantRates_46 : decode b_S_wantRates 46 = .ok (.aload_n 0, 1) := by decide +kernel
theorem d_S_wantRates_47 : decode b_S_wantRates 47 = .ok (.getfield 80, 3) := by decide +kernel
theorem d_S_wantRates_50 : decode b_S_wantRates 50 = .ok (.aload_n 0, 1) := by decide +kernel
theorem d_S_wantRates_51 : decode b_S_wantRates 51 = .ok (.getfield 37, 3) := by decide +kernel
theorem d_S_wantRates_54 : decode b_S_wantRates 54 = .ok (.invokestatic 83, 3) := by decide +kernel
theorem d_S_wantRates_57 : decode b_S_wantRates 57 = .ok (.putfield 80, 3) := by decide +kernel
theorem d_S_wantRates_60 : decode b_S_wantRates 60 = .ok (.aload_n 0, 1) := by decide +kernel
theorem d_S_wantRates_61 : decode b_S_wantRates 61 = .ok (.invokevirtual 86, 3) := by decide +kernel
theorem d_S_wantRates_64 : decode b_S_wantRates 64 = .ok (.return_, 1) := by decide +kernel
theorem d_S_shut_0 : decode b_S_shut 0 = .ok (.aload_n 0, 1) := by decide +kernel
theorem d_S_shut_1 : decode b_S_shut 1 = .ok (.iconst 0, 1) := by decide +kernel
theorem d_S_shut_2 : decode b_S_shut 2 = .ok (.putfield 22, 3) := by decide +kernel
theorem d_S_shut_5 : decode b_S_shut 5 = .ok (.aload_n 0, 1) := by decide +kernel
theorem d_S_shut_6 : decode b_S_shut 6 = .ok (.bipush 7, 2) := by decide +kernel
theorem d_S_shut_8 : decode b_S_shut 8 = .ok (.putfield 31, 3) := by decide +kernel
theorem d_S_shut_11 : decode b_S_shut 11 = .ok (.aload_n 0, 1) := by decide +kernel
theorem d_S_shut_12 : decode b_S_shut 12 = .ok (.iconst 0, 1) := by decide +kernel
theorem d_S_shut_13 : decode b_S_shut 13 = .ok (.putfield 52, 3) := by decide +kernel
theorem d_S_shut_16 : decode b_S_shut 16 = .ok (.return_, 1) := by decide +kernel
theorem d_S_useRates_0 : decode b_S_useRates 0 = .ok (.aload_n 0, 1) := by decide +kernel
theorem d_S_useRates_1 : decode b_S_useRates 1 = .ok (.aload_n 0, 1) := by decide +kernel
theorem d_S_useRates_2 : decode b_S_useRates 2 = .ok (.getfield 34, 3) := by decide +kernel
theorem d_S_useRates_5 : decode b_S_useRates 5 = .ok (.putfield 71, 3) := by decide +kernel
theorem d_S_useRates_8 : decode b_S_useRates 8 = .ok (.aload_n 0, 1) := by decide +kernel
theorem d_S_useRates_9 : decode b_S_useRates 9 = .ok (.aload_n 0, 1) := by decide +kernel
theorem d_S_useRates_10 : decode b_S_useRates 10 = .ok (.getfield 37, 3) := by decide +kernel
theorem d_S_useRates_13 : decode b_S_useRates 13 = .ok (.putfield 80, 3) := by decide +kernel
theorem d_S_useRates_16 : decode b_S_useRates 16 = .ok (.return_, 1) := by decide +kernel
theorem d_S_slowed_0 : decode b_S_slowed 0 = .ok (.aload_n 0, 1) := by decide +kernel
theorem d_S_slowed_1 : decode b_S_slowed 1 = .ok (.getfield 22, 3) := by decide +kernel
theorem d_S_slowed_4 : decode b_S_slowed 4 = .ok (.iconst 3, 1) := by decide +kernel
theorem d_S_slowed_5 : decode b_S_slowed 5 = .ok (.if_icmp .ne 7, 3) := by decide +kernel
theorem d_S_slowed_8 : decode b_S_slowed 8 = .ok (.iload_n 1, 1) := by decide +kernel
theorem d_S_slowed_9 : decode b_S_slowed 9 = .ok (.goto 9, 3) := by decide +kernel
theorem d_S_slowed_12 : decode b_S_slowed 12 = .ok (.iload_n 1, 1) := by decide +kernel
theorem d_S_slowed_13 : decode b_S_slowed 13 = .ok (.bipush 100, 2) := by decide +kernel
theorem d_S_slowed_15 : decode b_S_slowed 15 = .ok (.invokestatic 83, 3) := by decide +kernel
theorem d_S_slowed_18 : decode b_S_slowed 18 = .ok (.ireturn, 1) := by decide +kernel
theorem d_S_sendPause_0 : decode b_S_sendPause 0 = .ok (.aload_n 0, 1) := by decide +kernel
theorem d_S_sendPause_1 : decode b_S_sendPause 1 = .ok (.getfield 43, 3) := by decide +kernel
theorem d_S_sendPause_4 : decode b_S_sendPause 4 = .ok (.ifCond .ne 7, 3) := by decide +kernel
theorem d_S_sendPause_7 : decode b_S_sendPause 7 = .ok (.iconst 0, 1) := by decide +kernel
theorem d_S_sendPause_8 : decode b_S_sendPause 8 = .ok (.goto 18, 3) := by decide +kernel
theorem d_S_sendPause_11 : decode b_S_sendPause 11 = .ok (.aload_n 0, 1) := by decide +kernel
theorem d_S_sendPause_12 : decode b_S_sendPause 12 = .ok (.aload_n 0, 1) := by decide +kernel
theorem d_S_sendPause_13 : decode b_S_sendPause 13 = .ok (.getfield 71, 3) := by decide +kernel
theorem d_S_sendPause_16 : decode b_S_sendPause 16 = .ok (.invokevirtual 89, 3) := by decide +kernel
theorem d_S_sendPause_19 : decode b_S_sendPause 19 = .ok (.aload_n 0, 1) := by decide +kernel
theorem d_S_sendPause_20 : decode b_S_sendPause 20 = .ok (.getfield 43, 3) := by decide +kernel
theorem d_S_sendPause_23 : decode b_S_sendPause 23 = .ok (.invokestatic 83, 3) := by decide +kernel
theorem d_S_sendPause_26 : decode b_S_sendPause 26 = .ok (.ireturn, 1) := by decide +kernel
theorem d_S_hurrySend_0 : decode b_S_hurrySend 0 = .ok (.aload_n 0, 1) := by decide +kernel
theorem d_S_hurrySend_1 : decode b_S_hurrySend 1 = .ok (.invokevirtual 64, 3) := by decide +kernel
theorem d_S_hurrySend_4 : decode b_S_hurrySend 4 = .ok (.istore_n 1, 1) := by decide +kernel
theorem d_S_hurrySend_5 : decode b_S_hurrySend 5 = .ok (.iload_n 1, 1) := by decide +kernel
theorem d_S_hurrySend_6 : decode b_S_hurrySend 6 = .ok (.ifCond .eq 18, 3) := by decide +kernel
theorem d_S_hurrySend_9 : decode b_S_hurrySend 9 = .ok (.aload_n 0, 1) := by decide +kernel
theorem d_S_hurrySend_10 : decode b_S_hurrySend 10 = .ok (.getfield 68, 3) := by decide +kernel
theorem d_S_hurrySend_13 : decode b_S_hurrySend 13 = .ok (.ifCond .eq 11, 3) := by decide +kernel
theorem d_S_hurrySend_16 : decode b_S_hurrySend 16 = .ok (.aload_n 0, 1) := by decide +kernel
theorem d_S_hurrySend_17 : decode b_S_hurrySend 17 = .ok (.getfield 68, 3) := by decide +kernel
theorem d_S_hurrySend_20 : decode b_S_hurrySend 20 = .ok (.iload_n 1, 1) := by decide +kernel
theorem d_S_hurrySend_21 : decode b_S_hurrySend 21 = .ok (.if_icmp .le 8, 3) := by decide +kernel
theorem d_S_hurrySend_24 : decode b_S_hurrySend 24 = .ok (.aload_n 0, 1) := by decide +kernel
theorem d_S_hurrySend_25 : decode b_S_hurrySend 25 = .ok (.iload_n 1, 1) := by decide +kernel
theorem d_S_hurrySend_26 : decode b_S_hurrySend 26 = .ok (.putfield 68, 3) := by decide +kernel
theorem d_S_hurrySend_29 : decode b_S_hurrySend 29 = .ok (.return_, 1) := by decide +kernel
theorem d_S_learn_0 : decode b_S_learn 0 = .ok (.aload_n 0, 1) := by decide +kernel
theorem d_S_learn_1 : decode b_S_learn 1 = .ok (.getfield 43, 3) := by decide +kernel
theorem d_S_learn_4 : decode b_S_learn 4 = .ok (.istore_n 2, 1) := by decide +kernel
theorem d_S_learn_5 : decode b_S_learn 5 = .ok (.aload_n 0, 1) := by decide +kernel
theorem d_S_learn_6 : decode b_S_learn 6 = .ok (.getfield 22, 3) := by decide +kernel
theorem d_S_learn_9 : decode b_S_learn 9 = .ok (.istore_n 3, 1) := by decide +kernel
theorem d_S_learn_10 : decode b_S_learn 10 = .ok (.aload_n 1, 1) := by decide +kernel
theorem d_S_learn_11 : decode b_S_learn 11 = .ok (.iconst 1, 1) := by decide +kernel
theorem d_S_learn_12 : decode b_S_learn 12 = .ok (.invokevirtual 93, 3) := by decide +kernel
theorem d_S_learn_15 : decode b_S_learn 15 = .ok (.istore 4, 2) := by decide +kernel
theorem d_S_learn_17 : decode b_S_learn 17 = .ok (.aload_n 0, 1) := by decide +kernel
theorem d_S_learn_18 : decode b_S_learn 18 = .ok (.aload_n 1, 1) := by decide +kernel
theorem d_S_learn_19 : decode b_S_learn 19 = .ok (.iconst 4, 1) := by decide +kernel
theorem d_S_learn_20 : decode b_S_learn 20 = .ok (.invokevirtual 98, 3) := by decide +kernel
theorem d_S_learn_23 : decode b_S_learn 23 = .ok (.invokestatic 101, 3) := by decide +kernel
theorem d_S_learn_26 : decode b_S_learn 26 = .ok (.putfield 28, 3) := by decide +kernel
theorem d_S_learn_29 : decode b_S_learn 29 = .ok (.aload_n 0, 1) := by decide +kernel
theorem d_S_learn_30 : decode b_S_learn 30 = .ok (.iload 4, 2) := by decide +kernel
theorem d_S_learn_32 : decode b_S_learn 32 = .ok (.bipush 64, 2) := by decide +kernel
theorem d_S_learn_34 : decode b_S_learn 34 = .ok (.idiv, 1) := by decide +kernel
theorem d_S_learn_35 : decode b_S_learn 35 = .ok (.putfield 25, 3) := by decide +kernel
theorem d_S_learn_38 : decode b_S_learn 38 = .ok (.aload_n 0, 1) := by decide +kernel
theorem d_S_learn_39 : decode b_S_learn 39 = .ok (.aload_n 1, 1) := by decide +kernel
theorem d_S_learn_40 : decode b_S_learn 40 = .ok (.iconst 2, 1) := by decide +kernel
theorem d_S_learn_41 : decode b_S_learn 41 = .ok (.invokevirtual 93, 3) := by decide +kernel
theorem d_S_learn_44 : decode b_S_learn 44 = .ok (.putfield 49, 3) := by decide +kernel
theorem d_S_learn_47 : decode b_S_learn 47 = .ok (.aload_n 0, 1) := by decide +kernel
theorem d_S_learn_48 : decode b_S_learn 48 = .ok (.aload_n 1, 1) := by decide +kernel
theorem d_S_learn_49 : decode b_S_learn 49 = .ok (.bipush 12, 2) := by decide +kernel
theorem d_S_learn_51 : decode b_S_learn 51 = .ok (.invokevirtual 98, 3) := by decide +kernel
theorem d_S_learn_54 : decode b_S_learn 54 = .ok (.invokestatic 101, 3) := by decide +kernel
theorem d_S_learn_57 : decode b_S_learn 57 = .ok (.putfield 46, 3) := by decide +kernel
theorem d_S_learn_60 : decode b_S_learn 60 = .ok (.aload_n 0, 1) := by decide +kernel
theorem d_S_learn_61 : decode b_S_learn 61 = .ok (.aload_n 1, 1) := by decide +kernel
theorem d_S_learn_62 : decode b_S_learn 62 = .ok (.bipush 16, 2) := by decide +kernel
theorem d_S_learn_64 : decode b_S_learn 64 = .ok (.invokevirtual 98, 3) := by decide +kernel
theorem d_S_learn_67 : decode b_S_learn 67 = .ok (.invokestatic 101, 3) := by decide +kernel
theorem d_S_learn_70 : decode b_S_learn 70 = .ok (.putfield 43, 3) := by decide +kernel
theorem d_S_learn_73 : decode b_S_learn 73 = .ok (.aload_n 0, 1) := by decide +kernel
theorem d_S_learn_74 : decode b_S_learn 74 = .ok (.getfield 52, 3) := by decide +kernel
theorem d_S_learn_77 : decode b_S_learn 77 = .ok (.ifCond .eq 20, 3) := by decide +kernel
theorem d_S_learn_80 : decode b_S_learn 80 = .ok (.iload 4, 2) := by decide +kernel
theorem d_S_learn_82 : decode b_S_learn 82 = .ok (.bipush 16, 2) := by decide +kernel
theorem d_S_learn_84 : decode b_S_learn 84 = .ok (.iand, 1) := by decide +kernel
theorem d_S_learn_85 : decode b_S_learn 85 = .ok (.ifCond .eq 12, 3) := by decide +kernel
theorem d_S_learn_88 : decode b_S_learn 88 = .ok (.aload_n 0, 1) := by decide +kernel
theorem d_S_learn_89 : decode b_S_learn 89 = .ok (.iconst 0, 1) := by decide +kernel
theorem d_S_learn_90 : decode b_S_learn 90 = .ok (.putfield 52, 3) := by decide +kernel
theorem d_S_learn_93 : decode b_S_learn 93 = .ok (.aload_n 0, 1) := by decide +kernel
theorem d_S_learn_94 : decode b_S_learn 94 = .ok (.invokevirtual 55, 3) := by decide +kernel
theorem d_S_learn_97 : decode b_S_learn 97 = .ok (.aload_n 0, 1) := by decide +kernel
theorem d_S_learn_98 : decode b_S_learn 98 = .ok (.ldc 104, 2) := by decide +kernel
theorem d_S_learn_100 : decode b_S_learn 100 = .ok (.aload_n 0, 1) := by decide +kernel
theorem d_S_learn_101 : decode b_S_learn 101 = .ok (.getfield 49, 3) := by decide +kernel
theorem d_S_learn_104 : decode b_S_learn 104 = .ok (.aload_n 0, 1) := by decide +kernel
theorem d_S_learn_105 : decode b_S_learn 105 = .ok (.getfield 80, 3) := by decide +kernel
theorem d_S_learn_108 : decode b_S_learn 108 = .ok (.aload_n 0, 1) := by decide +kernel
theorem d_S_learn_109 : decode b_S_learn 109 = .ok (.getfield 46, 3) := by decide +kernel
theorem d_S_learn_112 : decode b_S_learn 112 = .ok (.invokestatic 83, 3) := by decide +kernel
theorem d_S_learn_115 : decode b_S_learn 115 = .ok (.imul, 1) := by decide +kernel
theorem d_S_learn_116 : decode b_S_learn 116 = .ok (.invokestatic 74, 3) := by decide +kernel
theorem d_S_learn_119 : decode b_S_learn 119 = .ok (.putfield 58, 3) := by decide +kernel
theorem d_S_learn_122 : decode b_S_learn 122 = .ok (.aload_n 0, 1) := by decide +kernel
theorem d_S_learn_123 : decode b_S_learn 123 = .ok (.invokevirtual 105, 3) := by decide +kernel
theorem d_S_learn_126 : decode b_S_learn 126 = .ok (.aload_n 0, 1) := by decide +kernel
theorem d_S_learn_127 : decode b_S_learn 127 = .ok (.getfield 43, 3) := by decide +kernel
theorem d_S_learn_130 : decode b_S_learn 130 = .ok (.iload_n 2, 1) := by decide +kernel
theorem d_S_learn_131 : decode b_S_learn 131 = .ok (.if_icmp .ne 11, 3) := by decide +kernel
theorem d_S_learn_134 : decode b_S_learn 134 = .ok (.aload_n 0, 1) := by decide +kernel
theorem d_S_learn_135 : decode b_S_learn 135 = .ok (.getfield 22, 3) := by decide +kernel
theorem d_S_learn_138 : decode b_S_learn 138 = .ok (.iload_n 3, 1) := by decide +kernel
theorem d_S_learn_139 : decode b_S_learn 139 = .ok (.if_icmp .eq 7, 3) := by decide +kernel
theorem d_S_learn_142 : decode b_S_learn 142 = .ok (.iconst 1, 1) := by decide +kernel
theorem d_S_learn_143 : decode b_S_learn 143 = .ok (.goto 4, 3) := by decide +kernel
theorem d_S_learn_146 : decode b_S_learn 146 = .ok (.iconst 0, 1) := by decide +kernel
theorem d_S_learn_147 : decode b_S_learn 147 = .ok (.ireturn, 1) := by decide +kernel
theorem d_S_told_0 : decode b_S_told 0 = .ok (.iload_n 0, 1) := by decide +kernel
theorem d_S_told_1 : decode b_S_told 1 = .ok (.ifCond .lt 9, 3) := by decide +kernel
theorem d_S_told_4 : decode b_S_told 4 = .ok (.iload_n 0, 1) := by decide +kernel
theorem d_S_told_5 : decode b_S_told 5 = .ok (.ldc 108, 2) := by decide +kernel
theorem d_S_told_7 : decode b_S_told 7 = .ok (.if_icmp .le 8, 3) := by decide +kernel
theorem d_S_told_10 : decode b_S_told 10 = .ok (.ldc 108, 2) := by decide +kernel
theorem d_S_told_12 : decode b_S_told 12 = .ok (.goto 4, 3) := by decide +kernel
theorem d_S_told_15 : decode b_S_told 15 = .ok (.iload_n 0, 1) := by decide +kernel
theorem d_S_told_16 : decode b_S_told 16 = .ok (.ireturn, 1) := by decide +kernel
theorem d_S_follow_0 : decode b_S_follow 0 = .ok (.aload_n 0, 1) := by decide +kernel
theorem d_S_follow_1 : decode b_S_follow 1 = .ok (.getfield 22, 3) := by decide +kernel
theorem d_S_follow_4 : decode b_S_follow 4 = .ok (.ifCond .ne 4, 3) := by decide +kernel
theorem d_S_follow_7 : decode b_S_follow 7 = .ok (.return_, 1) := by decide +kernel
theorem d_S_follow_8 : decode b_S_follow 8 = .ok (.aload_n 0, 1) := by decide +kernel
theorem d_S_follow_9 : decode b_S_follow 9 = .ok (.getfield 25, 3) := by decide +kernel
theorem d_S_follow_12 : decode b_S_follow 12 = .ok (.ifCond .ne 11, 3) := by decide +kernel
theorem d_S_follow_15 : decode b_S_follow 15 = .ok (.aload_n 0, 1) := by decide +kernel
theorem d_S_follow_16 : decode b_S_follow 16 = .ok (.iconst 3, 1) := by decide +kernel
theorem d_S_follow_17 : decode b_S_follow 17 = .ok (.invokevirtual 109, 3) := by decide +kernel
theorem d_S_follow_20 : decode b_S_follow 20 = .ok (.goto 78, 3) := by decide +kernel
theorem d_S_follow_23 : decode b_S_follow 23 = .ok (.aload_n 0, 1) := by decide +kernel
theorem d_S_follow_24 : decode b_S_follow 24 = .ok (.getfield 22, 3) := by decide +kernel
theorem d_S_follow_27 : decode b_S_follow 27 = .ok (.iconst 1, 1) := by decide +kernel
theorem d_S_follow_28 : decode b_S_follow 28 = .ok (.if_icmp .ne 34, 3) := by decide +kernel
theorem d_S_follow_31 : decode b_S_follow 31 = .ok (.aload_n 0, 1) := by decide +kernel
theorem d_S_follow_32 : decode b_S_follow 32 = .ok (.getfield 25, 3) := by decide +kernel
theorem d_S_follow_35 : decode b_S_follow 35 = .ok (.iconst 1, 1) := by decide +kernel
theorem d_S_follow_36 : decode b_S_follow 36 = .ok (.if_icmp .ne 11, 3) := by decide +kernel
theorem d_S_follow_39 : decode b_S_follow 39 = .ok (.aload_n 0, 1) := by decide +kernel
theorem d_S_follow_40 : decode b_S_follow 40 = .ok (.iconst 2, 1) := by decide +kernel
theorem d_S_follow_41 : decode b_S_follow 41 = .ok (.putfield 22, 3) := by decide +kernel
theorem d_S_follow_44 : decode b_S_follow 44 = .ok (.goto 54, 3) := by decide +kernel
theorem d_S_follow_47 : decode b_S_follow 47 = .ok (.aload_n 0, 1) := by decide +kernel
theorem d_S_follow_48 : decode b_S_follow 48 = .ok (.getfield 25, 3) := by decide +kernel
theorem d_S_follow_51 : decode b_S_follow 51 = .ok (.iconst 2, 1) := by decide +kernel
theorem d_S_follow_52 : decode b_S_follow 52 = .ok (.if_icmp .ne 46, 3) := by decide +kernel
theorem d_S_follow_55 : decode b_S_follow 55 = .ok (.aload_n 0, 1) := by decide +kernel
theorem d_S_follow_56 : decode b_S_follow 56 = .ok (.invokevirtual 113, 3) := by decide +kernel
theorem d_S_follow_59 : decode b_S_follow 59 = .ok (.goto 39, 3) := by decide +kernel
theorem d_S_follow_62 : decode b_S_follow 62 = .ok (.aload_n 0, 1) := by decide +kernel
theorem d_S_follow_63 : decode b_S_follow 63 = .ok (.getfield 22, 3) := by decide +kernel
theorem d_S_follow_66 : decode b_S_follow 66 = .ok (.iconst 2, 1) := by decide +kernel
theorem d_S_follow_67 : decode b_S_follow 67 = .ok (.if_icmp .ne 18, 3) := by decide +kernel
theorem d_S_follow_70 : decode b_S_follow 70 = .ok (.aload_n 0, 1) := by decide +kernel
theorem d_S_follow_71 : decode b_S_follow 71 = .ok (.getfield 25, 3) := by decide +kernel
theorem d_S_follow_74 : decode b_S_follow 74 = .ok (.iconst 1, 1) := by decide +kernel
theorem d_S_follow_75 : decode b_S_follow 75 = .ok (.if_icmp .eq 23, 3) := by decide +kernel
theorem d_S_follow_78 : decode b_S_follow 78 = .ok (.aload_n 0, 1) := by decide +kernel
theorem d_S_follow_79 : decode b_S_follow 79 = .ok (.invokevirtual 113, 3) := by decide +kernel
theorem d_S_follow_82 : decode b_S_follow 82 = .ok (.goto 16, 3) := by decide +kernel
theorem d_S_follow_85 : decode b_S_follow 85 = .ok (.aload_n 0, 1) := by decide +kernel
theorem d_S_follow_86 : decode b_S_follow 86 = .ok (.getfield 25, 3) := by decide +kernel
theorem d_S_follow_89 : decode b_S_follow 89 = .ok (.iconst 1, 1) := by decide +kernel
theorem d_S_follow_90 : decode b_S_follow 90 = .ok (.if_icmp .ne 8, 3) := by decide +kernel
theorem d_S_follow_93 : decode b_S_follow 93 = .ok (.aload_n 0, 1) := by decide +kernel
theorem d_S_follow_94 : decode b_S_follow 94 = .ok (.iconst 3, 1) := by decide +kernel
theorem d_S_follow_95 : decode b_S_follow 95 = .ok (.invokevirtual 109, 3) := by decide +kernel
theorem d_S_follow_98 : decode b_S_follow 98 = .ok (.return_, 1) := by decide +kernel
theorem d_S_comeUp_0 : decode b_S_comeUp 0 = .ok (.aload_n 0, 1) := by decide +kernel
theorem d_S_comeUp_1 : decode b_S_comeUp 1 = .ok (.iconst 3, 1) := by decide +kernel
theorem d_S_comeUp_2 : decode b_S_comeUp 2 = .ok (.putfield 22, 3) := by decide +kernel
theorem d_S_comeUp_5 : decode b_S_comeUp 5 = .ok (.aload_n 0, 1) := by decide +kernel
theorem d_S_comeUp_6 : decode b_S_comeUp 6 = .ok (.dup, 1) := by decide +kernel
theorem d_S_comeUp_7 : decode b_S_comeUp 7 = .ok (.getfield 61, 3) := by decide +kernel
theorem d_S_comeUp_10 : decode b_S_comeUp 10 = .ok (.iconst 1, 1) := by decide +kernel
theorem d_S_comeUp_11 : decode b_S_comeUp 11 = .ok (.iadd, 1) := by decide +kernel
theorem d_S_comeUp_12 : decode b_S_comeUp 12 = .ok (.putfield 61, 3) := by decide +kernel
theorem d_S_comeUp_15 : decode b_S_comeUp 15 = .ok (.return_, 1) := by decide +kernel
theorem d_S_fall_0 : decode b_S_fall 0 = .ok (.aload_n 0, 1) := by decide +kernel
theorem d_S_fall_1 : decode b_S_fall 1 = .ok (.getfield 22, 3) := by decide +kernel
theorem d_S_fall_4 : decode b_S_fall 4 = .ok (.iconst 2, 1) := by decide +kernel
theorem d_S_fall_5 : decode b_S_fall 5 = .ok (.if_icmp .eq 11, 3) := by decide +kernel
theorem d_S_fall_8 : decode b_S_fall 8 = .ok (.aload_n 0, 1) := by decide +kernel
theorem d_S_fall_9 : decode b_S_fall 9 = .ok (.getfield 22, 3) := by decide +kernel
theorem d_S_fall_12 : decode b_S_fall 12 = .ok (.iconst 3, 1) := by decide +kernel
theorem d_S_fall_13 : decode b_S_fall 13 = .ok (.if_icmp .ne 13, 3) := by decide +kernel
theorem d_S_fall_16 : decode b_S_fall 16 = .ok (.aload_n 0, 1) := by decide +kernel
theorem d_S_fall_17 : decode b_S_fall 17 = .ok (.iload_n 1, 1) := by decide +kernel
theorem d_S_fall_18 : decode b_S_fall 18 = .ok (.putfield 31, 3) := by decide +kernel
theorem d_S_fall_21 : decode b_S_fall 21 = .ok (.aload_n 0, 1) := by decide +kernel
theorem d_S_fall_22 : decode b_S_fall 22 = .ok (.iconst 1, 1) := by decide +kernel
theorem d_S_fall_23 : decode b_S_fall 23 = .ok (.putfield 22, 3) := by decide +kernel
theorem d_S_fall_26 : decode b_S_fall 26 = .ok (.return_, 1) := by decide +kernel
theorem d_S_runDetect_0 : decode b_S_runDetect 0 = .ok (.aload_n 0, 1) := by decide +kernel
theorem d_S_runDetect_1 : decode b_S_runDetect 1 = .ok (.getfield 58, 3) := by decide +kernel
theorem d_S_runDetect_4 : decode b_S_runDetect 4 = .ok (.ifCond .le 30, 3) := by decide +kernel
theorem d_S_runDetect_7 : decode b_S_runDetect 7 = .ok (.aload_n 0, 1) := by decide +kernel
theorem d_S_runDetect_8 : decode b_S_runDetect 8 = .ok (.dup, 1) := by decide +kernel
theorem d_S_runDetect_9 : decode b_S_runDetect 9 = .ok (.getfield 58, 3) := by decide +kernel
theorem d_S_runDetect_12 : decode b_S_runDetect 12 = .ok (.iconst 1, 1) := by decide +kernel
theorem d_S_runDetect_13 : decode b_S_runDetect 13 = .ok (.isub, 1) := by decide +kernel
theorem d_S_runDetect_14 : decode b_S_runDetect 14 = .ok (.putfield 58, 3) := by decide +kernel
theorem d_S_runDetect_17 : decode b_S_runDetect 17 = .ok (.aload_n 0, 1) := by decide +kernel
theorem d_S_runDetect_18 : decode b_S_runDetect 18 = .ok (.getfield 58, 3) := by decide +kernel
theorem d_S_runDetect_21 : decode b_S_runDetect 21 = .ok (.ifCond .ne 13, 3) := by decide +kernel
theorem d_S_runDetect_24 : decode b_S_runDetect 24 = .ok (.aload_n 0, 1) := by decide +kernel
theorem d_S_runDetect_25 : decode b_S_runDetect 25 = .ok (.iconst 0, 1) := by decide +kernel
theorem d_S_runDetect_26 : decode b_S_runDetect 26 = .ok (.putfield 28, 3) := by decide +kernel
theorem d_S_runDetect_29 : decode b_S_runDetect 29 = .ok (.aload_n 0, 1) := by decide +kernel
theorem d_S_runDetect_30 : decode b_S_runDetect 30 = .ok (.iconst 1, 1) := by decide +kernel
theorem d_S_runDetect_31 : decode b_S_runDetect 31 = .ok (.invokevirtual 109, 3) := by decide +kernel
theorem d_S_runDetect_34 : decode b_S_runDetect 34 = .ok (.return_, 1) := by decide +kernel
theorem d_S_sendFires_0 : decode b_S_sendFires 0 = .ok (.aload_n 0, 1) := by decide +kernel
theorem d_S_sendFires_1 : decode b_S_sendFires 1 = .ok (.getfield 68, 3) := by decide +kernel
theorem d_S_sendFires_4 : decode b_S_sendFires 4 = .ok (.ifCond .le 26, 3) := by decide +kernel
theorem d_S_sendFires_7 : decode b_S_sendFires 7 = .ok (.aload_n 0, 1) := by decide +kernel
theorem d_S_sendFires_8 : decode b_S_sendFires 8 = .ok (.dup, 1) := by decide +kernel
theorem d_S_sendFires_9 : decode b_S_sendFires 9 = .ok (.getfield 68, 3) := by decide +kernel
theorem d_S_sendFires_12 : decode b_S_sendFires 12 = .ok (.iconst 1, 1) := by decide +kernel
theorem d_S_sendFires_13 : decode b_S_sendFires 13 = .ok (.isub, 1) := by decide +kernel
theorem d_S_sendFires_14 : decode b_S_sendFires 14 = .ok (.putfield 68, 3) := by decide +kernel
theorem d_S_sendFires_17 : decode b_S_sendFires 17 = .ok (.aload_n 0, 1) := by decide +kernel
theorem d_S_sendFires_18 : decode b_S_sendFires 18 = .ok (.getfield 68, 3) := by decide +kernel
theorem d_S_sendFires_21 : decode b_S_sendFires 21 = .ok (.ifCond .ne 7, 3) := by decide +kernel
theorem d_S_sendFires_24 : decode b_S_sendFires 24 = .ok (.iconst 1, 1) := by decide +kernel
theorem d_S_sendFires_25 : decode b_S_sendFires 25 = .ok (.goto 4, 3) := by decide +kernel
theorem d_S_sendFires_28 : decode b_S_sendFires 28 = .ok (.iconst 0, 1) := by decide +kernel
theorem d_S_sendFires_29 : decode b_S_sendFires 29 = .ok (.ireturn, 1) := by decide +kernel
theorem d_S_sendFires_30 : decode b_S_sendFires 30 = .ok (.iconst 0, 1) := by decide +kernel
theorem d_S_sendFires_31 : decode b_S_sendFires 31 = .ok (.ireturn, 1) := by decide +kernel
theorem d_S_tell_0 : decode b_S_tell 0 = .ok (.iload_n 1, 1) := by decide +kernel
theorem d_S_tell_1 : decode b_S_tell 1 = .ok (.tableswitch 131 0 11 #[63, 68, 73, 78, 83, 88, 93, 98, 103, 116, 121, 126], 63) := by decide +kernel
theorem d_S_tell_64 : decode b_S_tell 64 = .ok (.aload_n 0, 1) := by decide +kernel
theorem d_S_tell_65 : decode b_S_tell 65 = .ok (.getfield 22, 3) := by decide +kernel
theorem d_S_tell_68 : decode b_S_tell 68 = .ok (.ireturn, 1) := by decide +kernel
theorem d_S_tell_69 : decode b_S_tell 69 = .ok (.aload_n 0, 1) := by decide +kernel
theorem d_S_tell_70 : decode b_S_tell 70 = .ok (.getfield 25, 3) := by decide +kernel
theorem d_S_tell_73 : decode b_S_tell 73 = .ok (.ireturn, 1) := by decide +kernel
theorem d_S_tell_74 : decode b_S_tell 74 = .ok (.aload_n 0, 1) := by decide +kernel
theorem d_S_tell_75 : decode b_S_tell 75 = .ok (.getfield 28, 3) := by decide +kernel
theorem d_S_tell_78 : decode b_S_tell 78 = .ok (.ireturn, 1) := by decide +kernel
theorem d_S_tell_79 : decode b_S_tell 79 = .ok (.aload_n 0, 1) := by decide +kernel
theorem d_S_tell_80 : decode b_S_tell 80 = .ok (.getfield 31, 3) := by decide +kernel
theorem d_S_tell_83 : decode b_S_tell 83 = .ok (.ireturn, 1) := by decide +kernel
theorem d_S_tell_84 : decode b_S_tell 84 = .ok (.aload_n 0, 1) := by decide +kernel
theorem d_S_tell_85 : decode b_S_tell 85 = .ok (.getfield 68, 3) := by decide +kernel
theorem d_S_tell_88 : decode b_S_tell 88 = .ok (.ireturn, 1) := by decide +kernel
theorem d_S_tell_89 : decode b_S_tell 89 = .ok (.aload_n 0, 1) := by decide +kernel
theorem d_S_tell_90 : decode b_S_tell 90 = .ok (.getfield 58, 3) := by decide +kernel
theorem d_S_tell_93 : decode b_S_tell 93 = .ok (.ireturn, 1) := by decide +kernel
theorem d_S_tell_94 : decode b_S_tell 94 = .ok (.aload_n 0, 1) := by decide +kernel
theorem d_S_tell_95 : decode b_S_tell 95 = .ok (.getfield 71, 3) := by decide +kernel
theorem d_S_tell_98 : decode b_S_tell 98 = .ok (.ireturn, 1) := by decide +kernel
theorem d_S_tell_99 : decode b_S_tell 99 = .ok (.aload_n 0, 1) := by decide +kernel
theorem d_S_tell_100 : decode b_S_tell 100 = .ok (.getfield 80, 3) := by decide +kernel
theorem d_S_tell_103 : decode b_S_tell 103 = .ok (.ireturn, 1) := by decide +kernel
theorem d_S_tell_104 : decode b_S_tell 104 = .ok (.aload_n 0, 1) := by decide +kernel
theorem d_S_tell_105 : decode b_S_tell 105 = .ok (.getfield 52, 3) := by decide +kernel
theorem d_S_tell_108 : decode b_S_tell 108 = .ok (.ifCond .eq 7, 3) := by decide +kernel
theorem d_S_tell_111 : decode b_S_tell 111 = .ok (.iconst 1, 1) := by decide +kernel
theorem d_S_tell_112 : decode b_S_tell 112 = .ok (.goto 4, 3) := by decide +kernel
theorem d_S_tell_115 : decode b_S_tell 115 = .ok (.iconst 0, 1) := by decide +kernel
theorem d_S_tell_116 : decode b_S_tell 116 = .ok (.ireturn, 1) := by decide +kernel
theorem d_S_tell_117 : decode b_S_tell 117 = .ok (.aload_n 0, 1) := by decide +kernel
theorem d_S_tell_118 : decode b_S_tell 118 = .ok (.getfield 43, 3) := by decide +kernel
theorem d_S_tell_121 : decode b_S_tell 121 = .ok (.ireturn, 1) := by decide +kernel
theorem d_S_tell_122 : decode b_S_tell 122 = .ok (.aload_n 0, 1) := by decide +kernel
theorem d_S_tell_123 : decode b_S_tell 123 = .ok (.getfield 46, 3) := by decide +kernel
theorem d_S_tell_126 : decode b_S_tell 126 = .ok (.ireturn, 1) := by decide +kernel
theorem d_S_tell_127 : decode b_S_tell 127 = .ok (.aload_n 0, 1) := by decide +kernel
theorem d_S_tell_128 : decode b_S_tell 128 = .ok (.getfield 61, 3) := by decide +kernel
theorem d_S_tell_131 : decode b_S_tell 131 = .ok (.ireturn, 1) := by decide +kernel
theorem d_S_tell_132 : decode b_S_tell 132 = .ok (.iconst (-1), 1) := by decide +kernel
theorem d_S_tell_133 : decode b_S_tell 133 = .ok (.ireturn, 1) := by decide +kernel
