theorem d_F_init_0 : decode b_F_init 0 = .ok (.aload_n 0, 1) := by decide +kernel
theorem d_F_init_1 : decode b_F_init 1 = .ok (.invokespecial 3, 3) := by decide +kernel
theorem d_F_init_4 : decode b_F_init 4 = .ok (.aload_n 0, 1) := by decide +kernel
theorem d_F_init_5 : decode b_F_init 5 = .ok (.bipush 40, 2) := by decide +kernel
theorem d_F_init_7 : decode b_F_init 7 = .ok (.newarray .int, 2) := by decide +kernel
theorem d_F_init_9 : decode b_F_init 9 = .ok (.putfield 9, 3) := by decide +kernel
theorem d_F_init_12 : decode b_F_init 12 = .ok (.return_, 1) := by decide +kernel
theorem d_F_put_0 : decode b_F_put 0 = .ok (.aload_n 0, 1) := by decide +kernel
theorem d_F_put_1 : decode b_F_put 1 = .ok (.getfield 15, 3) := by decide +kernel
theorem d_F_put_4 : decode b_F_put 4 = .ok (.ifCond .lt 39, 3) := by decide +kernel
theorem d_F_put_7 : decode b_F_put 7 = .ok (.aload_n 0, 1) := by decide +kernel
theorem d_F_put_8 : decode b_F_put 8 = .ok (.getfield 15, 3) := by decide +kernel
theorem d_F_put_11 : decode b_F_put 11 = .ok (.aload_n 0, 1) := by decide +kernel
theorem d_F_put_12 : decode b_F_put 12 = .ok (.getfield 9, 3) := by decide +kernel
theorem d_F_put_15 : decode b_F_put 15 = .ok (.arraylength, 1) := by decide +kernel
theorem d_F_put_16 : decode b_F_put 16 = .ok (.if_icmp .ge 27, 3) := by decide +kernel
theorem d_F_put_19 : decode b_F_put 19 = .ok (.aload_n 0, 1) := by decide +kernel
theorem d_F_put_20 : decode b_F_put 20 = .ok (.getfield 9, 3) := by decide +kernel
theorem d_F_put_23 : decode b_F_put 23 = .ok (.aload_n 0, 1) := by decide +kernel
theorem d_F_put_24 : decode b_F_put 24 = .ok (.getfield 15, 3) := by decide +kernel
theorem d_F_put_27 : decode b_F_put 27 = .ok (.iload_n 1, 1) := by decide +kernel
theorem d_F_put_28 : decode b_F_put 28 = .ok (.sipush 255, 3) := by decide +kernel
theorem d_F_put_31 : decode b_F_put 31 = .ok (.iand, 1) := by decide +kernel
theorem d_F_put_32 : decode b_F_put 32 = .ok (.iastore, 1) := by decide +kernel
theorem d_F_put_33 : decode b_F_put 33 = .ok (.aload_n 0, 1) := by decide +kernel
theorem d_F_put_34 : decode b_F_put 34 = .ok (.dup, 1) := by decide +kernel
theorem d_F_put_35 : decode b_F_put 35 = .ok (.getfield 15, 3) := by decide +kernel
theorem d_F_put_38 : decode b_F_put 38 = .ok (.iconst 1, 1) := by decide +kernel
theorem d_F_put_39 : decode b_F_put 39 = .ok (.iadd, 1) := by decide +kernel
theorem d_F_put_40 : decode b_F_put 40 = .ok (.putfield 15, 3) := by decide +kernel
theorem d_F_put_43 : decode b_F_put 43 = .ok (.return_, 1) := by decide +kernel
theorem d_F_putTwo_0 : decode b_F_putTwo 0 = .ok (.aload_n 0, 1) := by decide +kernel
theorem d_F_putTwo_1 : decode b_F_putTwo 1 = .ok (.iload_n 1, 1) := by decide +kernel
theorem d_F_putTwo_2 : decode b_F_putTwo 2 = .ok (.bipush 8, 2) := by decide +kernel
theorem d_F_putTwo_4 : decode b_F_putTwo 4 = .ok (.iushr, 1) := by decide +kernel
theorem d_F_putTwo_5 : decode b_F_putTwo 5 = .ok (.invokevirtual 19, 3) := by decide +kernel
theorem d_F_putTwo_8 : decode b_F_putTwo 8 = .ok (.aload_n 0, 1) := by decide +kernel
theorem d_F_putTwo_9 : decode b_F_putTwo 9 = .ok (.iload_n 1, 1) := by decide +kernel
theorem d_F_putTwo_10 : decode b_F_putTwo 10 = .ok (.invokevirtual 19, 3) := by decide +kernel
theorem d_F_putTwo_13 : decode b_F_putTwo 13 = .ok (.return_, 1) := by decide +kernel
theorem d_F_putFour_0 : decode b_F_putFour 0 = .ok (.aload_n 0, 1) := by decide +kernel
theorem d_F_putFour_1 : decode b_F_putFour 1 = .ok (.iload_n 1, 1) := by decide +kernel
theorem d_F_putFour_2 : decode b_F_putFour 2 = .ok (.bipush 24, 2) := by decide +kernel
theorem d_F_putFour_4 : decode b_F_putFour 4 = .ok (.iushr, 1) := by decide +kernel
theorem d_F_putFour_5 : decode b_F_putFour 5 = .ok (.invokevirtual 19, 3) := by decide +kernel
theorem d_F_putFour_8 : decode b_F_putFour 8 = .ok (.aload_n 0, 1) := by decide +kernel
theorem d_F_putFour_9 : decode b_F_putFour 9 = .ok (.iload_n 1, 1) := by decide +kernel
theorem d_F_putFour_10 : decode b_F_putFour 10 = .ok (.bipush 16, 2) := by decide +kernel
theorem d_F_putFour_12 : decode b_F_putFour 12 = .ok (.iushr, 1) := by decide +kernel
theorem d_F_putFour_13 : decode b_F_putFour 13 = .ok (.invokevirtual 19, 3) := by decide +kernel
theorem d_F_putFour_16 : decode b_F_putFour 16 = .ok (.aload_n 0, 1) := by decide +kernel
theorem d_F_putFour_17 : decode b_F_putFour 17 = .ok (.iload_n 1, 1) := by decide +kernel
theorem d_F_putFour_18 : decode b_F_putFour 18 = .ok (.bipush 8, 2) := by decide +kernel
theorem d_F_putFour_20 : decode b_F_putFour 20 = .ok (.iushr, 1) := by decide +kernel
theorem d_F_putFour_21 : decode b_F_putFour 21 = .ok (.invokevirtual 19, 3) := by decide +kernel
theorem d_F_putFour_24 : decode b_F_putFour 24 = .ok (.aload_n 0, 1) := by decide +kernel
theorem d_F_putFour_25 : decode b_F_putFour 25 = .ok (.iload_n 1, 1) := by decide +kernel
theorem d_F_putFour_26 : decode b_F_putFour 26 = .ok (.invokevirtual 19, 3) := by decide +kernel
theorem d_F_putFour_29 : decode b_F_putFour 29 = .ok (.return_, 1) := by decide +kernel
theorem d_F_byteAt_0 : decode b_F_byteAt 0 = .ok (.iload_n 1, 1) := by decide +kernel
theorem d_F_byteAt_1 : decode b_F_byteAt 1 = .ok (.ifCond .lt 29, 3) := by decide +kernel
theorem d_F_byteAt_4 : decode b_F_byteAt 4 = .ok (.iload_n 1, 1) := by decide +kernel
theorem d_F_byteAt_5 : decode b_F_byteAt 5 = .ok (.aload_n 0, 1) := by decide +kernel
theorem d_F_byteAt_6 : decode b_F_byteAt 6 = .ok (.getfield 15, 3) := by decide +kernel
theorem d_F_byteAt_9 : decode b_F_byteAt 9 = .ok (.if_icmp .ge 21, 3) := by decide +kernel
theorem d_F_byteAt_12 : decode b_F_byteAt 12 = .ok (.iload_n 1, 1) := by decide +kernel
theorem d_F_byteAt_13 : decode b_F_byteAt 13 = .ok (.aload_n 0, 1) := by decide +kernel
theorem d_F_byteAt_14 : decode b_F_byteAt 14 = .ok (.getfield 9, 3) := by decide +kernel
theorem d_F_byteAt_17 : decode b_F_byteAt 17 = .ok (.arraylength, 1) := by decide +kernel
theorem d_F_byteAt_18 : decode b_F_byteAt 18 = .ok (.if_icmp .ge 12, 3) := by decide +kernel
theorem d_F_byteAt_21 : decode b_F_byteAt 21 = .ok (.aload_n 0, 1) := by decide +kernel
theorem d_F_byteAt_22 : decode b_F_byteAt 22 = .ok (.getfield 9, 3) := by decide +kernel
theorem d_F_byteAt_25 : decode b_F_byteAt 25 = .ok (.iload_n 1, 1) := by decide +kernel
theorem d_F_byteAt_26 : decode b_F_byteAt 26 = .ok (.iaload, 1) := by decide +kernel
theorem d_F_byteAt_27 : decode b_F_byteAt 27 = .ok (.goto 4, 3) := by decide +kernel
theorem d_F_byteAt_30 : decode b_F_byteAt 30 = .ok (.iconst (-1), 1) := by decide +kernel
theorem d_F_byteAt_31 : decode b_F_byteAt 31 = .ok (.ireturn, 1) := by decide +kernel
theorem d_F_twoAt_0 : decode b_F_twoAt 0 = .ok (.aload_n 0, 1) := by decide +kernel
theorem d_F_twoAt_1 : decode b_F_twoAt 1 = .ok (.iload_n 1, 1) := by decide +kernel
theorem d_F_twoAt_2 : decode b_F_twoAt 2 = .ok (.invokevirtual 23, 3) := by decide +kernel
theorem d_F_twoAt_5 : decode b_F_twoAt 5 = .ok (.bipush 8, 2) := by decide +kernel
theorem d_F_twoAt_7 : decode b_F_twoAt 7 = .ok (.ishl, 1) := by decide +kernel
theorem d_F_twoAt_8 : decode b_F_twoAt 8 = .ok (.aload_n 0, 1) := by decide +kernel
theorem d_F_twoAt_9 : decode b_F_twoAt 9 = .ok (.iload_n 1, 1) := by decide +kernel
theorem d_F_twoAt_10 : decode b_F_twoAt 10 = .ok (.iconst 1, 1) := by decide +kernel
theorem d_F_twoAt_11 : decode b_F_twoAt 11 = .ok (.iadd, 1) := by decide +kernel
theorem d_F_twoAt_12 : decode b_F_twoAt 12 = .ok (.invokevirtual 23, 3) := by decide +kernel
theorem d_F_twoAt_15 : decode b_F_twoAt 15 = .ok (.ior, 1) := by decide +kernel
theorem d_F_twoAt_16 : decode b_F_twoAt 16 = .ok (.ireturn, 1) := by decide +kernel
theorem d_F_fourAt_0 : decode b_F_fourAt 0 = .ok (.aload_n 0, 1) := by decide +kernel
theorem d_F_fourAt_1 : decode b_F_fourAt 1 = .ok (.iload_n 1, 1) := by decide +kernel
theorem d_F_fourAt_2 : decode b_F_fourAt 2 = .ok (.invokevirtual 23, 3) := by decide +kernel
theorem d_F_fourAt_5 : decode b_F_fourAt 5 = .ok (.bipush 24, 2) := by decide +kernel
theorem d_F_fourAt_7 : decode b_F_fourAt 7 = .ok (.ishl, 1) := by decide +kernel
theorem d_F_fourAt_8 : decode b_F_fourAt 8 = .ok (.aload_n 0, 1) := by decide +kernel
theorem d_F_fourAt_9 : decode b_F_fourAt 9 = .ok (.iload_n 1, 1) := by decide +kernel
theorem d_F_fourAt_10 : decode b_F_fourAt 10 = .ok (.iconst 1, 1) := by decide +kernel
theorem d_F_fourAt_11 : decode b_F_fourAt 11 = .ok (.iadd, 1) := by decide +kernel
theorem d_F_fourAt_12 : decode b_F_fourAt 12 = .ok (.invokevirtual 23, 3) := by decide +kernel
theorem d_F_fourAt_15 : decode b_F_fourAt 15 = .ok (.bipush 16, 2) := by decide +kernel
theorem d_F_fourAt_17 : decode b_F_fourAt 17 = .ok (.ishl, 1) := by decide +kernel
theorem d_F_fourAt_18 : decode b_F_fourAt 18 = .ok (.ior, 1) := by decide +kernel
theorem d_F_fourAt_19 : decode b_F_fourAt 19 = .ok (.aload_n 0, 1) := by decide +kernel
theorem d_F_fourAt_20 : decode b_F_fourAt 20 = .ok (.iload_n 1, 1) := by decide +kernel
theorem d_F_fourAt_21 : decode b_F_fourAt 21 = .ok (.iconst 2, 1) := by decide +kernel
theorem d_F_fourAt_22 : decode b_F_fourAt 22 = .ok (.iadd, 1) := by decide +kernel
theorem d_F_fourAt_23 : decode b_F_fourAt 23 = .ok (.invokevirtual 23, 3) := by decide +kernel
theorem d_F_fourAt_26 : decode b_F_fourAt 26 = .ok (.bipush 8, 2) := by decide +kernel
theorem d_F_fourAt_28 : decode b_F_fourAt 28 = .ok (.ishl, 1) := by decide +kernel
theorem d_F_fourAt_29 : decode b_F_fourAt 29 = .ok (.ior, 1) := by decide +kernel
theorem d_F_fourAt_30 : decode b_F_fourAt 30 = .ok (.aload_n 0, 1) := by decide +kernel
theorem d_F_fourAt_31 : decode b_F_fourAt 31 = .ok (.iload_n 1, 1) := by decide +kernel
theorem d_F_fourAt_32 : decode b_F_fourAt 32 = .ok (.iconst 3, 1) := by decide +kernel
theorem d_F_fourAt_33 : decode b_F_fourAt 33 = .ok (.iadd, 1) := by decide +kernel
theorem d_F_fourAt_34 : decode b_F_fourAt 34 = .ok (.invokevirtual 23, 3) := by decide +kernel
theorem d_F_fourAt_37 : decode b_F_fourAt 37 = .ok (.ior, 1) := by decide +kernel
theorem d_F_fourAt_38 : decode b_F_fourAt 38 = .ok (.ireturn, 1) := by decide +kernel
theorem d_F_sum_0 : decode b_F_sum 0 = .ok (.aload_n 0, 1) := by decide +kernel
theorem d_F_sum_1 : decode b_F_sum 1 = .ok (.getfield 27, 3) := by decide +kernel
theorem d_F_sum_4 : decode b_F_sum 4 = .ok (.bipush 16, 2) := by decide +kernel
theorem d_F_sum_6 : decode b_F_sum 6 = .ok (.iushr, 1) := by decide +kernel
theorem d_F_sum_7 : decode b_F_sum 7 = .ok (.aload_n 0, 1) := by decide +kernel
theorem d_F_sum_8 : decode b_F_sum 8 = .ok (.getfield 27, 3) := by decide +kernel
theorem d_F_sum_11 : decode b_F_sum 11 = .ok (.ldc 30, 2) := by decide +kernel
theorem d_F_sum_13 : decode b_F_sum 13 = .ok (.iand, 1) := by decide +kernel
theorem d_F_sum_14 : decode b_F_sum 14 = .ok (.iadd, 1) := by decide +kernel
theorem d_F_sum_15 : decode b_F_sum 15 = .ok (.ldc 31, 2) := by decide +kernel
theorem d_F_sum_17 : decode b_F_sum 17 = .ok (.iadd, 1) := by decide +kernel
theorem d_F_sum_18 : decode b_F_sum 18 = .ok (.bipush 18, 2) := by decide +kernel
theorem d_F_sum_20 : decode b_F_sum 20 = .ok (.iadd, 1) := by decide +kernel
theorem d_F_sum_21 : decode b_F_sum 21 = .ok (.bipush 112, 2) := by decide +kernel
theorem d_F_sum_23 : decode b_F_sum 23 = .ok (.iadd, 1) := by decide +kernel
theorem d_F_sum_24 : decode b_F_sum 24 = .ok (.bipush 12, 2) := by decide +kernel
theorem d_F_sum_26 : decode b_F_sum 26 = .ok (.iadd, 1) := by decide +kernel
theorem d_F_sum_27 : decode b_F_sum 27 = .ok (.istore_n 1, 1) := by decide +kernel
theorem d_F_sum_28 : decode b_F_sum 28 = .ok (.iconst 0, 1) := by decide +kernel
theorem d_F_sum_29 : decode b_F_sum 29 = .ok (.istore_n 2, 1) := by decide +kernel
theorem d_F_sum_30 : decode b_F_sum 30 = .ok (.iload_n 2, 1) := by decide +kernel
theorem d_F_sum_31 : decode b_F_sum 31 = .ok (.iconst 1, 1) := by decide +kernel
theorem d_F_sum_32 : decode b_F_sum 32 = .ok (.iadd, 1) := by decide +kernel
theorem d_F_sum_33 : decode b_F_sum 33 = .ok (.aload_n 0, 1) := by decide +kernel
theorem d_F_sum_34 : decode b_F_sum 34 = .ok (.getfield 15, 3) := by decide +kernel
theorem d_F_sum_37 : decode b_F_sum 37 = .ok (.if_icmp .ge 42, 3) := by decide +kernel
theorem d_F_sum_40 : decode b_F_sum 40 = .ok (.iload_n 2, 1) := by decide +kernel
theorem d_F_sum_41 : decode b_F_sum 41 = .ok (.iconst 1, 1) := by decide +kernel
theorem d_F_sum_42 : decode b_F_sum 42 = .ok (.iadd, 1) := by decide +kernel
theorem d_F_sum_43 : decode b_F_sum 43 = .ok (.aload_n 0, 1) := by decide +kernel
theorem d_F_sum_44 : decode b_F_sum 44 = .ok (.getfield 9, 3) := by decide +kernel
theorem d_F_sum_47 : decode b_F_sum 47 = .ok (.arraylength, 1) := by decide +kernel
theorem d_F_sum_48 : decode b_F_sum 48 = .ok (.if_icmp .ge 31, 3) := by decide +kernel
theorem d_F_sum_51 : decode b_F_sum 51 = .ok (.iload_n 1, 1) := by decide +kernel
theorem d_F_sum_52 : decode b_F_sum 52 = .ok (.aload_n 0, 1) := by decide +kernel
theorem d_F_sum_53 : decode b_F_sum 53 = .ok (.getfield 9, 3) := by decide +kernel
theorem d_F_sum_56 : decode b_F_sum 56 = .ok (.iload_n 2, 1) := by decide +kernel
theorem d_F_sum_57 : decode b_F_sum 57 = .ok (.iaload, 1) := by decide +kernel
theorem d_F_sum_58 : decode b_F_sum 58 = .ok (.sipush 256, 3) := by decide +kernel
theorem d_F_sum_61 : decode b_F_sum 61 = .ok (.imul, 1) := by decide +kernel
theorem d_F_sum_62 : decode b_F_sum 62 = .ok (.aload_n 0, 1) := by decide +kernel
theorem d_F_sum_63 : decode b_F_sum 63 = .ok (.getfield 9, 3) := by decide +kernel
theorem d_F_sum_66 : decode b_F_sum 66 = .ok (.iload_n 2, 1) := by decide +kernel
theorem d_F_sum_67 : decode b_F_sum 67 = .ok (.iconst 1, 1) := by decide +kernel
theorem d_F_sum_68 : decode b_F_sum 68 = .ok (.iadd, 1) := by decide +kernel
theorem d_F_sum_69 : decode b_F_sum 69 = .ok (.iaload, 1) := by decide +kernel
theorem d_F_sum_70 : decode b_F_sum 70 = .ok (.iadd, 1) := by decide +kernel
theorem d_F_sum_71 : decode b_F_sum 71 = .ok (.iadd, 1) := by decide +kernel
theorem d_F_sum_72 : decode b_F_sum 72 = .ok (.istore_n 1, 1) := by decide +kernel
theorem d_F_sum_73 : decode b_F_sum 73 = .ok (.iinc 2 2, 3) := by decide +kernel
theorem d_F_sum_76 : decode b_F_sum 76 = .ok (.goto (-46), 3) := by decide +kernel
theorem d_F_sum_79 : decode b_F_sum 79 = .ok (.iconst 0, 1) := by decide +kernel
theorem d_F_sum_80 : decode b_F_sum 80 = .ok (.istore_n 2, 1) := by decide +kernel
theorem d_F_sum_81 : decode b_F_sum 81 = .ok (.iload_n 2, 1) := by decide +kernel
theorem d_F_sum_82 : decode b_F_sum 82 = .ok (.iconst 4, 1) := by decide +kernel
theorem d_F_sum_83 : decode b_F_sum 83 = .ok (.if_icmp .ge 25, 3) := by decide +kernel
theorem d_F_sum_86 : decode b_F_sum 86 = .ok (.iload_n 1, 1) := by decide +kernel
theorem d_F_sum_87 : decode b_F_sum 87 = .ok (.ldc 30, 2) := by decide +kernel
theorem d_F_sum_89 : decode b_F_sum 89 = .ok (.if_icmp .le 19, 3) := by decide +kernel
theorem d_F_sum_92 : decode b_F_sum 92 = .ok (.iload_n 1, 1) := by decide +kernel
theorem d_F_sum_93 : decode b_F_sum 93 = .ok (.ldc 32, 2) := by decide +kernel
theorem d_F_sum_95 : decode b_F_sum 95 = .ok (.idiv, 1) := by decide +kernel
theorem d_F_sum_96 : decode b_F_sum 96 = .ok (.iload_n 1, 1) := by decide +kernel
theorem d_F_sum_97 : decode b_F_sum 97 = .ok (.ldc 32, 2) := by decide +kernel
theorem d_F_sum_99 : decode b_F_sum 99 = .ok (.irem, 1) := by decide +kernel
theorem d_F_sum_100 : decode b_F_sum 100 = .ok (.iadd, 1) := by decide +kernel
theorem d_F_sum_101 : decode b_F_sum 101 = .ok (.istore_n 1, 1) := by decide +kernel
theorem d_F_sum_102 : decode b_F_sum 102 = .ok (.iinc 2 1, 3) := by decide +kernel
theorem d_F_sum_105 : decode b_F_sum 105 = .ok (.goto (-24), 3) := by decide +kernel
theorem d_F_sum_108 : decode b_F_sum 108 = .ok (.iload_n 1, 1) := by decide +kernel
theorem d_F_sum_109 : decode b_F_sum 109 = .ok (.ireturn, 1) := by decide +kernel
theorem d_F_putCheckAt_0 : decode b_F_putCheckAt 0 = .ok (.ldc 30, 2) := by decide +kernel
theorem d_F_putCheckAt_2 : decode b_F_putCheckAt 2 = .ok (.aload_n 0, 1) := by decide +kernel
theorem d_F_putCheckAt_3 : decode b_F_putCheckAt 3 = .ok (.invokevirtual 33, 3) := by decide +kernel
theorem d_F_putCheckAt_6 : decode b_F_putCheckAt 6 = .ok (.isub, 1) := by decide +kernel
theorem d_F_putCheckAt_7 : decode b_F_putCheckAt 7 = .ok (.istore_n 2, 1) := by decide +kernel
theorem d_F_putCheckAt_8 : decode b_F_putCheckAt 8 = .ok (.iload_n 1, 1) := by decide +kernel
theorem d_F_putCheckAt_9 : decode b_F_putCheckAt 9 = .ok (.ifCond .lt 47, 3) := by decide +kernel
theorem d_F_putCheckAt_12 : decode b_F_putCheckAt 12 = .ok (.iload_n 1, 1) := by decide +kernel
theorem d_F_putCheckAt_13 : decode b_F_putCheckAt 13 = .ok (.iconst 1, 1) := by decide +kernel
theorem d_F_putCheckAt_14 : decode b_F_putCheckAt 14 = .ok (.iadd, 1) := by decide +kernel
theorem d_F_putCheckAt_15 : decode b_F_putCheckAt 15 = .ok (.aload_n 0, 1) := by decide +kernel
theorem d_F_putCheckAt_16 : decode b_F_putCheckAt 16 = .ok (.getfield 15, 3) := by decide +kernel
theorem d_F_putCheckAt_19 : decode b_F_putCheckAt 19 = .ok (.if_icmp .ge 37, 3) := by decide +kernel
theorem d_F_putCheckAt_22 : decode b_F_putCheckAt 22 = .ok (.iload_n 1, 1) := by decide +kernel
theorem d_F_putCheckAt_23 : decode b_F_putCheckAt 23 = .ok (.iconst 1, 1) := by decide +kernel
theorem d_F_putCheckAt_24 : decode b_F_putCheckAt 24 = .ok (.iadd, 1) := by decide +kernel
theorem d_F_putCheckAt_25 : decode b_F_putCheckAt 25 = .ok (.aload_n 0, 1) := by decide +kernel
theorem d_F_putCheckAt_26 : decode b_F_putCheckAt 26 = .ok (.getfield 9, 3) := by decide +kernel
theorem d_F_putCheckAt_29 : decode b_F_putCheckAt 29 = .ok (.arraylength, 1) := by decide +kernel
theorem d_F_putCheckAt_30 : decode b_F_putCheckAt 30 = .ok (.if_icmp .ge 26, 3) := by decide +kernel
theorem d_F_putCheckAt_33 : decode b_F_putCheckAt 33 = .ok (.aload_n 0, 1) := by decide +kernel
theorem d_F_putCheckAt_34 : decode b_F_putCheckAt 34 = .ok (.getfield 9, 3) := by decide +kernel
theorem d_F_putCheckAt_37 : decode b_F_putCheckAt 37 = .ok (.iload_n 1, 1) := by decide +kernel
theorem d_F_putCheckAt_38 : decode b_F_putCheckAt 38 = .ok (.iload_n 2, 1) := by decide +kernel
theorem d_F_putCheckAt_39 : decode b_F_putCheckAt 39 = .ok (.bipush 8, 2) := by decide +kernel
theorem d_F_putCheckAt_41 : decode b_F_putCheckAt 41 = .ok (.iushr, 1) := by decide +kernel
theorem d_F_putCheckAt_42 : decode b_F_putCheckAt 42 = .ok (.iastore, 1) := by decide +kernel
theorem d_F_putCheckAt_43 : decode b_F_putCheckAt 43 = .ok (.aload_n 0, 1) := by decide +kernel
theorem d_F_putCheckAt_44 : decode b_F_putCheckAt 44 = .ok (.getfield 9, 3) := by decide +kernel
theorem d_F_putCheckAt_47 : decode b_F_putCheckAt 47 = .ok (.iload_n 1, 1) := by decide +kernel
theorem d_F_putCheckAt_48 : decode b_F_putCheckAt 48 = .ok (.iconst 1, 1) := by decide +kernel
theorem d_F_putCheckAt_49 : decode b_F_putCheckAt 49 = .ok (.iadd, 1) := by decide +kernel
theorem d_F_putCheckAt_50 : decode b_F_putCheckAt 50 = .ok (.iload_n 2, 1) := by decide +kernel
theorem d_F_putCheckAt_51 : decode b_F_putCheckAt 51 = .ok (.sipush 255, 3) := by decide +kernel
theorem d_F_putCheckAt_54 : decode b_F_putCheckAt 54 = .ok (.iand, 1) := by decide +kernel
theorem d_F_putCheckAt_55 : decode b_F_putCheckAt 55 = .ok (.iastore, 1) := by decide +kernel
theorem d_F_putCheckAt_56 : decode b_F_putCheckAt 56 = .ok (.return_, 1) := by decide +kernel
