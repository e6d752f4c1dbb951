theorem d_L_init_0 : decode b_L_init 0 = .ok (.aload_n 0, 1) := by decide +kernel
theorem d_L_init_1 : decode b_L_init 1 = .ok (.invokespecial 1, 3) := by decide +kernel
theorem d_L_init_4 : decode b_L_init 4 = .ok (.new 7, 3) := by decide +kernel
theorem d_L_init_7 : decode b_L_init 7 = .ok (.dup, 1) := by decide +kernel
theorem d_L_init_8 : decode b_L_init 8 = .ok (.invokespecial 9, 3) := by decide +kernel
theorem d_L_init_11 : decode b_L_init 11 = .ok (.astore_n 1, 1) := by decide +kernel
theorem d_L_init_12 : decode b_L_init 12 = .ok (.iconst 5, 1) := by decide +kernel
theorem d_L_init_13 : decode b_L_init 13 = .ok (.anewarray 12, 3) := by decide +kernel
theorem d_L_init_16 : decode b_L_init 16 = .ok (.astore_n 2, 1) := by decide +kernel
theorem d_L_init_17 : decode b_L_init 17 = .ok (.iconst 0, 1) := by decide +kernel
theorem d_L_init_18 : decode b_L_init 18 = .ok (.istore_n 3, 1) := by decide +kernel
theorem d_L_init_19 : decode b_L_init 19 = .ok (.iload_n 3, 1) := by decide +kernel
theorem d_L_init_20 : decode b_L_init 20 = .ok (.iconst 5, 1) := by decide +kernel
theorem d_L_init_21 : decode b_L_init 21 = .ok (.if_icmp .ge 21, 3) := by decide +kernel
theorem d_L_init_24 : decode b_L_init 24 = .ok (.aload_n 2, 1) := by decide +kernel
theorem d_L_init_25 : decode b_L_init 25 = .ok (.iload_n 3, 1) := by decide +kernel
theorem d_L_init_26 : decode b_L_init 26 = .ok (.new 12, 3) := by decide +kernel
theorem d_L_init_29 : decode b_L_init 29 = .ok (.dup, 1) := by decide +kernel
theorem d_L_init_30 : decode b_L_init 30 = .ok (.iload_n 3, 1) := by decide +kernel
theorem d_L_init_31 : decode b_L_init 31 = .ok (.aload_n 1, 1) := by decide +kernel
theorem d_L_init_32 : decode b_L_init 32 = .ok (.invokespecial 14, 3) := by decide +kernel
theorem d_L_init_35 : decode b_L_init 35 = .ok (.aastore, 1) := by decide +kernel
theorem d_L_init_36 : decode b_L_init 36 = .ok (.iinc 3 1, 3) := by decide +kernel
theorem d_L_init_39 : decode b_L_init 39 = .ok (.goto (-20), 3) := by decide +kernel
theorem d_L_init_42 : decode b_L_init 42 = .ok (.aload_n 0, 1) := by decide +kernel
theorem d_L_init_43 : decode b_L_init 43 = .ok (.aload_n 1, 1) := by decide +kernel
theorem d_L_init_44 : decode b_L_init 44 = .ok (.putfield 17, 3) := by decide +kernel
theorem d_L_init_47 : decode b_L_init 47 = .ok (.aload_n 0, 1) := by decide +kernel
theorem d_L_init_48 : decode b_L_init 48 = .ok (.aload_n 2, 1) := by decide +kernel
theorem d_L_init_49 : decode b_L_init 49 = .ok (.putfield 21, 3) := by decide +kernel
theorem d_L_init_52 : decode b_L_init 52 = .ok (.aload_n 0, 1) := by decide +kernel
theorem d_L_init_53 : decode b_L_init 53 = .ok (.new 25, 3) := by decide +kernel
theorem d_L_init_56 : decode b_L_init 56 = .ok (.dup, 1) := by decide +kernel
theorem d_L_init_57 : decode b_L_init 57 = .ok (.invokespecial 27, 3) := by decide +kernel
theorem d_L_init_60 : decode b_L_init 60 = .ok (.putfield 28, 3) := by decide +kernel
theorem d_L_init_63 : decode b_L_init 63 = .ok (.return_, 1) := by decide +kernel
theorem d_L_set_0 : decode b_L_set 0 = .ok (.iload_n 1, 1) := by decide +kernel
theorem d_L_set_1 : decode b_L_set 1 = .ok (.invokestatic 32, 3) := by decide +kernel
theorem d_L_set_4 : decode b_L_set 4 = .ok (.ifCond .eq 23, 3) := by decide +kernel
theorem d_L_set_7 : decode b_L_set 7 = .ok (.iload_n 2, 1) := by decide +kernel
theorem d_L_set_8 : decode b_L_set 8 = .ok (.ifCond .lt 19, 3) := by decide +kernel
theorem d_L_set_11 : decode b_L_set 11 = .ok (.iload_n 2, 1) := by decide +kernel
theorem d_L_set_12 : decode b_L_set 12 = .ok (.getstatic 36, 3) := by decide +kernel
theorem d_L_set_15 : decode b_L_set 15 = .ok (.arraylength, 1) := by decide +kernel
theorem d_L_set_16 : decode b_L_set 16 = .ok (.if_icmp .ge 11, 3) := by decide +kernel
theorem d_L_set_19 : decode b_L_set 19 = .ok (.iload_n 2, 1) := by decide +kernel
theorem d_L_set_20 : decode b_L_set 20 = .ok (.getstatic 40, 3) := by decide +kernel
theorem d_L_set_23 : decode b_L_set 23 = .ok (.arraylength, 1) := by decide +kernel
theorem d_L_set_24 : decode b_L_set 24 = .ok (.if_icmp .lt 13, 3) := by decide +kernel
theorem d_L_set_27 : decode b_L_set 27 = .ok (.new 43, 3) := by decide +kernel
theorem d_L_set_30 : decode b_L_set 30 = .ok (.dup, 1) := by decide +kernel
theorem d_L_set_31 : decode b_L_set 31 = .ok (.ldc 45, 2) := by decide +kernel
theorem d_L_set_33 : decode b_L_set 33 = .ok (.invokespecial 47, 3) := by decide +kernel
theorem d_L_set_36 : decode b_L_set 36 = .ok (.athrow, 1) := by decide +kernel
theorem d_L_set_37 : decode b_L_set 37 = .ok (.iload_n 3, 1) := by decide +kernel
theorem d_L_set_38 : decode b_L_set 38 = .ok (.getstatic 36, 3) := by decide +kernel
theorem d_L_set_41 : decode b_L_set 41 = .ok (.iload_n 2, 1) := by decide +kernel
theorem d_L_set_42 : decode b_L_set 42 = .ok (.iaload, 1) := by decide +kernel
theorem d_L_set_43 : decode b_L_set 43 = .ok (.if_icmp .lt 12, 3) := by decide +kernel
theorem d_L_set_46 : decode b_L_set 46 = .ok (.iload_n 3, 1) := by decide +kernel
theorem d_L_set_47 : decode b_L_set 47 = .ok (.getstatic 40, 3) := by decide +kernel
theorem d_L_set_50 : decode b_L_set 50 = .ok (.iload_n 2, 1) := by decide +kernel
theorem d_L_set_51 : decode b_L_set 51 = .ok (.iaload, 1) := by decide +kernel
theorem d_L_set_52 : decode b_L_set 52 = .ok (.if_icmp .le 13, 3) := by decide +kernel
theorem d_L_set_55 : decode b_L_set 55 = .ok (.new 50, 3) := by decide +kernel
theorem d_L_set_58 : decode b_L_set 58 = .ok (.dup, 1) := by decide +kernel
theorem d_L_set_59 : decode b_L_set 59 = .ok (.ldc 52, 2) := by decide +kernel
theorem d_L_set_61 : decode b_L_set 61 = .ok (.invokespecial 54, 3) := by decide +kernel
theorem d_L_set_64 : decode b_L_set 64 = .ok (.athrow, 1) := by decide +kernel
theorem d_L_set_65 : decode b_L_set 65 = .ok (.aload_n 0, 1) := by decide +kernel
theorem d_L_set_66 : decode b_L_set 66 = .ok (.getfield 21, 3) := by decide +kernel
theorem d_L_set_69 : decode b_L_set 69 = .ok (.iload_n 1, 1) := by decide +kernel
theorem d_L_set_70 : decode b_L_set 70 = .ok (.aaload, 1) := by decide +kernel
theorem d_L_set_71 : decode b_L_set 71 = .ok (.getfield 55, 3) := by decide +kernel
theorem d_L_set_74 : decode b_L_set 74 = .ok (.iload_n 2, 1) := by decide +kernel
theorem d_L_set_75 : decode b_L_set 75 = .ok (.iload_n 3, 1) := by decide +kernel
theorem d_L_set_76 : decode b_L_set 76 = .ok (.iastore, 1) := by decide +kernel
theorem d_L_set_77 : decode b_L_set 77 = .ok (.return_, 1) := by decide +kernel
theorem d_L_start_0 : decode b_L_start 0 = .ok (.iload_n 1, 1) := by decide +kernel
theorem d_L_start_1 : decode b_L_start 1 = .ok (.invokestatic 32, 3) := by decide +kernel
theorem d_L_start_4 : decode b_L_start 4 = .ok (.ifCond .ne 13, 3) := by decide +kernel
theorem d_L_start_7 : decode b_L_start 7 = .ok (.new 43, 3) := by decide +kernel
theorem d_L_start_10 : decode b_L_start 10 = .ok (.dup, 1) := by decide +kernel
theorem d_L_start_11 : decode b_L_start 11 = .ok (.ldc 58, 2) := by decide +kernel
theorem d_L_start_13 : decode b_L_start 13 = .ok (.invokespecial 47, 3) := by decide +kernel
theorem d_L_start_16 : decode b_L_start 16 = .ok (.athrow, 1) := by decide +kernel
theorem d_L_start_17 : decode b_L_start 17 = .ok (.aload_n 0, 1) := by decide +kernel
theorem d_L_start_18 : decode b_L_start 18 = .ok (.getfield 21, 3) := by decide +kernel
theorem d_L_start_21 : decode b_L_start 21 = .ok (.iload_n 1, 1) := by decide +kernel
theorem d_L_start_22 : decode b_L_start 22 = .ok (.aaload, 1) := by decide +kernel
theorem d_L_start_23 : decode b_L_start 23 = .ok (.getfield 60, 3) := by decide +kernel
theorem d_L_start_26 : decode b_L_start 26 = .ok (.ifCond .eq 13, 3) := by decide +kernel
theorem d_L_start_29 : decode b_L_start 29 = .ok (.new 64, 3) := by decide +kernel
theorem d_L_start_32 : decode b_L_start 32 = .ok (.dup, 1) := by decide +kernel
theorem d_L_start_33 : decode b_L_start 33 = .ok (.ldc 66, 2) := by decide +kernel
theorem d_L_start_35 : decode b_L_start 35 = .ok (.invokespecial 68, 3) := by decide +kernel
theorem d_L_start_38 : decode b_L_start 38 = .ok (.athrow, 1) := by decide +kernel
theorem d_L_start_39 : decode b_L_start 39 = .ok (.aload_n 0, 1) := by decide +kernel
theorem d_L_start_40 : decode b_L_start 40 = .ok (.getfield 21, 3) := by decide +kernel
theorem d_L_start_43 : decode b_L_start 43 = .ok (.iload_n 1, 1) := by decide +kernel
theorem d_L_start_44 : decode b_L_start 44 = .ok (.aaload, 1) := by decide +kernel
theorem d_L_start_45 : decode b_L_start 45 = .ok (.invokevirtual 69, 3) := by decide +kernel
theorem d_L_start_48 : decode b_L_start 48 = .ok (.return_, 1) := by decide +kernel
theorem d_L_stop_0 : decode b_L_stop 0 = .ok (.iload_n 1, 1) := by decide +kernel
theorem d_L_stop_1 : decode b_L_stop 1 = .ok (.invokestatic 32, 3) := by decide +kernel
theorem d_L_stop_4 : decode b_L_stop 4 = .ok (.ifCond .ne 13, 3) := by decide +kernel
theorem d_L_stop_7 : decode b_L_stop 7 = .ok (.new 43, 3) := by decide +kernel
theorem d_L_stop_10 : decode b_L_stop 10 = .ok (.dup, 1) := by decide +kernel
theorem d_L_stop_11 : decode b_L_stop 11 = .ok (.ldc 58, 2) := by decide +kernel
theorem d_L_stop_13 : decode b_L_stop 13 = .ok (.invokespecial 47, 3) := by decide +kernel
theorem d_L_stop_16 : decode b_L_stop 16 = .ok (.athrow, 1) := by decide +kernel
theorem d_L_stop_17 : decode b_L_stop 17 = .ok (.aload_n 0, 1) := by decide +kernel
theorem d_L_stop_18 : decode b_L_stop 18 = .ok (.getfield 21, 3) := by decide +kernel
theorem d_L_stop_21 : decode b_L_stop 21 = .ok (.iload_n 1, 1) := by decide +kernel
theorem d_L_stop_22 : decode b_L_stop 22 = .ok (.aaload, 1) := by decide +kernel
theorem d_L_stop_23 : decode b_L_stop 23 = .ok (.getfield 60, 3) := by decide +kernel
theorem d_L_stop_26 : decode b_L_stop 26 = .ok (.ifCond .ne 13, 3) := by decide +kernel
theorem d_L_stop_29 : decode b_L_stop 29 = .ok (.new 64, 3) := by decide +kernel
theorem d_L_stop_32 : decode b_L_stop 32 = .ok (.dup, 1) := by decide +kernel
theorem d_L_stop_33 : decode b_L_stop 33 = .ok (.ldc 72, 2) := by decide +kernel
theorem d_L_stop_35 : decode b_L_stop 35 = .ok (.invokespecial 68, 3) := by decide +kernel
theorem d_L_stop_38 : decode b_L_stop 38 = .ok (.athrow, 1) := by decide +kernel
theorem d_L_stop_39 : decode b_L_stop 39 = .ok (.iload_n 2, 1) := by decide +kernel
theorem d_L_stop_40 : decode b_L_stop 40 = .ok (.ifCond .ne 12, 3) := by decide +kernel
theorem d_L_stop_43 : decode b_L_stop 43 = .ok (.aload_n 0, 1) := by decide +kernel
theorem d_L_stop_44 : decode b_L_stop 44 = .ok (.getfield 21, 3) := by decide +kernel
theorem d_L_stop_47 : decode b_L_stop 47 = .ok (.iload_n 1, 1) := by decide +kernel
theorem d_L_stop_48 : decode b_L_stop 48 = .ok (.aaload, 1) := by decide +kernel
theorem d_L_stop_49 : decode b_L_stop 49 = .ok (.invokevirtual 74, 3) := by decide +kernel
theorem d_L_stop_52 : decode b_L_stop 52 = .ok (.aload_n 0, 1) := by decide +kernel
theorem d_L_stop_53 : decode b_L_stop 53 = .ok (.getfield 21, 3) := by decide +kernel
theorem d_L_stop_56 : decode b_L_stop 56 = .ok (.iload_n 1, 1) := by decide +kernel
theorem d_L_stop_57 : decode b_L_stop 57 = .ok (.aaload, 1) := by decide +kernel
theorem d_L_stop_58 : decode b_L_stop 58 = .ok (.invokevirtual 77, 3) := by decide +kernel
theorem d_L_stop_61 : decode b_L_stop 61 = .ok (.return_, 1) := by decide +kernel
theorem d_L_open_0 : decode b_L_open 0 = .ok (.iload_n 1, 1) := by decide +kernel
theorem d_L_open_1 : decode b_L_open 1 = .ok (.invokestatic 32, 3) := by decide +kernel
theorem d_L_open_4 : decode b_L_open 4 = .ok (.ifCond .eq 15, 3) := by decide +kernel
theorem d_L_open_7 : decode b_L_open 7 = .ok (.iload_n 2, 1) := by decide +kernel
theorem d_L_open_8 : decode b_L_open 8 = .ok (.invokestatic 32, 3) := by decide +kernel
theorem d_L_open_11 : decode b_L_open 11 = .ok (.ifCond .eq 8, 3) := by decide +kernel
theorem d_L_open_14 : decode b_L_open 14 = .ok (.iload_n 2, 1) := by decide +kernel
theorem d_L_open_15 : decode b_L_open 15 = .ok (.iload_n 1, 1) := by decide +kernel
theorem d_L_open_16 : decode b_L_open 16 = .ok (.if_icmp .ne 13, 3) := by decide +kernel
theorem d_L_open_19 : decode b_L_open 19 = .ok (.new 43, 3) := by decide +kernel
theorem d_L_open_22 : decode b_L_open 22 = .ok (.dup, 1) := by decide +kernel
theorem d_L_open_23 : decode b_L_open 23 = .ok (.ldc 80, 2) := by decide +kernel
theorem d_L_open_25 : decode b_L_open 25 = .ok (.invokespecial 47, 3) := by decide +kernel
theorem d_L_open_28 : decode b_L_open 28 = .ok (.athrow, 1) := by decide +kernel
theorem d_L_open_29 : decode b_L_open 29 = .ok (.aload_n 0, 1) := by decide +kernel
theorem d_L_open_30 : decode b_L_open 30 = .ok (.getfield 21, 3) := by decide +kernel
theorem d_L_open_33 : decode b_L_open 33 = .ok (.iload_n 1, 1) := by decide +kernel
theorem d_L_open_34 : decode b_L_open 34 = .ok (.aaload, 1) := by decide +kernel
theorem d_L_open_35 : decode b_L_open 35 = .ok (.getfield 60, 3) := by decide +kernel
theorem d_L_open_38 : decode b_L_open 38 = .ok (.ifCond .ne 13, 3) := by decide +kernel
theorem d_L_open_41 : decode b_L_open 41 = .ok (.new 64, 3) := by decide +kernel
theorem d_L_open_44 : decode b_L_open 44 = .ok (.dup, 1) := by decide +kernel
theorem d_L_open_45 : decode b_L_open 45 = .ok (.ldc 72, 2) := by decide +kernel
theorem d_L_open_47 : decode b_L_open 47 = .ok (.invokespecial 68, 3) := by decide +kernel
theorem d_L_open_50 : decode b_L_open 50 = .ok (.athrow, 1) := by decide +kernel
theorem d_L_open_51 : decode b_L_open 51 = .ok (.iload_n 3, 1) := by decide +kernel
theorem d_L_open_52 : decode b_L_open 52 = .ok (.invokestatic 82, 3) := by decide +kernel
theorem d_L_open_55 : decode b_L_open 55 = .ok (.ifCond .eq 25, 3) := by decide +kernel
theorem d_L_open_58 : decode b_L_open 58 = .ok (.iload 4, 2) := by decide +kernel
theorem d_L_open_60 : decode b_L_open 60 = .ok (.invokestatic 82, 3) := by decide +kernel
theorem d_L_open_63 : decode b_L_open 63 = .ok (.ifCond .eq 17, 3) := by decide +kernel
theorem d_L_open_66 : decode b_L_open 66 = .ok (.iload 5, 2) := by decide +kernel
theorem d_L_open_68 : decode b_L_open 68 = .ok (.iconst 1, 1) := by decide +kernel
theorem d_L_open_69 : decode b_L_open 69 = .ok (.if_icmp .lt 11, 3) := by decide +kernel
theorem d_L_open_72 : decode b_L_open 72 = .ok (.iload 5, 2) := by decide +kernel
theorem d_L_open_74 : decode b_L_open 74 = .ok (.sipush 255, 3) := by decide +kernel
theorem d_L_open_77 : decode b_L_open 77 = .ok (.if_icmp .le 13, 3) := by decide +kernel
theorem d_L_open_80 : decode b_L_open 80 = .ok (.new 50, 3) := by decide +kernel
theorem d_L_open_83 : decode b_L_open 83 = .ok (.dup, 1) := by decide +kernel
theorem d_L_open_84 : decode b_L_open 84 = .ok (.ldc 85, 2) := by decide +kernel
theorem d_L_open_86 : decode b_L_open 86 = .ok (.invokespecial 54, 3) := by decide +kernel
theorem d_L_open_89 : decode b_L_open 89 = .ok (.athrow, 1) := by decide +kernel
theorem d_L_open_90 : decode b_L_open 90 = .ok (.aload_n 0, 1) := by decide +kernel
theorem d_L_open_91 : decode b_L_open 91 = .ok (.getfield 21, 3) := by decide +kernel
theorem d_L_open_94 : decode b_L_open 94 = .ok (.iload_n 1, 1) := by decide +kernel
theorem d_L_open_95 : decode b_L_open 95 = .ok (.aaload, 1) := by decide +kernel
theorem d_L_open_96 : decode b_L_open 96 = .ok (.getfield 87, 3) := by decide +kernel
theorem d_L_open_99 : decode b_L_open 99 = .ok (.iload_n 2, 1) := by decide +kernel
theorem d_L_open_100 : decode b_L_open 100 = .ok (.aaload, 1) := by decide +kernel
theorem d_L_open_101 : decode b_L_open 101 = .ok (.iload_n 3, 1) := by decide +kernel
theorem d_L_open_102 : decode b_L_open 102 = .ok (.iload 4, 2) := by decide +kernel
theorem d_L_open_104 : decode b_L_open 104 = .ok (.iload 5, 2) := by decide +kernel
theorem d_L_open_106 : decode b_L_open 106 = .ok (.invokevirtual 91, 3) := by decide +kernel
theorem d_L_open_109 : decode b_L_open 109 = .ok (.return_, 1) := by decide +kernel
theorem d_L_change_0 : decode b_L_change 0 = .ok (.iload_n 1, 1) := by decide +kernel
theorem d_L_change_1 : decode b_L_change 1 = .ok (.invokestatic 32, 3) := by decide +kernel
theorem d_L_change_4 : decode b_L_change 4 = .ok (.ifCond .eq 10, 3) := by decide +kernel
theorem d_L_change_7 : decode b_L_change 7 = .ok (.iload_n 2, 1) := by decide +kernel
theorem d_L_change_8 : decode b_L_change 8 = .ok (.invokestatic 32, 3) := by decide +kernel
theorem d_L_change_11 : decode b_L_change 11 = .ok (.ifCond .ne 13, 3) := by decide +kernel
theorem d_L_change_14 : decode b_L_change 14 = .ok (.new 43, 3) := by decide +kernel
theorem d_L_change_17 : decode b_L_change 17 = .ok (.dup, 1) := by decide +kernel
theorem d_L_change_18 : decode b_L_change 18 = .ok (.ldc 58, 2) := by decide +kernel
theorem d_L_change_20 : decode b_L_change 20 = .ok (.invokespecial 47, 3) := by decide +kernel
theorem d_L_change_23 : decode b_L_change 23 = .ok (.athrow, 1) := by decide +kernel
theorem d_L_change_24 : decode b_L_change 24 = .ok (.aload_n 0, 1) := by decide +kernel
theorem d_L_change_25 : decode b_L_change 25 = .ok (.getfield 21, 3) := by decide +kernel
theorem d_L_change_28 : decode b_L_change 28 = .ok (.iload_n 1, 1) := by decide +kernel
theorem d_L_change_29 : decode b_L_change 29 = .ok (.aaload, 1) := by decide +kernel
theorem d_L_change_30 : decode b_L_change 30 = .ok (.getfield 87, 3) := by decide +kernel
theorem d_L_change_33 : decode b_L_change 33 = .ok (.iload_n 2, 1) := by decide +kernel
theorem d_L_change_34 : decode b_L_change 34 = .ok (.aaload, 1) := by decide +kernel
theorem d_L_change_35 : decode b_L_change 35 = .ok (.astore 5, 2) := by decide +kernel
theorem d_L_change_37 : decode b_L_change 37 = .ok (.aload 5, 2) := by decide +kernel
theorem d_L_change_39 : decode b_L_change 39 = .ok (.getfield 97, 3) := by decide +kernel
theorem d_L_change_42 : decode b_L_change 42 = .ok (.ifCond .eq 11, 3) := by decide +kernel
theorem d_L_change_45 : decode b_L_change 45 = .ok (.aload 5, 2) := by decide +kernel
theorem d_L_change_47 : decode b_L_change 47 = .ok (.getfield 101, 3) := by decide +kernel
theorem d_L_change_50 : decode b_L_change 50 = .ok (.ifCond .ne 13, 3) := by decide +kernel
theorem d_L_change_53 : decode b_L_change 53 = .ok (.new 64, 3) := by decide +kernel
theorem d_L_change_56 : decode b_L_change 56 = .ok (.dup, 1) := by decide +kernel
theorem d_L_change_57 : decode b_L_change 57 = .ok (.ldc 102, 2) := by decide +kernel
theorem d_L_change_59 : decode b_L_change 59 = .ok (.invokespecial 68, 3) := by decide +kernel
theorem d_L_change_62 : decode b_L_change 62 = .ok (.athrow, 1) := by decide +kernel
theorem d_L_change_63 : decode b_L_change 63 = .ok (.iload_n 3, 1) := by decide +kernel
theorem d_L_change_64 : decode b_L_change 64 = .ok (.ifCond .ne 12, 3) := by decide +kernel
theorem d_L_change_67 : decode b_L_change 67 = .ok (.iload 4, 2) := by decide +kernel
theorem d_L_change_69 : decode b_L_change 69 = .ok (.ifCond .ne 7, 3) := by decide +kernel
theorem d_L_change_72 : decode b_L_change 72 = .ok (.iconst 1, 1) := by decide +kernel
theorem d_L_change_73 : decode b_L_change 73 = .ok (.goto 4, 3) := by decide +kernel
theorem d_L_change_76 : decode b_L_change 76 = .ok (.iconst 0, 1) := by decide +kernel
theorem d_L_change_77 : decode b_L_change 77 = .ok (.istore 6, 2) := by decide +kernel
theorem d_L_change_79 : decode b_L_change 79 = .ok (.iload 6, 2) := by decide +kernel
theorem d_L_change_81 : decode b_L_change 81 = .ok (.ifCond .ne 28, 3) := by decide +kernel
theorem d_L_change_84 : decode b_L_change 84 = .ok (.iload_n 3, 1) := by decide +kernel
theorem d_L_change_85 : decode b_L_change 85 = .ok (.invokestatic 82, 3) := by decide +kernel
theorem d_L_change_88 : decode b_L_change 88 = .ok (.ifCond .eq 11, 3) := by decide +kernel
theorem d_L_change_91 : decode b_L_change 91 = .ok (.iload 4, 2) := by decide +kernel
theorem d_L_change_93 : decode b_L_change 93 = .ok (.invokestatic 82, 3) := by decide +kernel
theorem d_L_change_96 : decode b_L_change 96 = .ok (.ifCond .ne 13, 3) := by decide +kernel
theorem d_L_change_99 : decode b_L_change 99 = .ok (.new 50, 3) := by decide +kernel
theorem d_L_change_102 : decode b_L_change 102 = .ok (.dup, 1) := by decide +kernel
theorem d_L_change_103 : decode b_L_change 103 = .ok (.ldc 104, 2) := by decide +kernel
theorem d_L_change_105 : decode b_L_change 105 = .ok (.invokespecial 54, 3) := by decide +kernel
theorem d_L_change_108 : decode b_L_change 108 = .ok (.athrow, 1) := by decide +kernel
theorem d_L_change_109 : decode b_L_change 109 = .ok (.iload 6, 2) := by decide +kernel
theorem d_L_change_111 : decode b_L_change 111 = .ok (.ifCond .eq 11, 3) := by decide +kernel
theorem d_L_change_114 : decode b_L_change 114 = .ok (.aload 5, 2) := by decide +kernel
theorem d_L_change_116 : decode b_L_change 116 = .ok (.invokevirtual 106, 3) := by decide +kernel
theorem d_L_change_119 : decode b_L_change 119 = .ok (.goto 11, 3) := by decide +kernel
theorem d_L_change_122 : decode b_L_change 122 = .ok (.aload 5, 2) := by decide +kernel
theorem d_L_change_124 : decode b_L_change 124 = .ok (.iload_n 3, 1) := by decide +kernel
theorem d_L_change_125 : decode b_L_change 125 = .ok (.iload 4, 2) := by decide +kernel
theorem d_L_change_127 : decode b_L_change 127 = .ok (.invokevirtual 109, 3) := by decide +kernel
theorem d_L_change_130 : decode b_L_change 130 = .ok (.return_, 1) := by decide +kernel
theorem d_L_ask_0 : decode b_L_ask 0 = .ok (.iload_n 1, 1) := by decide +kernel
theorem d_L_ask_1 : decode b_L_ask 1 = .ok (.invokestatic 32, 3) := by decide +kernel
theorem d_L_ask_4 : decode b_L_ask 4 = .ok (.ifCond .ne 13, 3) := by decide +kernel
theorem d_L_ask_7 : decode b_L_ask 7 = .ok (.new 43, 3) := by decide +kernel
theorem d_L_ask_10 : decode b_L_ask 10 = .ok (.dup, 1) := by decide +kernel
theorem d_L_ask_11 : decode b_L_ask 11 = .ok (.ldc 58, 2) := by decide +kernel
theorem d_L_ask_13 : decode b_L_ask 13 = .ok (.invokespecial 47, 3) := by decide +kernel
theorem d_L_ask_16 : decode b_L_ask 16 = .ok (.athrow, 1) := by decide +kernel
theorem d_L_ask_17 : decode b_L_ask 17 = .ok (.aload_n 0, 1) := by decide +kernel
theorem d_L_ask_18 : decode b_L_ask 18 = .ok (.getfield 21, 3) := by decide +kernel
theorem d_L_ask_21 : decode b_L_ask 21 = .ok (.iload_n 1, 1) := by decide +kernel
theorem d_L_ask_22 : decode b_L_ask 22 = .ok (.aaload, 1) := by decide +kernel
theorem d_L_ask_23 : decode b_L_ask 23 = .ok (.getfield 60, 3) := by decide +kernel
theorem d_L_ask_26 : decode b_L_ask 26 = .ok (.ifCond .ne 13, 3) := by decide +kernel
theorem d_L_ask_29 : decode b_L_ask 29 = .ok (.new 64, 3) := by decide +kernel
theorem d_L_ask_32 : decode b_L_ask 32 = .ok (.dup, 1) := by decide +kernel
theorem d_L_ask_33 : decode b_L_ask 33 = .ok (.ldc 72, 2) := by decide +kernel
theorem d_L_ask_35 : decode b_L_ask 35 = .ok (.invokespecial 68, 3) := by decide +kernel
theorem d_L_ask_38 : decode b_L_ask 38 = .ok (.athrow, 1) := by decide +kernel
theorem d_L_ask_39 : decode b_L_ask 39 = .ok (.aload_n 0, 1) := by decide +kernel
theorem d_L_ask_40 : decode b_L_ask 40 = .ok (.getfield 21, 3) := by decide +kernel
theorem d_L_ask_43 : decode b_L_ask 43 = .ok (.iload_n 1, 1) := by decide +kernel
theorem d_L_ask_44 : decode b_L_ask 44 = .ok (.aaload, 1) := by decide +kernel
theorem d_L_ask_45 : decode b_L_ask 45 = .ok (.iconst 3, 1) := by decide +kernel
theorem d_L_ask_46 : decode b_L_ask 46 = .ok (.iload_n 1, 1) := by decide +kernel
theorem d_L_ask_47 : decode b_L_ask 47 = .ok (.bipush 15, 2) := by decide +kernel
theorem d_L_ask_49 : decode b_L_ask 49 = .ok (.invokevirtual 113, 3) := by decide +kernel
theorem d_L_ask_52 : decode b_L_ask 52 = .ok (.return_, 1) := by decide +kernel
theorem d_L_tick_0 : decode b_L_tick 0 = .ok (.iload_n 1, 1) := by decide +kernel
theorem d_L_tick_1 : decode b_L_tick 1 = .ok (.iconst 1, 1) := by decide +kernel
theorem d_L_tick_2 : decode b_L_tick 2 = .ok (.if_icmp .lt 10, 3) := by decide +kernel
theorem d_L_tick_5 : decode b_L_tick 5 = .ok (.iload_n 1, 1) := by decide +kernel
theorem d_L_tick_6 : decode b_L_tick 6 = .ok (.sipush 400, 3) := by decide +kernel
theorem d_L_tick_9 : decode b_L_tick 9 = .ok (.if_icmp .le 13, 3) := by decide +kernel
theorem d_L_tick_12 : decode b_L_tick 12 = .ok (.new 50, 3) := by decide +kernel
theorem d_L_tick_15 : decode b_L_tick 15 = .ok (.dup, 1) := by decide +kernel
theorem d_L_tick_16 : decode b_L_tick 16 = .ok (.ldc 116, 2) := by decide +kernel
theorem d_L_tick_18 : decode b_L_tick 18 = .ok (.invokespecial 54, 3) := by decide +kernel
theorem d_L_tick_21 : decode b_L_tick 21 = .ok (.athrow, 1) := by decide +kernel
theorem d_L_tick_22 : decode b_L_tick 22 = .ok (.iconst 0, 1) := by decide +kernel
theorem d_L_tick_23 : decode b_L_tick 23 = .ok (.istore_n 2, 1) := by decide +kernel
theorem d_L_tick_24 : decode b_L_tick 24 = .ok (.iload_n 2, 1) := by decide +kernel
theorem d_L_tick_25 : decode b_L_tick 25 = .ok (.iload_n 1, 1) := by decide +kernel
theorem d_L_tick_26 : decode b_L_tick 26 = .ok (.if_icmp .ge 81, 3) := by decide +kernel
theorem d_L_tick_29 : decode b_L_tick 29 = .ok (.aload_n 0, 1) := by decide +kernel
theorem d_L_tick_30 : decode b_L_tick 30 = .ok (.getfield 17, 3) := by decide +kernel
theorem d_L_tick_33 : decode b_L_tick 33 = .ok (.dup, 1) := by decide +kernel
theorem d_L_tick_34 : decode b_L_tick 34 = .ok (.getfield 118, 3) := by decide +kernel
theorem d_L_tick_37 : decode b_L_tick 37 = .ok (.iconst 1, 1) := by decide +kernel
theorem d_L_tick_38 : decode b_L_tick 38 = .ok (.iadd, 1) := by decide +kernel
theorem d_L_tick_39 : decode b_L_tick 39 = .ok (.putfield 118, 3) := by decide +kernel
theorem d_L_tick_42 : decode b_L_tick 42 = .ok (.aload_n 0, 1) := by decide +kernel
theorem d_L_tick_43 : decode b_L_tick 43 = .ok (.getfield 17, 3) := by decide +kernel
theorem d_L_tick_46 : decode b_L_tick 46 = .ok (.invokevirtual 121, 3) := by decide +kernel
theorem d_L_tick_49 : decode b_L_tick 49 = .ok (.istore_n 3, 1) := by decide +kernel
theorem d_L_tick_50 : decode b_L_tick 50 = .ok (.iconst 0, 1) := by decide +kernel
theorem d_L_tick_51 : decode b_L_tick 51 = .ok (.istore 4, 2) := by decide +kernel
theorem d_L_tick_53 : decode b_L_tick 53 = .ok (.iload 4, 2) := by decide +kernel
theorem d_L_tick_55 : decode b_L_tick 55 = .ok (.iload_n 3, 1) := by decide +kernel
theorem d_L_tick_56 : decode b_L_tick 56 = .ok (.if_icmp .ge 20, 3) := by decide +kernel
theorem d_L_tick_59 : decode b_L_tick 59 = .ok (.aload_n 0, 1) := by decide +kernel
theorem d_L_tick_60 : decode b_L_tick 60 = .ok (.aload_n 0, 1) := by decide +kernel
theorem d_L_tick_61 : decode b_L_tick 61 = .ok (.getfield 17, 3) := by decide +kernel
theorem d_L_tick_64 : decode b_L_tick 64 = .ok (.invokevirtual 125, 3) := by decide +kernel
theorem d_L_tick_67 : decode b_L_tick 67 = .ok (.invokevirtual 129, 3) := by decide +kernel
theorem d_L_tick_70 : decode b_L_tick 70 = .ok (.iinc 4 1, 3) := by decide +kernel
theorem d_L_tick_73 : decode b_L_tick 73 = .ok (.goto (-20), 3) := by decide +kernel
theorem d_L_tick_76 : decode b_L_tick 76 = .ok (.iconst 0, 1) := by decide +kernel
theorem d_L_tick_77 : decode b_L_tick 77 = .ok (.istore 4, 2) := by decide +kernel
theorem d_L_tick_79 : decode b_L_tick 79 = .ok (.iload 4, 2) := by decide +kernel
theorem d_L_tick_81 : decode b_L_tick 81 = .ok (.iconst 5, 1) := by decide +kernel
theorem d_L_tick_82 : decode b_L_tick 82 = .ok (.if_icmp .ge 19, 3) := by decide +kernel
theorem d_L_tick_85 : decode b_L_tick 85 = .ok (.aload_n 0, 1) := by decide +kernel
theorem d_L_tick_86 : decode b_L_tick 86 = .ok (.getfield 21, 3) := by decide +kernel
theorem d_L_tick_89 : decode b_L_tick 89 = .ok (.iload 4, 2) := by decide +kernel
theorem d_L_tick_91 : decode b_L_tick 91 = .ok (.aaload, 1) := by decide +kernel
theorem d_L_tick_92 : decode b_L_tick 92 = .ok (.invokevirtual 133, 3) := by decide +kernel
theorem d_L_tick_95 : decode b_L_tick 95 = .ok (.iinc 4 1, 3) := by decide +kernel
theorem d_L_tick_98 : decode b_L_tick 98 = .ok (.goto (-19), 3) := by decide +kernel
theorem d_L_tick_101 : decode b_L_tick 101 = .ok (.iinc 2 1, 3) := by decide +kernel
theorem d_L_tick_104 : decode b_L_tick 104 = .ok (.goto (-80), 3) := by decide +kernel
theorem d_L_tick_107 : decode b_L_tick 107 = .ok (.aload_n 0, 1) := by decide +kernel
theorem d_L_tick_108 : decode b_L_tick 108 = .ok (.getfield 17, 3) := by decide +kernel
theorem d_L_tick_111 : decode b_L_tick 111 = .ok (.getfield 118, 3) := by decide +kernel
theorem d_L_tick_114 : decode b_L_tick 114 = .ok (.ireturn, 1) := by decide +kernel
theorem d_L_type_0 : decode b_L_type 0 = .ok (.iload_n 3, 1) := by decide +kernel
theorem d_L_type_1 : decode b_L_type 1 = .ok (.iconst 1, 1) := by decide +kernel
theorem d_L_type_2 : decode b_L_type 2 = .ok (.if_icmp .lt 23, 3) := by decide +kernel
theorem d_L_type_5 : decode b_L_type 5 = .ok (.iload_n 3, 1) := by decide +kernel
theorem d_L_type_6 : decode b_L_type 6 = .ok (.bipush 8, 2) := by decide +kernel
theorem d_L_type_8 : decode b_L_type 8 = .ok (.if_icmp .gt 17, 3) := by decide +kernel
theorem d_L_type_11 : decode b_L_type 11 = .ok (.aload_n 0, 1) := by decide +kernel
theorem d_L_type_12 : decode b_L_type 12 = .ok (.getfield 28, 3) := by decide +kernel
theorem d_L_type_15 : decode b_L_type 15 = .ok (.getfield 136, 3) := by decide +kernel
theorem d_L_type_18 : decode b_L_type 18 = .ok (.iload_n 3, 1) := by decide +kernel
theorem d_L_type_19 : decode b_L_type 19 = .ok (.iadd, 1) := by decide +kernel
theorem d_L_type_20 : decode b_L_type 20 = .ok (.bipush 40, 2) := by decide +kernel
theorem d_L_type_22 : decode b_L_type 22 = .ok (.if_icmp .le 5, 3) := by decide +kernel
theorem d_L_type_25 : decode b_L_type 25 = .ok (.iconst 0, 1) := by decide +kernel
theorem d_L_type_26 : decode b_L_type 26 = .ok (.ireturn, 1) := by decide +kernel
theorem d_L_type_27 : decode b_L_type 27 = .ok (.iload_n 3, 1) := by decide +kernel
theorem d_L_type_28 : decode b_L_type 28 = .ok (.iconst 1, 1) := by decide +kernel
theorem d_L_type_29 : decode b_L_type 29 = .ok (.isub, 1) := by decide +kernel
theorem d_L_type_30 : decode b_L_type 30 = .ok (.istore 4, 2) := by decide +kernel
theorem d_L_type_32 : decode b_L_type 32 = .ok (.iload 4, 2) := by decide +kernel
theorem d_L_type_34 : decode b_L_type 34 = .ok (.ifCond .lt 24, 3) := by decide +kernel
theorem d_L_type_37 : decode b_L_type 37 = .ok (.aload_n 0, 1) := by decide +kernel
theorem d_L_type_38 : decode b_L_type 38 = .ok (.getfield 28, 3) := by decide +kernel
theorem d_L_type_41 : decode b_L_type 41 = .ok (.lload_n 1, 1) := by decide +kernel
theorem d_L_type_42 : decode b_L_type 42 = .ok (.bipush 8, 2) := by decide +kernel
theorem d_L_type_44 : decode b_L_type 44 = .ok (.iload 4, 2) := by decide +kernel
theorem d_L_type_46 : decode b_L_type 46 = .ok (.imul, 1) := by decide +kernel
theorem d_L_type_47 : decode b_L_type 47 = .ok (.lushr, 1) := by decide +kernel
theorem d_L_type_48 : decode b_L_type 48 = .ok (.l2i, 1) := by decide +kernel
theorem d_L_type_49 : decode b_L_type 49 = .ok (.invokevirtual 139, 3) := by decide +kernel
theorem d_L_type_52 : decode b_L_type 52 = .ok (.iinc 4 (-1), 3) := by decide +kernel
theorem d_L_type_55 : decode b_L_type 55 = .ok (.goto (-23), 3) := by decide +kernel
theorem d_L_type_58 : decode b_L_type 58 = .ok (.iconst 1, 1) := by decide +kernel
theorem d_L_type_59 : decode b_L_type 59 = .ok (.ireturn, 1) := by decide +kernel
theorem d_L_arrive_0 : decode b_L_arrive 0 = .ok (.iload_n 1, 1) := by decide +kernel
theorem d_L_arrive_1 : decode b_L_arrive 1 = .ok (.invokestatic 32, 3) := by decide +kernel
theorem d_L_arrive_4 : decode b_L_arrive 4 = .ok (.ifCond .ne 13, 3) := by decide +kernel
theorem d_L_arrive_7 : decode b_L_arrive 7 = .ok (.new 43, 3) := by decide +kernel
theorem d_L_arrive_10 : decode b_L_arrive 10 = .ok (.dup, 1) := by decide +kernel
theorem d_L_arrive_11 : decode b_L_arrive 11 = .ok (.ldc 58, 2) := by decide +kernel
theorem d_L_arrive_13 : decode b_L_arrive 13 = .ok (.invokespecial 47, 3) := by decide +kernel
theorem d_L_arrive_16 : decode b_L_arrive 16 = .ok (.athrow, 1) := by decide +kernel
theorem d_L_arrive_17 : decode b_L_arrive 17 = .ok (.iload_n 2, 1) := by decide +kernel
theorem d_L_arrive_18 : decode b_L_arrive 18 = .ok (.iconst 1, 1) := by decide +kernel
theorem d_L_arrive_19 : decode b_L_arrive 19 = .ok (.if_icmp .eq 8, 3) := by decide +kernel
theorem d_L_arrive_22 : decode b_L_arrive 22 = .ok (.iload_n 2, 1) := by decide +kernel
theorem d_L_arrive_23 : decode b_L_arrive 23 = .ok (.iconst 2, 1) := by decide +kernel
theorem d_L_arrive_24 : decode b_L_arrive 24 = .ok (.if_icmp .ne 26, 3) := by decide +kernel
theorem d_L_arrive_27 : decode b_L_arrive 27 = .ok (.iload_n 3, 1) := by decide +kernel
theorem d_L_arrive_28 : decode b_L_arrive 28 = .ok (.ifCond .lt 22, 3) := by decide +kernel
theorem d_L_arrive_31 : decode b_L_arrive 31 = .ok (.iload_n 3, 1) := by decide +kernel
theorem d_L_arrive_32 : decode b_L_arrive 32 = .ok (.bipush 15, 2) := by decide +kernel
theorem d_L_arrive_34 : decode b_L_arrive 34 = .ok (.if_icmp .ge 16, 3) := by decide +kernel
theorem d_L_arrive_37 : decode b_L_arrive 37 = .ok (.iload 4, 2) := by decide +kernel
theorem d_L_arrive_39 : decode b_L_arrive 39 = .ok (.ifCond .lt 11, 3) := by decide +kernel
theorem d_L_arrive_42 : decode b_L_arrive 42 = .ok (.iload 4, 2) := by decide +kernel
theorem d_L_arrive_44 : decode b_L_arrive 44 = .ok (.sipush 255, 3) := by decide +kernel
theorem d_L_arrive_47 : decode b_L_arrive 47 = .ok (.if_icmp .le 13, 3) := by decide +kernel
theorem d_L_arrive_50 : decode b_L_arrive 50 = .ok (.new 50, 3) := by decide +kernel
theorem d_L_arrive_53 : decode b_L_arrive 53 = .ok (.dup, 1) := by decide +kernel
theorem d_L_arrive_54 : decode b_L_arrive 54 = .ok (.ldc 143, 2) := by decide +kernel
theorem d_L_arrive_56 : decode b_L_arrive 56 = .ok (.invokespecial 54, 3) := by decide +kernel
theorem d_L_arrive_59 : decode b_L_arrive 59 = .ok (.athrow, 1) := by decide +kernel
theorem d_L_arrive_60 : decode b_L_arrive 60 = .ok (.aload_n 0, 1) := by decide +kernel
theorem d_L_arrive_61 : decode b_L_arrive 61 = .ok (.getfield 21, 3) := by decide +kernel
theorem d_L_arrive_64 : decode b_L_arrive 64 = .ok (.iload_n 1, 1) := by decide +kernel
theorem d_L_arrive_65 : decode b_L_arrive 65 = .ok (.aaload, 1) := by decide +kernel
theorem d_L_arrive_66 : decode b_L_arrive 66 = .ok (.getfield 60, 3) := by decide +kernel
theorem d_L_arrive_69 : decode b_L_arrive 69 = .ok (.ifCond .ne 13, 3) := by decide +kernel
theorem d_L_arrive_72 : decode b_L_arrive 72 = .ok (.new 64, 3) := by decide +kernel
theorem d_L_arrive_75 : decode b_L_arrive 75 = .ok (.dup, 1) := by decide +kernel
theorem d_L_arrive_76 : decode b_L_arrive 76 = .ok (.ldc 72, 2) := by decide +kernel
theorem d_L_arrive_78 : decode b_L_arrive 78 = .ok (.invokespecial 68, 3) := by decide +kernel
theorem d_L_arrive_81 : decode b_L_arrive 81 = .ok (.athrow, 1) := by decide +kernel
theorem d_L_arrive_82 : decode b_L_arrive 82 = .ok (.aload_n 0, 1) := by decide +kernel
theorem d_L_arrive_83 : decode b_L_arrive 83 = .ok (.getfield 28, 3) := by decide +kernel
theorem d_L_arrive_86 : decode b_L_arrive 86 = .ok (.iload_n 2, 1) := by decide +kernel
theorem d_L_arrive_87 : decode b_L_arrive 87 = .ok (.putfield 145, 3) := by decide +kernel
theorem d_L_arrive_90 : decode b_L_arrive 90 = .ok (.aload_n 0, 1) := by decide +kernel
theorem d_L_arrive_91 : decode b_L_arrive 91 = .ok (.getfield 28, 3) := by decide +kernel
theorem d_L_arrive_94 : decode b_L_arrive 94 = .ok (.iload_n 3, 1) := by decide +kernel
theorem d_L_arrive_95 : decode b_L_arrive 95 = .ok (.putfield 148, 3) := by decide +kernel
theorem d_L_arrive_98 : decode b_L_arrive 98 = .ok (.aload_n 0, 1) := by decide +kernel
theorem d_L_arrive_99 : decode b_L_arrive 99 = .ok (.getfield 28, 3) := by decide +kernel
theorem d_L_arrive_102 : decode b_L_arrive 102 = .ok (.iload 4, 2) := by decide +kernel
theorem d_L_arrive_104 : decode b_L_arrive 104 = .ok (.putfield 151, 3) := by decide +kernel
theorem d_L_arrive_107 : decode b_L_arrive 107 = .ok (.aload_n 0, 1) := by decide +kernel
theorem d_L_arrive_108 : decode b_L_arrive 108 = .ok (.getfield 28, 3) := by decide +kernel
theorem d_L_arrive_111 : decode b_L_arrive 111 = .ok (.iload 5, 2) := by decide +kernel
theorem d_L_arrive_113 : decode b_L_arrive 113 = .ok (.putfield 154, 3) := by decide +kernel
theorem d_L_arrive_116 : decode b_L_arrive 116 = .ok (.aload_n 0, 1) := by decide +kernel
theorem d_L_arrive_117 : decode b_L_arrive 117 = .ok (.getfield 21, 3) := by decide +kernel
theorem d_L_arrive_120 : decode b_L_arrive 120 = .ok (.iload_n 1, 1) := by decide +kernel
theorem d_L_arrive_121 : decode b_L_arrive 121 = .ok (.aaload, 1) := by decide +kernel
theorem d_L_arrive_122 : decode b_L_arrive 122 = .ok (.aload_n 0, 1) := by decide +kernel
theorem d_L_arrive_123 : decode b_L_arrive 123 = .ok (.getfield 28, 3) := by decide +kernel
theorem d_L_arrive_126 : decode b_L_arrive 126 = .ok (.invokevirtual 157, 3) := by decide +kernel
theorem d_L_arrive_129 : decode b_L_arrive 129 = .ok (.istore 6, 2) := by decide +kernel
theorem d_L_arrive_131 : decode b_L_arrive 131 = .ok (.aload_n 0, 1) := by decide +kernel
theorem d_L_arrive_132 : decode b_L_arrive 132 = .ok (.getfield 28, 3) := by decide +kernel
theorem d_L_arrive_135 : decode b_L_arrive 135 = .ok (.iconst 0, 1) := by decide +kernel
theorem d_L_arrive_136 : decode b_L_arrive 136 = .ok (.putfield 136, 3) := by decide +kernel
theorem d_L_arrive_139 : decode b_L_arrive 139 = .ok (.iload 6, 2) := by decide +kernel
theorem d_L_arrive_141 : decode b_L_arrive 141 = .ok (.ireturn, 1) := by decide +kernel
theorem d_L_router_0 : decode b_L_router 0 = .ok (.iload_n 1, 1) := by decide +kernel
theorem d_L_router_1 : decode b_L_router 1 = .ok (.invokestatic 32, 3) := by decide +kernel
theorem d_L_router_4 : decode b_L_router 4 = .ok (.ifCond .eq 16, 3) := by decide +kernel
theorem d_L_router_7 : decode b_L_router 7 = .ok (.aload_n 0, 1) := by decide +kernel
theorem d_L_router_8 : decode b_L_router 8 = .ok (.getfield 21, 3) := by decide +kernel
theorem d_L_router_11 : decode b_L_router 11 = .ok (.iload_n 1, 1) := by decide +kernel
theorem d_L_router_12 : decode b_L_router 12 = .ok (.aaload, 1) := by decide +kernel
theorem d_L_router_13 : decode b_L_router 13 = .ok (.iload_n 2, 1) := by decide +kernel
theorem d_L_router_14 : decode b_L_router 14 = .ok (.invokevirtual 161, 3) := by decide +kernel
theorem d_L_router_17 : decode b_L_router 17 = .ok (.goto 4, 3) := by decide +kernel
theorem d_L_router_20 : decode b_L_router 20 = .ok (.iconst (-1), 1) := by decide +kernel
theorem d_L_router_21 : decode b_L_router 21 = .ok (.ireturn, 1) := by decide +kernel
theorem d_L_session_0 : decode b_L_session 0 = .ok (.iload_n 1, 1) := by decide +kernel
theorem d_L_session_1 : decode b_L_session 1 = .ok (.invokestatic 32, 3) := by decide +kernel
theorem d_L_session_4 : decode b_L_session 4 = .ok (.ifCond .eq 10, 3) := by decide +kernel
theorem d_L_session_7 : decode b_L_session 7 = .ok (.iload_n 2, 1) := by decide +kernel
theorem d_L_session_8 : decode b_L_session 8 = .ok (.invokestatic 32, 3) := by decide +kernel
theorem d_L_session_11 : decode b_L_session 11 = .ok (.ifCond .ne 5, 3) := by decide +kernel
theorem d_L_session_14 : decode b_L_session 14 = .ok (.iconst (-1), 1) := by decide +kernel
theorem d_L_session_15 : decode b_L_session 15 = .ok (.ireturn, 1) := by decide +kernel
theorem d_L_session_16 : decode b_L_session 16 = .ok (.aload_n 0, 1) := by decide +kernel
theorem d_L_session_17 : decode b_L_session 17 = .ok (.getfield 21, 3) := by decide +kernel
theorem d_L_session_20 : decode b_L_session 20 = .ok (.iload_n 1, 1) := by decide +kernel
theorem d_L_session_21 : decode b_L_session 21 = .ok (.aaload, 1) := by decide +kernel
theorem d_L_session_22 : decode b_L_session 22 = .ok (.getfield 87, 3) := by decide +kernel
theorem d_L_session_25 : decode b_L_session 25 = .ok (.iload_n 2, 1) := by decide +kernel
theorem d_L_session_26 : decode b_L_session 26 = .ok (.aaload, 1) := by decide +kernel
theorem d_L_session_27 : decode b_L_session 27 = .ok (.astore 4, 2) := by decide +kernel
theorem d_L_session_29 : decode b_L_session 29 = .ok (.aload 4, 2) := by decide +kernel
theorem d_L_session_31 : decode b_L_session 31 = .ok (.getfield 97, 3) := by decide +kernel
theorem d_L_session_34 : decode b_L_session 34 = .ok (.ifCond .eq 12, 3) := by decide +kernel
theorem d_L_session_37 : decode b_L_session 37 = .ok (.aload 4, 2) := by decide +kernel
theorem d_L_session_39 : decode b_L_session 39 = .ok (.iload_n 3, 1) := by decide +kernel
theorem d_L_session_40 : decode b_L_session 40 = .ok (.invokevirtual 165, 3) := by decide +kernel
theorem d_L_session_43 : decode b_L_session 43 = .ok (.goto 4, 3) := by decide +kernel
theorem d_L_session_46 : decode b_L_session 46 = .ok (.iconst (-1), 1) := by decide +kernel
theorem d_L_session_47 : decode b_L_session 47 = .ok (.ireturn, 1) := by decide +kernel
theorem d_L_port_0 : decode b_L_port 0 = .ok (.aload_n 0, 1) := by decide +kernel
theorem d_L_port_1 : decode b_L_port 1 = .ok (.getfield 17, 3) := by decide +kernel
theorem d_L_port_4 : decode b_L_port 4 = .ok (.iload_n 1, 1) := by decide +kernel
theorem d_L_port_5 : decode b_L_port 5 = .ok (.invokevirtual 166, 3) := by decide +kernel
theorem d_L_port_8 : decode b_L_port 8 = .ok (.ireturn, 1) := by decide +kernel
theorem d_L_flying_0 : decode b_L_flying 0 = .ok (.aload_n 0, 1) := by decide +kernel
theorem d_L_flying_1 : decode b_L_flying 1 = .ok (.getfield 17, 3) := by decide +kernel
theorem d_L_flying_4 : decode b_L_flying 4 = .ok (.getfield 169, 3) := by decide +kernel
theorem d_L_flying_7 : decode b_L_flying 7 = .ok (.ireturn, 1) := by decide +kernel
theorem d_L_frame_0 : decode b_L_frame 0 = .ok (.iload_n 1, 1) := by decide +kernel
theorem d_L_frame_1 : decode b_L_frame 1 = .ok (.ifCond .lt 20, 3) := by decide +kernel
theorem d_L_frame_4 : decode b_L_frame 4 = .ok (.iload_n 1, 1) := by decide +kernel
theorem d_L_frame_5 : decode b_L_frame 5 = .ok (.aload_n 0, 1) := by decide +kernel
theorem d_L_frame_6 : decode b_L_frame 6 = .ok (.getfield 17, 3) := by decide +kernel
theorem d_L_frame_9 : decode b_L_frame 9 = .ok (.getfield 169, 3) := by decide +kernel
theorem d_L_frame_12 : decode b_L_frame 12 = .ok (.if_icmp .ge 9, 3) := by decide +kernel
theorem d_L_frame_15 : decode b_L_frame 15 = .ok (.iload_n 1, 1) := by decide +kernel
theorem d_L_frame_16 : decode b_L_frame 16 = .ok (.bipush 60, 2) := by decide +kernel
theorem d_L_frame_18 : decode b_L_frame 18 = .ok (.if_icmp .lt 5, 3) := by decide +kernel
theorem d_L_frame_21 : decode b_L_frame 21 = .ok (.iconst (-1), 1) := by decide +kernel
theorem d_L_frame_22 : decode b_L_frame 22 = .ok (.ireturn, 1) := by decide +kernel
theorem d_L_frame_23 : decode b_L_frame 23 = .ok (.aload_n 0, 1) := by decide +kernel
theorem d_L_frame_24 : decode b_L_frame 24 = .ok (.getfield 17, 3) := by decide +kernel
theorem d_L_frame_27 : decode b_L_frame 27 = .ok (.getfield 172, 3) := by decide +kernel
theorem d_L_frame_30 : decode b_L_frame 30 = .ok (.iload_n 1, 1) := by decide +kernel
theorem d_L_frame_31 : decode b_L_frame 31 = .ok (.aaload, 1) := by decide +kernel
theorem d_L_frame_32 : decode b_L_frame 32 = .ok (.astore_n 3, 1) := by decide +kernel
theorem d_L_frame_33 : decode b_L_frame 33 = .ok (.iload_n 2, 1) := by decide +kernel
theorem d_L_frame_34 : decode b_L_frame 34 = .ok (.tableswitch 76 (-6) (-1) #[71, 66, 61, 56, 51, 38], 38) := by decide +kernel
theorem d_L_frame_72 : decode b_L_frame 72 = .ok (.aload_n 3, 1) := by decide +kernel
theorem d_L_frame_73 : decode b_L_frame 73 = .ok (.getfield 176, 3) := by decide +kernel
theorem d_L_frame_76 : decode b_L_frame 76 = .ok (.aload_n 0, 1) := by decide +kernel
theorem d_L_frame_77 : decode b_L_frame 77 = .ok (.getfield 17, 3) := by decide +kernel
theorem d_L_frame_80 : decode b_L_frame 80 = .ok (.getfield 118, 3) := by decide +kernel
theorem d_L_frame_83 : decode b_L_frame 83 = .ok (.isub, 1) := by decide +kernel
theorem d_L_frame_84 : decode b_L_frame 84 = .ok (.ireturn, 1) := by decide +kernel
theorem d_L_frame_85 : decode b_L_frame 85 = .ok (.aload_n 3, 1) := by decide +kernel
theorem d_L_frame_86 : decode b_L_frame 86 = .ok (.getfield 145, 3) := by decide +kernel
theorem d_L_frame_89 : decode b_L_frame 89 = .ok (.ireturn, 1) := by decide +kernel
theorem d_L_frame_90 : decode b_L_frame 90 = .ok (.aload_n 3, 1) := by decide +kernel
theorem d_L_frame_91 : decode b_L_frame 91 = .ok (.getfield 148, 3) := by decide +kernel
theorem d_L_frame_94 : decode b_L_frame 94 = .ok (.ireturn, 1) := by decide +kernel
theorem d_L_frame_95 : decode b_L_frame 95 = .ok (.aload_n 3, 1) := by decide +kernel
theorem d_L_frame_96 : decode b_L_frame 96 = .ok (.getfield 179, 3) := by decide +kernel
theorem d_L_frame_99 : decode b_L_frame 99 = .ok (.ireturn, 1) := by decide +kernel
theorem d_L_frame_100 : decode b_L_frame 100 = .ok (.aload_n 3, 1) := by decide +kernel
theorem d_L_frame_101 : decode b_L_frame 101 = .ok (.getfield 136, 3) := by decide +kernel
theorem d_L_frame_104 : decode b_L_frame 104 = .ok (.ireturn, 1) := by decide +kernel
theorem d_L_frame_105 : decode b_L_frame 105 = .ok (.aload_n 3, 1) := by decide +kernel
theorem d_L_frame_106 : decode b_L_frame 106 = .ok (.getfield 182, 3) := by decide +kernel
theorem d_L_frame_109 : decode b_L_frame 109 = .ok (.ireturn, 1) := by decide +kernel
theorem d_L_frame_110 : decode b_L_frame 110 = .ok (.aload_n 3, 1) := by decide +kernel
theorem d_L_frame_111 : decode b_L_frame 111 = .ok (.iload_n 2, 1) := by decide +kernel
theorem d_L_frame_112 : decode b_L_frame 112 = .ok (.invokevirtual 185, 3) := by decide +kernel
theorem d_L_frame_115 : decode b_L_frame 115 = .ok (.ireturn, 1) := by decide +kernel
theorem d_L_isRouter_0 : decode b_L_isRouter 0 = .ok (.iload_n 0, 1) := by decide +kernel
theorem d_L_isRouter_1 : decode b_L_isRouter 1 = .ok (.ifCond .lt 12, 3) := by decide +kernel
theorem d_L_isRouter_4 : decode b_L_isRouter 4 = .ok (.iload_n 0, 1) := by decide +kernel
theorem d_L_isRouter_5 : decode b_L_isRouter 5 = .ok (.iconst 5, 1) := by decide +kernel
theorem d_L_isRouter_6 : decode b_L_isRouter 6 = .ok (.if_icmp .ge 7, 3) := by decide +kernel
theorem d_L_isRouter_9 : decode b_L_isRouter 9 = .ok (.iconst 1, 1) := by decide +kernel
theorem d_L_isRouter_10 : decode b_L_isRouter 10 = .ok (.goto 4, 3) := by decide +kernel
theorem d_L_isRouter_13 : decode b_L_isRouter 13 = .ok (.iconst 0, 1) := by decide +kernel
theorem d_L_isRouter_14 : decode b_L_isRouter 14 = .ok (.ireturn, 1) := by decide +kernel
theorem d_L_isRate_0 : decode b_L_isRate 0 = .ok (.iload_n 0, 1) := by decide +kernel
theorem d_L_isRate_1 : decode b_L_isRate 1 = .ok (.iconst 1, 1) := by decide +kernel
theorem d_L_isRate_2 : decode b_L_isRate 2 = .ok (.if_icmp .lt 14, 3) := by decide +kernel
theorem d_L_isRate_5 : decode b_L_isRate 5 = .ok (.iload_n 0, 1) := by decide +kernel
theorem d_L_isRate_6 : decode b_L_isRate 6 = .ok (.sipush 1000, 3) := by decide +kernel
theorem d_L_isRate_9 : decode b_L_isRate 9 = .ok (.if_icmp .gt 7, 3) := by decide +kernel
theorem d_L_isRate_12 : decode b_L_isRate 12 = .ok (.iconst 1, 1) := by decide +kernel
theorem d_L_isRate_13 : decode b_L_isRate 13 = .ok (.goto 4, 3) := by decide +kernel
theorem d_L_isRate_16 : decode b_L_isRate 16 = .ok (.iconst 0, 1) := by decide +kernel
theorem d_L_isRate_17 : decode b_L_isRate 17 = .ok (.ireturn, 1) := by decide +kernel
theorem d_L_handOut_0 : decode b_L_handOut 0 = .ok (.iconst 0, 1) := by decide +kernel
theorem d_L_handOut_1 : decode b_L_handOut 1 = .ok (.istore_n 2, 1) := by decide +kernel
theorem d_L_handOut_2 : decode b_L_handOut 2 = .ok (.iload_n 2, 1) := by decide +kernel
theorem d_L_handOut_3 : decode b_L_handOut 3 = .ok (.iconst 5, 1) := by decide +kernel
theorem d_L_handOut_4 : decode b_L_handOut 4 = .ok (.if_icmp .ge 44, 3) := by decide +kernel
theorem d_L_handOut_7 : decode b_L_handOut 7 = .ok (.aload_n 1, 1) := by decide +kernel
theorem d_L_handOut_8 : decode b_L_handOut 8 = .ok (.getfield 182, 3) := by decide +kernel
theorem d_L_handOut_11 : decode b_L_handOut 11 = .ok (.iload_n 2, 1) := by decide +kernel
theorem d_L_handOut_12 : decode b_L_handOut 12 = .ok (.ishr, 1) := by decide +kernel
theorem d_L_handOut_13 : decode b_L_handOut 13 = .ok (.iconst 1, 1) := by decide +kernel
theorem d_L_handOut_14 : decode b_L_handOut 14 = .ok (.iand, 1) := by decide +kernel
theorem d_L_handOut_15 : decode b_L_handOut 15 = .ok (.ifCond .eq 27, 3) := by decide +kernel
theorem d_L_handOut_18 : decode b_L_handOut 18 = .ok (.aload_n 0, 1) := by decide +kernel
theorem d_L_handOut_19 : decode b_L_handOut 19 = .ok (.getfield 21, 3) := by decide +kernel
theorem d_L_handOut_22 : decode b_L_handOut 22 = .ok (.iload_n 2, 1) := by decide +kernel
theorem d_L_handOut_23 : decode b_L_handOut 23 = .ok (.aaload, 1) := by decide +kernel
theorem d_L_handOut_24 : decode b_L_handOut 24 = .ok (.aload_n 1, 1) := by decide +kernel
theorem d_L_handOut_25 : decode b_L_handOut 25 = .ok (.invokevirtual 188, 3) := by decide +kernel
theorem d_L_handOut_28 : decode b_L_handOut 28 = .ok (.ifCond .eq 14, 3) := by decide +kernel
theorem d_L_handOut_31 : decode b_L_handOut 31 = .ok (.aload_n 0, 1) := by decide +kernel
theorem d_L_handOut_32 : decode b_L_handOut 32 = .ok (.getfield 21, 3) := by decide +kernel
theorem d_L_handOut_35 : decode b_L_handOut 35 = .ok (.iload_n 2, 1) := by decide +kernel
theorem d_L_handOut_36 : decode b_L_handOut 36 = .ok (.aaload, 1) := by decide +kernel
theorem d_L_handOut_37 : decode b_L_handOut 37 = .ok (.aload_n 1, 1) := by decide +kernel
theorem d_L_handOut_38 : decode b_L_handOut 38 = .ok (.invokevirtual 157, 3) := by decide +kernel
theorem d_L_handOut_41 : decode b_L_handOut 41 = .ok (.pop, 1) := by decide +kernel
theorem d_L_handOut_42 : decode b_L_handOut 42 = .ok (.iinc 2 1, 3) := by decide +kernel
theorem d_L_handOut_45 : decode b_L_handOut 45 = .ok (.goto (-43), 3) := by decide +kernel
theorem d_L_handOut_48 : decode b_L_handOut 48 = .ok (.return_, 1) := by decide +kernel
