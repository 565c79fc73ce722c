theorem dX4_comeOn_95 : decode cX4_comeOn 95 = .ok (.iadd, 1) := by decide +kernel
theorem dX4_comeOn_96 : decode cX4_comeOn 96 = .ok (.putfield 36, 3) := by decide +kernel
theorem dX4_comeOn_99 : decode cX4_comeOn 99 = .ok (.iconst 0, 1) := by decide +kernel
theorem dX4_comeOn_100 : decode cX4_comeOn 100 = .ok (.ireturn, 1) := by decide +kernel
theorem dX4_comeOn_101 : decode cX4_comeOn 101 = .ok (.aload_n 0, 1) := by decide +kernel
theorem dX4_comeOn_102 : decode cX4_comeOn 102 = .ok (.getfield 18, 3) := by decide +kernel
theorem dX4_comeOn_105 : decode cX4_comeOn 105 = .ok (.iconst 3, 1) := by decide +kernel
theorem dX4_comeOn_106 : decode cX4_comeOn 106 = .ok (.if_icmp .ne 8, 3) := by decide +kernel
theorem dX4_comeOn_109 : decode cX4_comeOn 109 = .ok (.aload_n 0, 1) := by decide +kernel
theorem dX4_comeOn_110 : decode cX4_comeOn 110 = .ok (.iconst 0, 1) := by decide +kernel
theorem dX4_comeOn_111 : decode cX4_comeOn 111 = .ok (.putfield 30, 3) := by decide +kernel
theorem dX4_comeOn_114 : decode cX4_comeOn 114 = .ok (.aload_n 0, 1) := by decide +kernel
theorem dX4_comeOn_115 : decode cX4_comeOn 115 = .ok (.iconst 0, 1) := by decide +kernel
theorem dX4_comeOn_116 : decode cX4_comeOn 116 = .ok (.putfield 18, 3) := by decide +kernel
theorem dX4_comeOn_119 : decode cX4_comeOn 119 = .ok (.iconst 0, 1) := by decide +kernel
theorem dX4_comeOn_120 : decode cX4_comeOn 120 = .ok (.ireturn, 1) := by decide +kernel
theorem dX4_unload_0 : decode cX4_unload 0 = .ok (.aload_n 0, 1) := by decide +kernel
theorem dX4_unload_1 : decode cX4_unload 1 = .ok (.getfield 24, 3) := by decide +kernel
theorem dX4_unload_4 : decode cX4_unload 4 = .ok (.istore_n 1, 1) := by decide +kernel
theorem dX4_unload_5 : decode cX4_unload 5 = .ok (.aload_n 0, 1) := by decide +kernel
theorem dX4_unload_6 : decode cX4_unload 6 = .ok (.iconst 0, 1) := by decide +kernel
theorem dX4_unload_7 : decode cX4_unload 7 = .ok (.putfield 24, 3) := by decide +kernel
theorem dX4_unload_10 : decode cX4_unload 10 = .ok (.aload_n 0, 1) := by decide +kernel
theorem dX4_unload_11 : decode cX4_unload 11 = .ok (.dup, 1) := by decide +kernel
theorem dX4_unload_12 : decode cX4_unload 12 = .ok (.getfield 33, 3) := by decide +kernel
theorem dX4_unload_15 : decode cX4_unload 15 = .ok (.iload_n 1, 1) := by decide +kernel
theorem dX4_unload_16 : decode cX4_unload 16 = .ok (.iadd, 1) := by decide +kernel
theorem dX4_unload_17 : decode cX4_unload 17 = .ok (.putfield 33, 3) := by decide +kernel
theorem dX4_unload_20 : decode cX4_unload 20 = .ok (.iload_n 1, 1) := by decide +kernel
theorem dX4_unload_21 : decode cX4_unload 21 = .ok (.ireturn, 1) := by decide +kernel
theorem dX4_tell_0 : decode cX4_tell 0 = .ok (.iload_n 1, 1) := by decide +kernel
theorem dX4_tell_1 : decode cX4_tell 1 = .ok (.tableswitch 87 0 7 #[47, 52, 57, 62, 67, 72, 77, 82], 47) := by decide +kernel
theorem dX4_tell_48 : decode cX4_tell 48 = .ok (.aload_n 0, 1) := by decide +kernel
theorem dX4_tell_49 : decode cX4_tell 49 = .ok (.getfield 9, 3) := by decide +kernel
theorem dX4_tell_52 : decode cX4_tell 52 = .ok (.ireturn, 1) := by decide +kernel
theorem dX4_tell_53 : decode cX4_tell 53 = .ok (.aload_n 0, 1) := by decide +kernel
theorem dX4_tell_54 : decode cX4_tell 54 = .ok (.getfield 15, 3) := by decide +kernel
theorem dX4_tell_57 : decode cX4_tell 57 = .ok (.ireturn, 1) := by decide +kernel
theorem dX4_tell_58 : decode cX4_tell 58 = .ok (.aload_n 0, 1) := by decide +kernel
theorem dX4_tell_59 : decode cX4_tell 59 = .ok (.getfield 18, 3) := by decide +kernel
theorem dX4_tell_62 : decode cX4_tell 62 = .ok (.ireturn, 1) := by decide +kernel
theorem dX4_tell_63 : decode cX4_tell 63 = .ok (.aload_n 0, 1) := by decide +kernel
theorem dX4_tell_64 : decode cX4_tell 64 = .ok (.getfield 21, 3) := by decide +kernel
theorem dX4_tell_67 : decode cX4_tell 67 = .ok (.ireturn, 1) := by decide +kernel
theorem dX4_tell_68 : decode cX4_tell 68 = .ok (.aload_n 0, 1) := by decide +kernel
theorem dX4_tell_69 : decode cX4_tell 69 = .ok (.getfield 24, 3) := by decide +kernel
theorem dX4_tell_72 : decode cX4_tell 72 = .ok (.ireturn, 1) := by decide +kernel
theorem dX4_tell_73 : decode cX4_tell 73 = .ok (.aload_n 0, 1) := by decide +kernel
theorem dX4_tell_74 : decode cX4_tell 74 = .ok (.getfield 30, 3) := by decide +kernel
theorem dX4_tell_77 : decode cX4_tell 77 = .ok (.ireturn, 1) := by decide +kernel
theorem dX4_tell_78 : decode cX4_tell 78 = .ok (.aload_n 0, 1) := by decide +kernel
theorem dX4_tell_79 : decode cX4_tell 79 = .ok (.getfield 33, 3) := by decide +kernel
theorem dX4_tell_82 : decode cX4_tell 82 = .ok (.ireturn, 1) := by decide +kernel
theorem dX4_tell_83 : decode cX4_tell 83 = .ok (.aload_n 0, 1) := by decide +kernel
theorem dX4_tell_84 : decode cX4_tell 84 = .ok (.getfield 36, 3) := by decide +kernel
theorem dX4_tell_87 : decode cX4_tell 87 = .ok (.ireturn, 1) := by decide +kernel
theorem dX4_tell_88 : decode cX4_tell 88 = .ok (.ldc 39, 2) := by decide +kernel
theorem dX4_tell_90 : decode cX4_tell 90 = .ok (.ireturn, 1) := by decide +kernel
theorem dX5_init_0 : decode cX5_init 0 = .ok (.aload_n 0, 1) := by decide +kernel
theorem dX5_init_1 : decode cX5_init 1 = .ok (.invokespecial 3, 3) := by decide +kernel
theorem dX5_init_4 : decode cX5_init 4 = .ok (.aload_n 0, 1) := by decide +kernel
theorem dX5_init_5 : decode cX5_init 5 = .ok (.bipush 60, 2) := by decide +kernel
theorem dX5_init_7 : decode cX5_init 7 = .ok (.newarray .char, 2) := by decide +kernel
theorem dX5_init_9 : decode cX5_init 9 = .ok (.putfield 9, 3) := by decide +kernel
theorem dX5_init_12 : decode cX5_init 12 = .ok (.aload_n 0, 1) := by decide +kernel
theorem dX5_init_13 : decode cX5_init 13 = .ok (.iconst 3, 1) := by decide +kernel
theorem dX5_init_14 : decode cX5_init 14 = .ok (.newarray .int, 2) := by decide +kernel
theorem dX5_init_16 : decode cX5_init 16 = .ok (.putfield 15, 3) := by decide +kernel
theorem dX5_init_19 : decode cX5_init 19 = .ok (.return_, 1) := by decide +kernel
theorem dX6_init_0 : decode cX6_init 0 = .ok (.aload_n 0, 1) := by decide +kernel
theorem dX6_init_1 : decode cX6_init 1 = .ok (.invokespecial 3, 3) := by decide +kernel
theorem dX6_init_4 : decode cX6_init 4 = .ok (.aload_n 0, 1) := by decide +kernel
theorem dX6_init_5 : decode cX6_init 5 = .ok (.iconst 2, 1) := by decide +kernel
theorem dX6_init_6 : decode cX6_init 6 = .ok (.putfield 9, 3) := by decide +kernel
theorem dX6_init_9 : decode cX6_init 9 = .ok (.aload_n 0, 1) := by decide +kernel
theorem dX6_init_10 : decode cX6_init 10 = .ok (.bipush 100, 2) := by decide +kernel
theorem dX6_init_12 : decode cX6_init 12 = .ok (.putfield 15, 3) := by decide +kernel
theorem dX6_init_15 : decode cX6_init 15 = .ok (.aload_n 0, 1) := by decide +kernel
theorem dX6_init_16 : decode cX6_init 16 = .ok (.iconst 3, 1) := by decide +kernel
theorem dX6_init_17 : decode cX6_init 17 = .ok (.putfield 18, 3) := by decide +kernel
theorem dX6_init_20 : decode cX6_init 20 = .ok (.aload_n 0, 1) := by decide +kernel
theorem dX6_init_21 : decode cX6_init 21 = .ok (.bipush 10, 2) := by decide +kernel
theorem dX6_init_23 : decode cX6_init 23 = .ok (.putfield 21, 3) := by decide +kernel
theorem dX6_init_26 : decode cX6_init 26 = .ok (.return_, 1) := by decide +kernel
theorem dX6_copyFrom_0 : decode cX6_copyFrom 0 = .ok (.aload_n 0, 1) := by decide +kernel
theorem dX6_copyFrom_1 : decode cX6_copyFrom 1 = .ok (.aload_n 1, 1) := by decide +kernel
theorem dX6_copyFrom_2 : decode cX6_copyFrom 2 = .ok (.getfield 9, 3) := by decide +kernel
theorem dX6_copyFrom_5 : decode cX6_copyFrom 5 = .ok (.putfield 9, 3) := by decide +kernel
theorem dX6_copyFrom_8 : decode cX6_copyFrom 8 = .ok (.aload_n 0, 1) := by decide +kernel
theorem dX6_copyFrom_9 : decode cX6_copyFrom 9 = .ok (.aload_n 1, 1) := by decide +kernel
theorem dX6_copyFrom_10 : decode cX6_copyFrom 10 = .ok (.getfield 15, 3) := by decide +kernel
theorem dX6_copyFrom_13 : decode cX6_copyFrom 13 = .ok (.putfield 15, 3) := by decide +kernel
theorem dX6_copyFrom_16 : decode cX6_copyFrom 16 = .ok (.aload_n 0, 1) := by decide +kernel
theorem dX6_copyFrom_17 : decode cX6_copyFrom 17 = .ok (.aload_n 1, 1) := by decide +kernel
theorem dX6_copyFrom_18 : decode cX6_copyFrom 18 = .ok (.getfield 18, 3) := by decide +kernel
theorem dX6_copyFrom_21 : decode cX6_copyFrom 21 = .ok (.putfield 18, 3) := by decide +kernel
theorem dX6_copyFrom_24 : decode cX6_copyFrom 24 = .ok (.aload_n 0, 1) := by decide +kernel
theorem dX6_copyFrom_25 : decode cX6_copyFrom 25 = .ok (.aload_n 1, 1) := by decide +kernel
theorem dX6_copyFrom_26 : decode cX6_copyFrom 26 = .ok (.getfield 21, 3) := by decide +kernel
theorem dX6_copyFrom_29 : decode cX6_copyFrom 29 = .ok (.putfield 21, 3) := by decide +kernel
theorem dX6_copyFrom_32 : decode cX6_copyFrom 32 = .ok (.return_, 1) := by decide +kernel
theorem dX6_tell_0 : decode cX6_tell 0 = .ok (.iload_n 1, 1) := by decide +kernel
theorem dX6_tell_1 : decode cX6_tell 1 = .ok (.tableswitch 51 0 3 #[31, 36, 41, 46], 31) := by decide +kernel
theorem dX6_tell_32 : decode cX6_tell 32 = .ok (.aload_n 0, 1) := by decide +kernel
theorem dX6_tell_33 : decode cX6_tell 33 = .ok (.getfield 9, 3) := by decide +kernel
theorem dX6_tell_36 : decode cX6_tell 36 = .ok (.ireturn, 1) := by decide +kernel
theorem dX6_tell_37 : decode cX6_tell 37 = .ok (.aload_n 0, 1) := by decide +kernel
theorem dX6_tell_38 : decode cX6_tell 38 = .ok (.getfield 15, 3) := by decide +kernel
theorem dX6_tell_41 : decode cX6_tell 41 = .ok (.ireturn, 1) := by decide +kernel
theorem dX6_tell_42 : decode cX6_tell 42 = .ok (.aload_n 0, 1) := by decide +kernel
theorem dX6_tell_43 : decode cX6_tell 43 = .ok (.getfield 18, 3) := by decide +kernel
theorem dX6_tell_46 : decode cX6_tell 46 = .ok (.ireturn, 1) := by decide +kernel
theorem dX6_tell_47 : decode cX6_tell 47 = .ok (.aload_n 0, 1) := by decide +kernel
theorem dX6_tell_48 : decode cX6_tell 48 = .ok (.getfield 21, 3) := by decide +kernel
theorem dX6_tell_51 : decode cX6_tell 51 = .ok (.ireturn, 1) := by decide +kernel
theorem dX6_tell_52 : decode cX6_tell 52 = .ok (.ldc 24, 2) := by decide +kernel
theorem dX6_tell_54 : decode cX6_tell 54 = .ok (.ireturn, 1) := by decide +kernel
theorem dX6_change_0 : decode cX6_change 0 = .ok (.iload_n 1, 1) := by decide +kernel
theorem dX6_change_1 : decode cX6_change 1 = .ok (.ifCond .lt 36, 3) := by decide +kernel
theorem dX6_change_4 : decode cX6_change 4 = .ok (.iload_n 1, 1) := by decide +kernel
theorem dX6_change_5 : decode cX6_change 5 = .ok (.getstatic 25, 3) := by decide +kernel
theorem dX6_change_8 : decode cX6_change 8 = .ok (.arraylength, 1) := by decide +kernel
theorem dX6_change_9 : decode cX6_change 9 = .ok (.if_icmp .ge 28, 3) := by decide +kernel
theorem dX6_change_12 : decode cX6_change 12 = .ok (.iload_n 1, 1) := by decide +kernel
theorem dX6_change_13 : decode cX6_change 13 = .ok (.getstatic 29, 3) := by decide +kernel
theorem dX6_change_16 : decode cX6_change 16 = .ok (.arraylength, 1) := by decide +kernel
theorem dX6_change_17 : decode cX6_change 17 = .ok (.if_icmp .ge 20, 3) := by decide +kernel
theorem dX6_change_20 : decode cX6_change 20 = .ok (.iload_n 2, 1) := by decide +kernel
theorem dX6_change_21 : decode cX6_change 21 = .ok (.getstatic 25, 3) := by decide +kernel
theorem dX6_change_24 : decode cX6_change 24 = .ok (.iload_n 1, 1) := by decide +kernel
theorem dX6_change_25 : decode cX6_change 25 = .ok (.iaload, 1) := by decide +kernel
theorem dX6_change_26 : decode cX6_change 26 = .ok (.getstatic 29, 3) := by decide +kernel
theorem dX6_change_29 : decode cX6_change 29 = .ok (.iload_n 1, 1) := by decide +kernel
theorem dX6_change_30 : decode cX6_change 30 = .ok (.iaload, 1) := by decide +kernel
theorem dX6_change_31 : decode cX6_change 31 = .ok (.invokestatic 32, 3) := by decide +kernel
theorem dX6_change_34 : decode cX6_change 34 = .ok (.ifCond .ne 6, 3) := by decide +kernel
theorem dX6_change_37 : decode cX6_change 37 = .ok (.ldc 24, 2) := by decide +kernel
theorem dX6_change_39 : decode cX6_change 39 = .ok (.ireturn, 1) := by decide +kernel
theorem dX6_change_40 : decode cX6_change 40 = .ok (.aload_n 0, 1) := by decide +kernel
theorem dX6_change_41 : decode cX6_change 41 = .ok (.iload_n 1, 1) := by decide +kernel
theorem dX6_change_42 : decode cX6_change 42 = .ok (.invokevirtual 36, 3) := by decide +kernel
theorem dX6_change_45 : decode cX6_change 45 = .ok (.istore_n 3, 1) := by decide +kernel
theorem dX6_change_46 : decode cX6_change 46 = .ok (.iload_n 1, 1) := by decide +kernel
theorem dX6_change_47 : decode cX6_change 47 = .ok (.tableswitch 49 0 2 #[25, 33, 41], 25) := by decide +kernel
theorem dX6_change_72 : decode cX6_change 72 = .ok (.aload_n 0, 1) := by decide +kernel
theorem dX6_change_73 : decode cX6_change 73 = .ok (.iload_n 2, 1) := by decide +kernel
theorem dX6_change_74 : decode cX6_change 74 = .ok (.putfield 9, 3) := by decide +kernel
theorem dX6_change_77 : decode cX6_change 77 = .ok (.goto 24, 3) := by decide +kernel
theorem dX6_change_80 : decode cX6_change 80 = .ok (.aload_n 0, 1) := by decide +kernel
theorem dX6_change_81 : decode cX6_change 81 = .ok (.iload_n 2, 1) := by decide +kernel
theorem dX6_change_82 : decode cX6_change 82 = .ok (.putfield 15, 3) := by decide +kernel
theorem dX6_change_85 : decode cX6_change 85 = .ok (.goto 16, 3) := by decide +kernel
theorem dX6_change_88 : decode cX6_change 88 = .ok (.aload_n 0, 1) := by decide +kernel
theorem dX6_change_89 : decode cX6_change 89 = .ok (.iload_n 2, 1) := by decide +kernel
theorem dX6_change_90 : decode cX6_change 90 = .ok (.putfield 18, 3) := by decide +kernel
theorem dX6_change_93 : decode cX6_change 93 = .ok (.goto 8, 3) := by decide +kernel
theorem dX6_change_96 : decode cX6_change 96 = .ok (.aload_n 0, 1) := by decide +kernel
theorem dX6_change_97 : decode cX6_change 97 = .ok (.iload_n 2, 1) := by decide +kernel
theorem dX6_change_98 : decode cX6_change 98 = .ok (.putfield 21, 3) := by decide +kernel
theorem dX6_change_101 : decode cX6_change 101 = .ok (.iload_n 3, 1) := by decide +kernel
theorem dX6_change_102 : decode cX6_change 102 = .ok (.ireturn, 1) := by decide +kernel
theorem dX7_init_0 : decode cX7_init 0 = .ok (.aload_n 0, 1) := by decide +kernel
theorem dX7_init_1 : decode cX7_init 1 = .ok (.invokespecial 3, 3) := by decide +kernel
theorem dX7_init_4 : decode cX7_init 4 = .ok (.aload_n 0, 1) := by decide +kernel
theorem dX7_init_5 : decode cX7_init 5 = .ok (.bipush 21, 2) := by decide +kernel
theorem dX7_init_7 : decode cX7_init 7 = .ok (.newarray .int, 2) := by decide +kernel
theorem dX7_init_9 : decode cX7_init 9 = .ok (.putfield 9, 3) := by decide +kernel
theorem dX7_init_12 : decode cX7_init 12 = .ok (.return_, 1) := by decide +kernel
theorem dX7_copyFrom_0 : decode cX7_copyFrom 0 = .ok (.iconst 0, 1) := by decide +kernel
theorem dX7_copyFrom_1 : decode cX7_copyFrom 1 = .ok (.istore_n 2, 1) := by decide +kernel
theorem dX7_copyFrom_2 : decode cX7_copyFrom 2 = .ok (.iload_n 2, 1) := by decide +kernel
theorem dX7_copyFrom_3 : decode cX7_copyFrom 3 = .ok (.aload_n 0, 1) := by decide +kernel
theorem dX7_copyFrom_4 : decode cX7_copyFrom 4 = .ok (.getfield 9, 3) := by decide +kernel
theorem dX7_copyFrom_7 : decode cX7_copyFrom 7 = .ok (.arraylength, 1) := by decide +kernel
theorem dX7_copyFrom_8 : decode cX7_copyFrom 8 = .ok (.if_icmp .ge 30, 3) := by decide +kernel
theorem dX7_copyFrom_11 : decode cX7_copyFrom 11 = .ok (.iload_n 2, 1) := by decide +kernel
theorem dX7_copyFrom_12 : decode cX7_copyFrom 12 = .ok (.aload_n 1, 1) := by decide +kernel
theorem dX7_copyFrom_13 : decode cX7_copyFrom 13 = .ok (.getfield 9, 3) := by decide +kernel
theorem dX7_copyFrom_16 : decode cX7_copyFrom 16 = .ok (.arraylength, 1) := by decide +kernel
theorem dX7_copyFrom_17 : decode cX7_copyFrom 17 = .ok (.if_icmp .ge 21, 3) := by decide +kernel
theorem dX7_copyFrom_20 : decode cX7_copyFrom 20 = .ok (.aload_n 0, 1) := by decide +kernel
theorem dX7_copyFrom_21 : decode cX7_copyFrom 21 = .ok (.getfield 9, 3) := by decide +kernel
theorem dX7_copyFrom_24 : decode cX7_copyFrom 24 = .ok (.iload_n 2, 1) := by decide +kernel
theorem dX7_copyFrom_25 : decode cX7_copyFrom 25 = .ok (.aload_n 1, 1) := by decide +kernel
theorem dX7_copyFrom_26 : decode cX7_copyFrom 26 = .ok (.getfield 9, 3) := by decide +kernel
theorem dX7_copyFrom_29 : decode cX7_copyFrom 29 = .ok (.iload_n 2, 1) := by decide +kernel
theorem dX7_copyFrom_30 : decode cX7_copyFrom 30 = .ok (.iaload, 1) := by decide +kernel
theorem dX7_copyFrom_31 : decode cX7_copyFrom 31 = .ok (.iastore, 1) := by decide +kernel
theorem dX7_copyFrom_32 : decode cX7_copyFrom 32 = .ok (.iinc 2 1, 3) := by decide +kernel
theorem dX7_copyFrom_35 : decode cX7_copyFrom 35 = .ok (.goto (-33), 3) := by decide +kernel
theorem dX7_copyFrom_38 : decode cX7_copyFrom 38 = .ok (.return_, 1) := by decide +kernel
theorem dX7_howMany_0 : decode cX7_howMany 0 = .ok (.iconst 0, 1) := by decide +kernel
theorem dX7_howMany_1 : decode cX7_howMany 1 = .ok (.istore_n 3, 1) := by decide +kernel
theorem dX7_howMany_2 : decode cX7_howMany 2 = .ok (.iconst 0, 1) := by decide +kernel
theorem dX7_howMany_3 : decode cX7_howMany 3 = .ok (.istore 4, 2) := by decide +kernel
theorem dX7_howMany_5 : decode cX7_howMany 5 = .ok (.iload 4, 2) := by decide +kernel
theorem dX7_howMany_7 : decode cX7_howMany 7 = .ok (.aload_n 0, 1) := by decide +kernel
theorem dX7_howMany_8 : decode cX7_howMany 8 = .ok (.getfield 9, 3) := by decide +kernel
theorem dX7_howMany_11 : decode cX7_howMany 11 = .ok (.arraylength, 1) := by decide +kernel
theorem dX7_howMany_12 : decode cX7_howMany 12 = .ok (.if_icmp .ge 31, 3) := by decide +kernel
theorem dX7_howMany_15 : decode cX7_howMany 15 = .ok (.iload 4, 2) := by decide +kernel
theorem dX7_howMany_17 : decode cX7_howMany 17 = .ok (.iload_n 1, 1) := by decide +kernel
theorem dX7_howMany_18 : decode cX7_howMany 18 = .ok (.if_icmp .lt 19, 3) := by decide +kernel
theorem dX7_howMany_21 : decode cX7_howMany 21 = .ok (.iload 4, 2) := by decide +kernel
theorem dX7_howMany_23 : decode cX7_howMany 23 = .ok (.iload_n 2, 1) := by decide +kernel
theorem dX7_howMany_24 : decode cX7_howMany 24 = .ok (.if_icmp .gt 13, 3) := by decide +kernel
theorem dX7_howMany_27 : decode cX7_howMany 27 = .ok (.iload_n 3, 1) := by decide +kernel
theorem dX7_howMany_28 : decode cX7_howMany 28 = .ok (.aload_n 0, 1) := by decide +kernel
theorem dX7_howMany_29 : decode cX7_howMany 29 = .ok (.getfield 9, 3) := by decide +kernel
theorem dX7_howMany_32 : decode cX7_howMany 32 = .ok (.iload 4, 2) := by decide +kernel
theorem dX7_howMany_34 : decode cX7_howMany 34 = .ok (.iaload, 1) := by decide +kernel
theorem dX7_howMany_35 : decode cX7_howMany 35 = .ok (.iadd, 1) := by decide +kernel
theorem dX7_howMany_36 : decode cX7_howMany 36 = .ok (.istore_n 3, 1) := by decide +kernel
theorem dX7_howMany_37 : decode cX7_howMany 37 = .ok (.iinc 4 1, 3) := by decide +kernel
theorem dX7_howMany_40 : decode cX7_howMany 40 = .ok (.goto (-35), 3) := by decide +kernel
theorem dX7_howMany_43 : decode cX7_howMany 43 = .ok (.iload_n 3, 1) := by decide +kernel
theorem dX7_howMany_44 : decode cX7_howMany 44 = .ok (.ireturn, 1) := by decide +kernel
theorem dX7_store_0 : decode cX7_store 0 = .ok (.iload_n 1, 1) := by decide +kernel
theorem dX7_store_1 : decode cX7_store 1 = .ok (.ifCond .lt 22, 3) := by decide +kernel
theorem dX7_store_4 : decode cX7_store 4 = .ok (.iload_n 1, 1) := by decide +kernel
theorem dX7_store_5 : decode cX7_store 5 = .ok (.aload_n 0, 1) := by decide +kernel
theorem dX7_store_6 : decode cX7_store 6 = .ok (.getfield 9, 3) := by decide +kernel
theorem dX7_store_9 : decode cX7_store 9 = .ok (.arraylength, 1) := by decide +kernel
theorem dX7_store_10 : decode cX7_store 10 = .ok (.if_icmp .ge 13, 3) := by decide +kernel
theorem dX7_store_13 : decode cX7_store 13 = .ok (.aload_n 0, 1) := by decide +kernel
theorem dX7_store_14 : decode cX7_store 14 = .ok (.getfield 9, 3) := by decide +kernel
theorem dX7_store_17 : decode cX7_store 17 = .ok (.iload_n 1, 1) := by decide +kernel
theorem dX7_store_18 : decode cX7_store 18 = .ok (.dup2, 1) := by decide +kernel
theorem dX7_store_19 : decode cX7_store 19 = .ok (.iaload, 1) := by decide +kernel
theorem dX7_store_20 : decode cX7_store 20 = .ok (.iload_n 2, 1) := by decide +kernel
theorem dX7_store_21 : decode cX7_store 21 = .ok (.iadd, 1) := by decide +kernel
theorem dX7_store_22 : decode cX7_store 22 = .ok (.iastore, 1) := by decide +kernel
theorem dX7_store_23 : decode cX7_store 23 = .ok (.return_, 1) := by decide +kernel
theorem dX7_take_0 : decode cX7_take 0 = .ok (.iload_n 3, 1) := by decide +kernel
theorem dX7_take_1 : decode cX7_take 1 = .ok (.istore 4, 2) := by decide +kernel
theorem dX7_take_3 : decode cX7_take 3 = .ok (.aload_n 0, 1) := by decide +kernel
theorem dX7_take_4 : decode cX7_take 4 = .ok (.getfield 9, 3) := by decide +kernel
theorem dX7_take_7 : decode cX7_take 7 = .ok (.arraylength, 1) := by decide +kernel
theorem dX7_take_8 : decode cX7_take 8 = .ok (.iconst 1, 1) := by decide +kernel
theorem dX7_take_9 : decode cX7_take 9 = .ok (.isub, 1) := by decide +kernel
theorem dX7_take_10 : decode cX7_take 10 = .ok (.istore 5, 2) := by decide +kernel
theorem dX7_take_12 : decode cX7_take 12 = .ok (.iload 5, 2) := by decide +kernel
theorem dX7_take_14 : decode cX7_take 14 = .ok (.ifCond .lt 66, 3) := by decide +kernel
theorem dX7_take_17 : decode cX7_take 17 = .ok (.iload 5, 2) := by decide +kernel
theorem dX7_take_19 : decode cX7_take 19 = .ok (.iload_n 1, 1) := by decide +kernel
theorem dX7_take_20 : decode cX7_take 20 = .ok (.if_icmp .lt 54, 3) := by decide +kernel
theorem dX7_take_23 : decode cX7_take 23 = .ok (.iload 5, 2) := by decide +kernel
theorem dX7_take_25 : decode cX7_take 25 = .ok (.iload_n 2, 1) := by decide +kernel
theorem dX7_take_26 : decode cX7_take 26 = .ok (.if_icmp .gt 48, 3) := by decide +kernel
theorem dX7_take_29 : decode cX7_take 29 = .ok (.iload 4, 2) := by decide +kernel
theorem dX7_take_31 : decode cX7_take 31 = .ok (.aload_n 0, 1) := by decide +kernel
theorem dX7_take_32 : decode cX7_take 32 = .ok (.getfield 9, 3) := by decide +kernel
theorem dX7_take_35 : decode cX7_take 35 = .ok (.iload 5, 2) := by decide +kernel
theorem dX7_take_37 : decode cX7_take 37 = .ok (.iaload, 1) := by decide +kernel
theorem dX7_take_38 : decode cX7_take 38 = .ok (.if_icmp .ge 8, 3) := by decide +kernel
theorem dX7_take_41 : decode cX7_take 41 = .ok (.iload 4, 2) := by decide +kernel
theorem dX7_take_43 : decode cX7_take 43 = .ok (.goto 10, 3) := by decide +kernel
theorem dX7_take_46 : decode cX7_take 46 = .ok (.aload_n 0, 1) := by decide +kernel
theorem dX7_take_47 : decode cX7_take 47 = .ok (.getfield 9, 3) := by decide +kernel
theorem dX7_take_50 : decode cX7_take 50 = .ok (.iload 5, 2) := by decide +kernel
theorem dX7_take_52 : decode cX7_take 52 = .ok (.iaload, 1) := by decide +kernel
theorem dX7_take_53 : decode cX7_take 53 = .ok (.istore 6, 2) := by decide +kernel
theorem dX7_take_55 : decode cX7_take 55 = .ok (.aload_n 0, 1) := by decide +kernel
theorem dX7_take_56 : decode cX7_take 56 = .ok (.getfield 9, 3) := by decide +kernel
theorem dX7_take_59 : decode cX7_take 59 = .ok (.iload 5, 2) := by decide +kernel
theorem dX7_take_61 : decode cX7_take 61 = .ok (.dup2, 1) := by decide +kernel
theorem dX7_take_62 : decode cX7_take 62 = .ok (.iaload, 1) := by decide +kernel
theorem dX7_take_63 : decode cX7_take 63 = .ok (.iload 6, 2) := by decide +kernel
theorem dX7_take_65 : decode cX7_take 65 = .ok (.isub, 1) := by decide +kernel
theorem dX7_take_66 : decode cX7_take 66 = .ok (.iastore, 1) := by decide +kernel
theorem dX7_take_67 : decode cX7_take 67 = .ok (.iload 4, 2) := by decide +kernel
theorem dX7_take_69 : decode cX7_take 69 = .ok (.iload 6, 2) := by decide +kernel
theorem dX7_take_71 : decode cX7_take 71 = .ok (.isub, 1) := by decide +kernel
theorem dX7_take_72 : decode cX7_take 72 = .ok (.istore 4, 2) := by decide +kernel
theorem dX7_take_74 : decode cX7_take 74 = .ok (.iinc 5 (-1), 3) := by decide +kernel
theorem dX7_take_77 : decode cX7_take 77 = .ok (.goto (-65), 3) := by decide +kernel
theorem dX7_take_80 : decode cX7_take 80 = .ok (.iload_n 3, 1) := by decide +kernel
theorem dX7_take_81 : decode cX7_take 81 = .ok (.iload 4, 2) := by decide +kernel
theorem dX7_take_83 : decode cX7_take 83 = .ok (.isub, 1) := by decide +kernel
theorem dX7_take_84 : decode cX7_take 84 = .ok (.ireturn, 1) := by decide +kernel
theorem dX7_growOlder_0 : decode cX7_growOlder 0 = .ok (.iconst 0, 1) := by decide +kernel
theorem dX7_growOlder_1 : decode cX7_growOlder 1 = .ok (.istore_n 1, 1) := by decide +kernel
theorem dX7_growOlder_2 : decode cX7_growOlder 2 = .ok (.iconst 0, 1) := by decide +kernel
theorem dX7_growOlder_3 : decode cX7_growOlder 3 = .ok (.istore_n 2, 1) := by decide +kernel
theorem dX7_growOlder_4 : decode cX7_growOlder 4 = .ok (.iload_n 2, 1) := by decide +kernel
theorem dX7_growOlder_5 : decode cX7_growOlder 5 = .ok (.aload_n 0, 1) := by decide +kernel
theorem dX7_growOlder_6 : decode cX7_growOlder 6 = .ok (.getfield 9, 3) := by decide +kernel
theorem dX7_growOlder_9 : decode cX7_growOlder 9 = .ok (.arraylength, 1) := by decide +kernel
theorem dX7_growOlder_10 : decode cX7_growOlder 10 = .ok (.if_icmp .ge 25, 3) := by decide +kernel
theorem dX7_growOlder_13 : decode cX7_growOlder 13 = .ok (.iload_n 1, 1) := by decide +kernel
theorem dX7_growOlder_14 : decode cX7_growOlder 14 = .ok (.istore_n 3, 1) := by decide +kernel
theorem dX7_growOlder_15 : decode cX7_growOlder 15 = .ok (.aload_n 0, 1) := by decide +kernel
theorem dX7_growOlder_16 : decode cX7_growOlder 16 = .ok (.getfield 9, 3) := by decide +kernel
theorem dX7_growOlder_19 : decode cX7_growOlder 19 = .ok (.iload_n 2, 1) := by decide +kernel
theorem dX7_growOlder_20 : decode cX7_growOlder 20 = .ok (.iaload, 1) := by decide +kernel
theorem dX7_growOlder_21 : decode cX7_growOlder 21 = .ok (.istore_n 1, 1) := by decide +kernel
theorem dX7_growOlder_22 : decode cX7_growOlder 22 = .ok (.aload_n 0, 1) := by decide +kernel
theorem dX7_growOlder_23 : decode cX7_growOlder 23 = .ok (.getfield 9, 3) := by decide +kernel
theorem dX7_growOlder_26 : decode cX7_growOlder 26 = .ok (.iload_n 2, 1) := by decide +kernel
theorem dX7_growOlder_27 : decode cX7_growOlder 27 = .ok (.iload_n 3, 1) := by decide +kernel
theorem dX7_growOlder_28 : decode cX7_growOlder 28 = .ok (.iastore, 1) := by decide +kernel
theorem dX7_growOlder_29 : decode cX7_growOlder 29 = .ok (.iinc 2 1, 3) := by decide +kernel
theorem dX7_growOlder_32 : decode cX7_growOlder 32 = .ok (.goto (-28), 3) := by decide +kernel
theorem dX7_growOlder_35 : decode cX7_growOlder 35 = .ok (.iload_n 1, 1) := by decide +kernel
theorem dX7_growOlder_36 : decode cX7_growOlder 36 = .ok (.ireturn, 1) := by decide +kernel
theorem dX8_init_0 : decode cX8_init 0 = .ok (.aload_n 0, 1) := by decide +kernel
theorem dX8_init_1 : decode cX8_init 1 = .ok (.invokespecial 1, 3) := by decide +kernel
theorem dX8_init_4 : decode cX8_init 4 = .ok (.aload_n 0, 1) := by decide +kernel
theorem dX8_init_5 : decode cX8_init 5 = .ok (.new 7, 3) := by decide +kernel
theorem dX8_init_8 : decode cX8_init 8 = .ok (.dup, 1) := by decide +kernel
theorem dX8_init_9 : decode cX8_init 9 = .ok (.invokespecial 9, 3) := by decide +kernel
theorem dX8_init_12 : decode cX8_init 12 = .ok (.putfield 10, 3) := by decide +kernel
theorem dX8_init_15 : decode cX8_init 15 = .ok (.aload_n 0, 1) := by decide +kernel
theorem dX8_init_16 : decode cX8_init 16 = .ok (.new 7, 3) := by decide +kernel
theorem dX8_init_19 : decode cX8_init 19 = .ok (.dup, 1) := by decide +kernel
theorem dX8_init_20 : decode cX8_init 20 = .ok (.invokespecial 9, 3) := by decide +kernel
theorem dX8_init_23 : decode cX8_init 23 = .ok (.putfield 16, 3) := by decide +kernel
theorem dX8_init_26 : decode cX8_init 26 = .ok (.aload_n 0, 1) := by decide +kernel
theorem dX8_init_27 : decode cX8_init 27 = .ok (.new 19, 3) := by decide +kernel
theorem dX8_init_30 : decode cX8_init 30 = .ok (.dup, 1) := by decide +kernel
theorem dX8_init_31 : decode cX8_init 31 = .ok (.invokespecial 21, 3) := by decide +kernel
theorem dX8_init_34 : decode cX8_init 34 = .ok (.putfield 22, 3) := by decide +kernel
theorem dX8_init_37 : decode cX8_init 37 = .ok (.aload_n 0, 1) := by decide +kernel
theorem dX8_init_38 : decode cX8_init 38 = .ok (.new 26, 3) := by decide +kernel
theorem dX8_init_41 : decode cX8_init 41 = .ok (.dup, 1) := by decide +kernel
theorem dX8_init_42 : decode cX8_init 42 = .ok (.invokespecial 28, 3) := by decide +kernel
theorem dX8_init_45 : decode cX8_init 45 = .ok (.putfield 29, 3) := by decide +kernel
theorem dX8_init_48 : decode cX8_init 48 = .ok (.return_, 1) := by decide +kernel
theorem dX8_mule_0 : decode cX8_mule 0 = .ok (.aload_n 0, 1) := by decide +kernel
theorem dX8_mule_1 : decode cX8_mule 1 = .ok (.getfield 16, 3) := by decide +kernel
theorem dX8_mule_4 : decode cX8_mule 4 = .ok (.aload_n 0, 1) := by decide +kernel
theorem dX8_mule_5 : decode cX8_mule 5 = .ok (.getfield 10, 3) := by decide +kernel
theorem dX8_mule_8 : decode cX8_mule 8 = .ok (.invokevirtual 33, 3) := by decide +kernel
theorem dX8_mule_11 : decode cX8_mule 11 = .ok (.aload_n 0, 1) := by decide +kernel
theorem dX8_mule_12 : decode cX8_mule 12 = .ok (.aload_n 0, 1) := by decide +kernel
theorem dX8_mule_13 : decode cX8_mule 13 = .ok (.getfield 16, 3) := by decide +kernel
theorem dX8_mule_16 : decode cX8_mule 16 = .ok (.iload_n 1, 1) := by decide +kernel
theorem dX8_mule_17 : decode cX8_mule 17 = .ok (.iload_n 2, 1) := by decide +kernel
theorem dX8_mule_18 : decode cX8_mule 18 = .ok (.invokevirtual 37, 3) := by decide +kernel
theorem dX8_mule_21 : decode cX8_mule 21 = .ok (.invokevirtual 41, 3) := by decide +kernel
theorem dX8_mule_24 : decode cX8_mule 24 = .ok (.ireturn, 1) := by decide +kernel
theorem dX8_send_0 : decode cX8_send 0 = .ok (.aload_n 0, 1) := by decide +kernel
theorem dX8_send_1 : decode cX8_send 1 = .ok (.getfield 16, 3) := by decide +kernel
theorem dX8_send_4 : decode cX8_send 4 = .ok (.aload_n 0, 1) := by decide +kernel
theorem dX8_send_5 : decode cX8_send 5 = .ok (.getfield 10, 3) := by decide +kernel
theorem dX8_send_8 : decode cX8_send 8 = .ok (.invokevirtual 33, 3) := by decide +kernel
theorem dX8_send_11 : decode cX8_send 11 = .ok (.aload_n 0, 1) := by decide +kernel
theorem dX8_send_12 : decode cX8_send 12 = .ok (.aload_n 0, 1) := by decide +kernel
theorem dX8_send_13 : decode cX8_send 13 = .ok (.getfield 16, 3) := by decide +kernel
theorem dX8_send_16 : decode cX8_send 16 = .ok (.iload_n 1, 1) := by decide +kernel
theorem dX8_send_17 : decode cX8_send 17 = .ok (.iload_n 2, 1) := by decide +kernel
theorem dX8_send_18 : decode cX8_send 18 = .ok (.invokevirtual 45, 3) := by decide +kernel
theorem dX8_send_21 : decode cX8_send 21 = .ok (.invokevirtual 41, 3) := by decide +kernel
theorem dX8_send_24 : decode cX8_send 24 = .ok (.ireturn, 1) := by decide +kernel
theorem dX8_rest_0 : decode cX8_rest 0 = .ok (.aload_n 0, 1) := by decide +kernel
theorem dX8_rest_1 : decode cX8_rest 1 = .ok (.getfield 16, 3) := by decide +kernel
theorem dX8_rest_4 : decode cX8_rest 4 = .ok (.aload_n 0, 1) := by decide +kernel
theorem dX8_rest_5 : decode cX8_rest 5 = .ok (.getfield 10, 3) := by decide +kernel
theorem dX8_rest_8 : decode cX8_rest 8 = .ok (.invokevirtual 33, 3) := by decide +kernel
theorem dX8_rest_11 : decode cX8_rest 11 = .ok (.aload_n 0, 1) := by decide +kernel
theorem dX8_rest_12 : decode cX8_rest 12 = .ok (.aload_n 0, 1) := by decide +kernel
theorem dX8_rest_13 : decode cX8_rest 13 = .ok (.getfield 16, 3) := by decide +kernel
theorem dX8_rest_16 : decode cX8_rest 16 = .ok (.iload_n 1, 1) := by decide +kernel
theorem dX8_rest_17 : decode cX8_rest 17 = .ok (.invokevirtual 48, 3) := by decide +kernel
theorem dX8_rest_20 : decode cX8_rest 20 = .ok (.invokevirtual 41, 3) := by decide +kernel
theorem dX8_rest_23 : decode cX8_rest 23 = .ok (.ireturn, 1) := by decide +kernel
theorem dX8_pay_0 : decode cX8_pay 0 = .ok (.aload_n 0, 1) := by decide +kernel
theorem dX8_pay_1 : decode cX8_pay 1 = .ok (.getfield 16, 3) := by decide +kernel
theorem dX8_pay_4 : decode cX8_pay 4 = .ok (.aload_n 0, 1) := by decide +kernel
theorem dX8_pay_5 : decode cX8_pay 5 = .ok (.getfield 10, 3) := by decide +kernel
theorem dX8_pay_8 : decode cX8_pay 8 = .ok (.invokevirtual 33, 3) := by decide +kernel
theorem dX8_pay_11 : decode cX8_pay 11 = .ok (.aload_n 0, 1) := by decide +kernel
theorem dX8_pay_12 : decode cX8_pay 12 = .ok (.aload_n 0, 1) := by decide +kernel
theorem dX8_pay_13 : decode cX8_pay 13 = .ok (.getfield 16, 3) := by decide +kernel
theorem dX8_pay_16 : decode cX8_pay 16 = .ok (.iload_n 1, 1) := by decide +kernel
theorem dX8_pay_17 : decode cX8_pay 17 = .ok (.invokevirtual 51, 3) := by decide +kernel
theorem dX8_pay_20 : decode cX8_pay 20 = .ok (.invokevirtual 41, 3) := by decide +kernel
theorem dX8_pay_23 : decode cX8_pay 23 = .ok (.ireturn, 1) := by decide +kernel
theorem dX8_group_0 : decode cX8_group 0 = .ok (.aload_n 0, 1) := by decide +kernel
theorem dX8_group_1 : decode cX8_group 1 = .ok (.getfield 16, 3) := by decide +kernel
theorem dX8_group_4 : decode cX8_group 4 = .ok (.aload_n 0, 1) := by decide +kernel
theorem dX8_group_5 : decode cX8_group 5 = .ok (.getfield 10, 3) := by decide +kernel
theorem dX8_group_8 : decode cX8_group 8 = .ok (.invokevirtual 33, 3) := by decide +kernel
theorem dX8_group_11 : decode cX8_group 11 = .ok (.aload_n 0, 1) := by decide +kernel
theorem dX8_group_12 : decode cX8_group 12 = .ok (.aload_n 0, 1) := by decide +kernel
theorem dX8_group_13 : decode cX8_group 13 = .ok (.getfield 16, 3) := by decide +kernel
theorem dX8_group_16 : decode cX8_group 16 = .ok (.iload_n 1, 1) := by decide +kernel
theorem dX8_group_17 : decode cX8_group 17 = .ok (.iload_n 2, 1) := by decide +kernel
theorem dX8_group_18 : decode cX8_group 18 = .ok (.iload_n 3, 1) := by decide +kernel
theorem dX8_group_19 : decode cX8_group 19 = .ok (.invokevirtual 54, 3) := by decide +kernel
theorem dX8_group_22 : decode cX8_group 22 = .ok (.invokevirtual 41, 3) := by decide +kernel
theorem dX8_group_25 : decode cX8_group 25 = .ok (.ireturn, 1) := by decide +kernel
theorem dX8_off_0 : decode cX8_off 0 = .ok (.aload_n 0, 1) := by decide +kernel
theorem dX8_off_1 : decode cX8_off 1 = .ok (.getfield 16, 3) := by decide +kernel
theorem dX8_off_4 : decode cX8_off 4 = .ok (.aload_n 0, 1) := by decide +kernel
theorem dX8_off_5 : decode cX8_off 5 = .ok (.getfield 10, 3) := by decide +kernel
theorem dX8_off_8 : decode cX8_off 8 = .ok (.invokevirtual 33, 3) := by decide +kernel
theorem dX8_off_11 : decode cX8_off 11 = .ok (.aload_n 0, 1) := by decide +kernel
theorem dX8_off_12 : decode cX8_off 12 = .ok (.aload_n 0, 1) := by decide +kernel
theorem dX8_off_13 : decode cX8_off 13 = .ok (.getfield 16, 3) := by decide +kernel
theorem dX8_off_16 : decode cX8_off 16 = .ok (.iload_n 1, 1) := by decide +kernel
theorem dX8_off_17 : decode cX8_off 17 = .ok (.invokevirtual 58, 3) := by decide +kernel
theorem dX8_off_20 : decode cX8_off 20 = .ok (.invokevirtual 41, 3) := by decide +kernel
theorem dX8_off_23 : decode cX8_off 23 = .ok (.ireturn, 1) := by decide +kernel
theorem dX8_end_0 : decode cX8_end 0 = .ok (.aload_n 0, 1) := by decide +kernel
theorem dX8_end_1 : decode cX8_end 1 = .ok (.getfield 16, 3) := by decide +kernel
theorem dX8_end_4 : decode cX8_end 4 = .ok (.aload_n 0, 1) := by decide +kernel
theorem dX8_end_5 : decode cX8_end 5 = .ok (.getfield 10, 3) := by decide +kernel
theorem dX8_end_8 : decode cX8_end 8 = .ok (.invokevirtual 33, 3) := by decide +kernel
theorem dX8_end_11 : decode cX8_end 11 = .ok (.aload_n 0, 1) := by decide +kernel
theorem dX8_end_12 : decode cX8_end 12 = .ok (.aload_n 0, 1) := by decide +kernel
theorem dX8_end_13 : decode cX8_end 13 = .ok (.getfield 16, 3) := by decide +kernel
theorem dX8_end_16 : decode cX8_end 16 = .ok (.iload_n 1, 1) := by decide +kernel
theorem dX8_end_17 : decode cX8_end 17 = .ok (.invokevirtual 61, 3) := by decide +kernel
theorem dX8_end_20 : decode cX8_end 20 = .ok (.invokevirtual 41, 3) := by decide +kernel
theorem dX8_end_23 : decode cX8_end 23 = .ok (.ireturn, 1) := by decide +kernel
theorem dX8_set_0 : decode cX8_set 0 = .ok (.aload_n 0, 1) := by decide +kernel
theorem dX8_set_1 : decode cX8_set 1 = .ok (.getfield 16, 3) := by decide +kernel
theorem dX8_set_4 : decode cX8_set 4 = .ok (.aload_n 0, 1) := by decide +kernel
theorem dX8_set_5 : decode cX8_set 5 = .ok (.getfield 10, 3) := by decide +kernel
theorem dX8_set_8 : decode cX8_set 8 = .ok (.invokevirtual 33, 3) := by decide +kernel
theorem dX8_set_11 : decode cX8_set 11 = .ok (.aload_n 0, 1) := by decide +kernel
theorem dX8_set_12 : decode cX8_set 12 = .ok (.aload_n 0, 1) := by decide +kernel
theorem dX8_set_13 : decode cX8_set 13 = .ok (.getfield 16, 3) := by decide +kernel
theorem dX8_set_16 : decode cX8_set 16 = .ok (.getfield 64, 3) := by decide +kernel
theorem dX8_set_19 : decode cX8_set 19 = .ok (.iload_n 1, 1) := by decide +kernel
theorem dX8_set_20 : decode cX8_set 20 = .ok (.iload_n 2, 1) := by decide +kernel
theorem dX8_set_21 : decode cX8_set 21 = .ok (.invokevirtual 68, 3) := by decide +kernel
theorem dX8_set_24 : decode cX8_set 24 = .ok (.invokevirtual 41, 3) := by decide +kernel
theorem dX8_set_27 : decode cX8_set 27 = .ok (.ireturn, 1) := by decide +kernel
theorem dX8_muleOf_0 : decode cX8_muleOf 0 = .ok (.aload_n 0, 1) := by decide +kernel
theorem dX8_muleOf_1 : decode cX8_muleOf 1 = .ok (.getfield 10, 3) := by decide +kernel
theorem dX8_muleOf_4 : decode cX8_muleOf 4 = .ok (.iload_n 1, 1) := by decide +kernel
theorem dX8_muleOf_5 : decode cX8_muleOf 5 = .ok (.invokevirtual 73, 3) := by decide +kernel
theorem dX8_muleOf_8 : decode cX8_muleOf 8 = .ok (.astore_n 3, 1) := by decide +kernel
theorem dX8_muleOf_9 : decode cX8_muleOf 9 = .ok (.aload_n 3, 1) := by decide +kernel
theorem dX8_muleOf_10 : decode cX8_muleOf 10 = .ok (.ifnonnull 8, 3) := by decide +kernel
theorem dX8_muleOf_13 : decode cX8_muleOf 13 = .ok (.ldc 77, 2) := by decide +kernel
theorem dX8_muleOf_15 : decode cX8_muleOf 15 = .ok (.goto 8, 3) := by decide +kernel
theorem dX8_muleOf_18 : decode cX8_muleOf 18 = .ok (.aload_n 3, 1) := by decide +kernel
theorem dX8_muleOf_19 : decode cX8_muleOf 19 = .ok (.iload_n 2, 1) := by decide +kernel
theorem dX8_muleOf_20 : decode cX8_muleOf 20 = .ok (.invokevirtual 78, 3) := by decide +kernel
theorem dX8_muleOf_23 : decode cX8_muleOf 23 = .ok (.ireturn, 1) := by decide +kernel
theorem dX8_groupOf_0 : decode cX8_groupOf 0 = .ok (.aload_n 0, 1) := by decide +kernel
theorem dX8_groupOf_1 : decode cX8_groupOf 1 = .ok (.getfield 10, 3) := by decide +kernel
theorem dX8_groupOf_4 : decode cX8_groupOf 4 = .ok (.aload_n 0, 1) := by decide +kernel
theorem dX8_groupOf_5 : decode cX8_groupOf 5 = .ok (.getfield 10, 3) := by decide +kernel
theorem dX8_groupOf_8 : decode cX8_groupOf 8 = .ok (.iload_n 1, 1) := by decide +kernel
theorem dX8_groupOf_9 : decode cX8_groupOf 9 = .ok (.invokevirtual 83, 3) := by decide +kernel
theorem dX8_groupOf_12 : decode cX8_groupOf 12 = .ok (.invokevirtual 86, 3) := by decide +kernel
theorem dX8_groupOf_15 : decode cX8_groupOf 15 = .ok (.astore_n 3, 1) := by decide +kernel
theorem dX8_groupOf_16 : decode cX8_groupOf 16 = .ok (.aload_n 3, 1) := by decide +kernel
theorem dX8_groupOf_17 : decode cX8_groupOf 17 = .ok (.ifnonnull 8, 3) := by decide +kernel
theorem dX8_groupOf_20 : decode cX8_groupOf 20 = .ok (.ldc 77, 2) := by decide +kernel
theorem dX8_groupOf_22 : decode cX8_groupOf 22 = .ok (.goto 15, 3) := by decide +kernel
theorem dX8_groupOf_25 : decode cX8_groupOf 25 = .ok (.aload_n 3, 1) := by decide +kernel
theorem dX8_groupOf_26 : decode cX8_groupOf 26 = .ok (.iload_n 2, 1) := by decide +kernel
theorem dX8_groupOf_27 : decode cX8_groupOf 27 = .ok (.aload_n 0, 1) := by decide +kernel
theorem dX8_groupOf_28 : decode cX8_groupOf 28 = .ok (.getfield 10, 3) := by decide +kernel
theorem dX8_groupOf_31 : decode cX8_groupOf 31 = .ok (.getfield 90, 3) := by decide +kernel
theorem dX8_groupOf_34 : decode cX8_groupOf 34 = .ok (.invokevirtual 94, 3) := by decide +kernel
theorem dX8_groupOf_37 : decode cX8_groupOf 37 = .ok (.ireturn, 1) := by decide +kernel
theorem dX8_number_0 : decode cX8_number 0 = .ok (.iload_n 1, 1) := by decide +kernel
theorem dX8_number_1 : decode cX8_number 1 = .ok (.ifCond .ge 6, 3) := by decide +kernel
theorem dX8_number_4 : decode cX8_number 4 = .ok (.ldc 77, 2) := by decide +kernel
theorem dX8_number_6 : decode cX8_number 6 = .ok (.ireturn, 1) := by decide +kernel
theorem dX8_number_7 : decode cX8_number 7 = .ok (.aload_n 0, 1) := by decide +kernel
theorem dX8_number_8 : decode cX8_number 8 = .ok (.getfield 10, 3) := by decide +kernel
theorem dX8_number_11 : decode cX8_number 11 = .ok (.iload_n 1, 1) := by decide +kernel
theorem dX8_number_12 : decode cX8_number 12 = .ok (.invokevirtual 86, 3) := by decide +kernel
theorem dX8_number_15 : decode cX8_number 15 = .ok (.astore_n 2, 1) := by decide +kernel
theorem dX8_number_16 : decode cX8_number 16 = .ok (.aload_n 2, 1) := by decide +kernel
theorem dX8_number_17 : decode cX8_number 17 = .ok (.ifnonnull 8, 3) := by decide +kernel
theorem dX8_number_20 : decode cX8_number 20 = .ok (.ldc 98, 2) := by decide +kernel
theorem dX8_number_22 : decode cX8_number 22 = .ok (.goto 7, 3) := by decide +kernel
theorem dX8_number_25 : decode cX8_number 25 = .ok (.aload_n 2, 1) := by decide +kernel
theorem dX8_number_26 : decode cX8_number 26 = .ok (.getfield 99, 3) := by decide +kernel
theorem dX8_number_29 : decode cX8_number 29 = .ok (.ireturn, 1) := by decide +kernel
theorem dX8_loaves_0 : decode cX8_loaves 0 = .ok (.iload_n 1, 1) := by decide +kernel
theorem dX8_loaves_1 : decode cX8_loaves 1 = .ok (.iconst 0, 1) := by decide +kernel
theorem dX8_loaves_2 : decode cX8_loaves 2 = .ok (.bipush 20, 2) := by decide +kernel
theorem dX8_loaves_4 : decode cX8_loaves 4 = .ok (.invokestatic 102, 3) := by decide +kernel
theorem dX8_loaves_7 : decode cX8_loaves 7 = .ok (.ifCond .eq 18, 3) := by decide +kernel
theorem dX8_loaves_10 : decode cX8_loaves 10 = .ok (.aload_n 0, 1) := by decide +kernel
theorem dX8_loaves_11 : decode cX8_loaves 11 = .ok (.getfield 10, 3) := by decide +kernel
theorem dX8_loaves_14 : decode cX8_loaves 14 = .ok (.getfield 106, 3) := by decide +kernel
theorem dX8_loaves_17 : decode cX8_loaves 17 = .ok (.iload_n 1, 1) := by decide +kernel
theorem dX8_loaves_18 : decode cX8_loaves 18 = .ok (.iload_n 1, 1) := by decide +kernel
theorem dX8_loaves_19 : decode cX8_loaves 19 = .ok (.invokevirtual 110, 3) := by decide +kernel
theorem dX8_loaves_22 : decode cX8_loaves 22 = .ok (.goto 5, 3) := by decide +kernel
theorem dX8_loaves_25 : decode cX8_loaves 25 = .ok (.ldc 77, 2) := by decide +kernel
theorem dX8_loaves_27 : decode cX8_loaves 27 = .ok (.ireturn, 1) := by decide +kernel
theorem dX8_count_0 : decode cX8_count 0 = .ok (.iload_n 1, 1) := by decide +kernel
theorem dX8_count_1 : decode cX8_count 1 = .ok (.lookupswitch 43 #[(18, 27), (19, 35)], 27) := by decide +kernel
theorem dX8_count_28 : decode cX8_count 28 = .ok (.aload_n 0, 1) := by decide +kernel
theorem dX8_count_29 : decode cX8_count 29 = .ok (.getfield 22, 3) := by decide +kernel
theorem dX8_count_32 : decode cX8_count 32 = .ok (.getfield 164, 3) := by decide +kernel
theorem dX8_count_35 : decode cX8_count 35 = .ok (.ireturn, 1) := by decide +kernel
theorem dX8_count_36 : decode cX8_count 36 = .ok (.aload_n 0, 1) := by decide +kernel
theorem dX8_count_37 : decode cX8_count 37 = .ok (.getfield 29, 3) := by decide +kernel
theorem dX8_count_40 : decode cX8_count 40 = .ok (.getfield 167, 3) := by decide +kernel
theorem dX8_count_43 : decode cX8_count 43 = .ok (.ireturn, 1) := by decide +kernel
theorem dX8_count_44 : decode cX8_count 44 = .ok (.aload_n 0, 1) := by decide +kernel
theorem dX8_count_45 : decode cX8_count 45 = .ok (.getfield 10, 3) := by decide +kernel
theorem dX8_count_48 : decode cX8_count 48 = .ok (.iload_n 1, 1) := by decide +kernel
theorem dX8_count_49 : decode cX8_count 49 = .ok (.invokevirtual 170, 3) := by decide +kernel
theorem dX8_count_52 : decode cX8_count 52 = .ok (.ireturn, 1) := by decide +kernel
theorem dX8_takeOver_0 : decode cX8_takeOver 0 = .ok (.iload_n 1, 1) := by decide +kernel
theorem dX8_takeOver_1 : decode cX8_takeOver 1 = .ok (.ifCond .lt 25, 3) := by decide +kernel
theorem dX8_takeOver_4 : decode cX8_takeOver 4 = .ok (.aload_n 0, 1) := by decide +kernel
theorem dX8_takeOver_5 : decode cX8_takeOver 5 = .ok (.getfield 22, 3) := by decide +kernel
theorem dX8_takeOver_8 : decode cX8_takeOver 8 = .ok (.aload_n 0, 1) := by decide +kernel
theorem dX8_takeOver_9 : decode cX8_takeOver 9 = .ok (.getfield 10, 3) := by decide +kernel
theorem dX8_takeOver_12 : decode cX8_takeOver 12 = .ok (.invokevirtual 196, 3) := by decide +kernel
theorem dX8_takeOver_15 : decode cX8_takeOver 15 = .ok (.aload_n 0, 1) := by decide +kernel
theorem dX8_takeOver_16 : decode cX8_takeOver 16 = .ok (.getfield 10, 3) := by decide +kernel
theorem dX8_takeOver_19 : decode cX8_takeOver 19 = .ok (.aload_n 0, 1) := by decide +kernel
theorem dX8_takeOver_20 : decode cX8_takeOver 20 = .ok (.getfield 16, 3) := by decide +kernel
theorem dX8_takeOver_23 : decode cX8_takeOver 23 = .ok (.invokevirtual 33, 3) := by decide +kernel
theorem dX8_takeOver_26 : decode cX8_takeOver 26 = .ok (.iload_n 1, 1) := by decide +kernel
theorem dX8_takeOver_27 : decode cX8_takeOver 27 = .ok (.ireturn, 1) := by decide +kernel
theorem dX8_isWithin_0 : decode cX8_isWithin 0 = .ok (.iload_n 0, 1) := by decide +kernel
theorem dX8_isWithin_1 : decode cX8_isWithin 1 = .ok (.iload_n 1, 1) := by decide +kernel
theorem dX8_isWithin_2 : decode cX8_isWithin 2 = .ok (.if_icmp .lt 12, 3) := by decide +kernel
theorem dX8_isWithin_5 : decode cX8_isWithin 5 = .ok (.iload_n 0, 1) := by decide +kernel
theorem dX8_isWithin_6 : decode cX8_isWithin 6 = .ok (.iload_n 2, 1) := by decide +kernel
theorem dX8_isWithin_7 : decode cX8_isWithin 7 = .ok (.if_icmp .gt 7, 3) := by decide +kernel
theorem dX8_isWithin_10 : decode cX8_isWithin 10 = .ok (.iconst 1, 1) := by decide +kernel
theorem dX8_isWithin_11 : decode cX8_isWithin 11 = .ok (.goto 4, 3) := by decide +kernel
theorem dX8_isWithin_14 : decode cX8_isWithin 14 = .ok (.iconst 0, 1) := by decide +kernel
theorem dX8_isWithin_15 : decode cX8_isWithin 15 = .ok (.ireturn, 1) := by decide +kernel
theorem dJ9_min_7cf53_0 : decode cJ9_min_7cf53 0 = .ok (.iload_n 0, 1) := by decide +kernel
theorem dJ9_min_7cf53_1 : decode cJ9_min_7cf53 1 = .ok (.iload_n 1, 1) := by decide +kernel
theorem dJ9_min_7cf53_2 : decode cJ9_min_7cf53 2 = .ok (.if_icmp .gt 7, 3) := by decide +kernel
theorem dJ9_min_7cf53_5 : decode cJ9_min_7cf53 5 = .ok (.iload_n 0, 1) := by decide +kernel
theorem dJ9_min_7cf53_6 : decode cJ9_min_7cf53 6 = .ok (.goto 4, 3) := by decide +kernel
theorem dJ9_min_7cf53_9 : decode cJ9_min_7cf53 9 = .ok (.iload_n 1, 1) := by decide +kernel
theorem dJ9_min_7cf53_10 : decode cJ9_min_7cf53 10 = .ok (.ireturn, 1) := by decide +kernel
theorem dL_cell_0 : decode cL_cell 0 = .ok (.iload_n 1, 1) := by decide +kernel
theorem dL_cell_1 : decode cL_cell 1 = .ok (.aload_n 0, 1) := by decide +kernel
theorem dL_cell_2 : decode cL_cell 2 = .ok (.arraylength, 1) := by decide +kernel
theorem dL_cell_3 : decode cL_cell 3 = .ok (.if_icmp .ge 9, 3) := by decide +kernel
theorem dL_cell_6 : decode cL_cell 6 = .ok (.aload_n 0, 1) := by decide +kernel
theorem dL_cell_7 : decode cL_cell 7 = .ok (.iload_n 1, 1) := by decide +kernel
theorem dL_cell_8 : decode cL_cell 8 = .ok (.iaload, 1) := by decide +kernel
theorem dL_cell_9 : decode cL_cell 9 = .ok (.goto 9, 3) := by decide +kernel
theorem dL_cell_12 : decode cL_cell 12 = .ok (.ldc 7, 2) := by decide +kernel
theorem dL_cell_14 : decode cL_cell 14 = .ok (.iload_n 1, 1) := by decide +kernel
theorem dL_cell_15 : decode cL_cell 15 = .ok (.iconst 3, 1) := by decide +kernel
theorem dL_cell_16 : decode cL_cell 16 = .ok (.iadd, 1) := by decide +kernel
theorem dL_cell_17 : decode cL_cell 17 = .ok (.imul, 1) := by decide +kernel
theorem dL_cell_18 : decode cL_cell 18 = .ok (.ireturn, 1) := by decide +kernel
theorem dL_low_0 : decode cL_low 0 = .ok (.iload_n 0, 1) := by decide +kernel
theorem dL_low_1 : decode cL_low 1 = .ok (.ldc 8, 2) := by decide +kernel
theorem dL_low_3 : decode cL_low 3 = .ok (.iand, 1) := by decide +kernel
theorem dL_low_4 : decode cL_low 4 = .ok (.iload_n 1, 1) := by decide +kernel
theorem dL_low_5 : decode cL_low 5 = .ok (.irem, 1) := by decide +kernel
theorem dL_low_6 : decode cL_low 6 = .ok (.ireturn, 1) := by decide +kernel
theorem dL_sum_0 : decode cL_sum 0 = .ok (.iconst 0, 1) := by decide +kernel
theorem dL_sum_1 : decode cL_sum 1 = .ok (.istore_n 3, 1) := by decide +kernel
theorem dL_sum_2 : decode cL_sum 2 = .ok (.iload_n 1, 1) := by decide +kernel
theorem dL_sum_3 : decode cL_sum 3 = .ok (.istore 4, 2) := by decide +kernel
theorem dL_sum_5 : decode cL_sum 5 = .ok (.iload 4, 2) := by decide +kernel
theorem dL_sum_7 : decode cL_sum 7 = .ok (.iload_n 2, 1) := by decide +kernel
theorem dL_sum_8 : decode cL_sum 8 = .ok (.if_icmp .gt 16, 3) := by decide +kernel
theorem dL_sum_11 : decode cL_sum 11 = .ok (.iload_n 3, 1) := by decide +kernel
theorem dL_sum_12 : decode cL_sum 12 = .ok (.aload_n 0, 1) := by decide +kernel
theorem dL_sum_13 : decode cL_sum 13 = .ok (.iload 4, 2) := by decide +kernel
theorem dL_sum_15 : decode cL_sum 15 = .ok (.iaload, 1) := by decide +kernel
theorem dL_sum_16 : decode cL_sum 16 = .ok (.iadd, 1) := by decide +kernel
theorem dL_sum_17 : decode cL_sum 17 = .ok (.istore_n 3, 1) := by decide +kernel
theorem dL_sum_18 : decode cL_sum 18 = .ok (.iinc 4 1, 3) := by decide +kernel
theorem dL_sum_21 : decode cL_sum 21 = .ok (.goto (-16), 3) := by decide +kernel
theorem dL_sum_24 : decode cL_sum 24 = .ok (.iload_n 3, 1) := by decide +kernel
theorem dL_sum_25 : decode cL_sum 25 = .ok (.ireturn, 1) := by decide +kernel
theorem dL_comes_0 : decode cL_comes 0 = .ok (.aload_n 1, 1) := by decide +kernel
theorem dL_comes_1 : decode cL_comes 1 = .ok (.iload_n 3, 1) := by decide +kernel
theorem dL_comes_2 : decode cL_comes 2 = .ok (.iconst 3, 1) := by decide +kernel
theorem dL_comes_3 : decode cL_comes 3 = .ok (.iadd, 1) := by decide +kernel
theorem dL_comes_4 : decode cL_comes 4 = .ok (.dup2, 1) := by decide +kernel
theorem dL_comes_5 : decode cL_comes 5 = .ok (.iaload, 1) := by decide +kernel
theorem dL_comes_6 : decode cL_comes 6 = .ok (.iconst 1, 1) := by decide +kernel
theorem dL_comes_7 : decode cL_comes 7 = .ok (.isub, 1) := by decide +kernel
theorem dL_comes_8 : decode cL_comes 8 = .ok (.iastore, 1) := by decide +kernel
theorem dL_comes_9 : decode cL_comes 9 = .ok (.aload_n 1, 1) := by decide +kernel
theorem dL_comes_10 : decode cL_comes 10 = .ok (.iload_n 3, 1) := by decide +kernel
theorem dL_comes_11 : decode cL_comes 11 = .ok (.iconst 3, 1) := by decide +kernel
theorem dL_comes_12 : decode cL_comes 12 = .ok (.iadd, 1) := by decide +kernel
theorem dL_comes_13 : decode cL_comes 13 = .ok (.iaload, 1) := by decide +kernel
theorem dL_comes_14 : decode cL_comes 14 = .ok (.ifCond .le 4, 3) := by decide +kernel
theorem dL_comes_17 : decode cL_comes 17 = .ok (.return_, 1) := by decide +kernel
theorem dL_comes_18 : decode cL_comes 18 = .ok (.aload_n 1, 1) := by decide +kernel
theorem dL_comes_19 : decode cL_comes 19 = .ok (.iload_n 3, 1) := by decide +kernel
theorem dL_comes_20 : decode cL_comes 20 = .ok (.iconst 2, 1) := by decide +kernel
theorem dL_comes_21 : decode cL_comes 21 = .ok (.iadd, 1) := by decide +kernel
theorem dL_comes_22 : decode cL_comes 22 = .ok (.iaload, 1) := by decide +kernel
theorem dL_comes_23 : decode cL_comes 23 = .ok (.iconst 1, 1) := by decide +kernel
theorem dL_comes_24 : decode cL_comes 24 = .ok (.if_icmp .ne 170, 3) := by decide +kernel
theorem dL_comes_27 : decode cL_comes 27 = .ok (.aload_n 0, 1) := by decide +kernel
theorem dL_comes_28 : decode cL_comes 28 = .ok (.iconst 3, 1) := by decide +kernel
theorem dL_comes_29 : decode cL_comes 29 = .ok (.iaload, 1) := by decide +kernel
theorem dL_comes_30 : decode cL_comes 30 = .ok (.aload_n 1, 1) := by decide +kernel
theorem dL_comes_31 : decode cL_comes 31 = .ok (.iload_n 3, 1) := by decide +kernel
theorem dL_comes_32 : decode cL_comes 32 = .ok (.iconst 5, 1) := by decide +kernel
theorem dL_comes_33 : decode cL_comes 33 = .ok (.iadd, 1) := by decide +kernel
theorem dL_comes_34 : decode cL_comes 34 = .ok (.iaload, 1) := by decide +kernel
theorem dL_comes_35 : decode cL_comes 35 = .ok (.isub, 1) := by decide +kernel
theorem dL_comes_36 : decode cL_comes 36 = .ok (.istore 4, 2) := by decide +kernel
theorem dL_comes_38 : decode cL_comes 38 = .ok (.aload_n 1, 1) := by decide +kernel
theorem dL_comes_39 : decode cL_comes 39 = .ok (.iload_n 3, 1) := by decide +kernel
theorem dL_comes_40 : decode cL_comes 40 = .ok (.bipush 7, 2) := by decide +kernel
theorem dL_comes_42 : decode cL_comes 42 = .ok (.iadd, 1) := by decide +kernel
theorem dL_comes_43 : decode cL_comes 43 = .ok (.dup2, 1) := by decide +kernel
theorem dL_comes_44 : decode cL_comes 44 = .ok (.iaload, 1) := by decide +kernel
theorem dL_comes_45 : decode cL_comes 45 = .ok (.aload_n 1, 1) := by decide +kernel
theorem dL_comes_46 : decode cL_comes 46 = .ok (.iload_n 3, 1) := by decide +kernel
theorem dL_comes_47 : decode cL_comes 47 = .ok (.iconst 4, 1) := by decide +kernel
theorem dL_comes_48 : decode cL_comes 48 = .ok (.iadd, 1) := by decide +kernel
theorem dL_comes_49 : decode cL_comes 49 = .ok (.iaload, 1) := by decide +kernel
theorem dL_comes_50 : decode cL_comes 50 = .ok (.iadd, 1) := by decide +kernel
theorem dL_comes_51 : decode cL_comes 51 = .ok (.iastore, 1) := by decide +kernel
theorem dL_comes_52 : decode cL_comes 52 = .ok (.aload_n 1, 1) := by decide +kernel
theorem dL_comes_53 : decode cL_comes 53 = .ok (.iload_n 3, 1) := by decide +kernel
theorem dL_comes_54 : decode cL_comes 54 = .ok (.iconst 4, 1) := by decide +kernel
theorem dL_comes_55 : decode cL_comes 55 = .ok (.iadd, 1) := by decide +kernel
theorem dL_comes_56 : decode cL_comes 56 = .ok (.iaload, 1) := by decide +kernel
theorem dL_comes_57 : decode cL_comes 57 = .ok (.istore 5, 2) := by decide +kernel
theorem dL_comes_59 : decode cL_comes 59 = .ok (.iload 5, 2) := by decide +kernel
theorem dL_comes_61 : decode cL_comes 61 = .ok (.ifCond .le 112, 3) := by decide +kernel
theorem dL_comes_64 : decode cL_comes 64 = .ok (.iload 4, 2) := by decide +kernel
theorem dL_comes_66 : decode cL_comes 66 = .ok (.bipush 20, 2) := by decide +kernel
theorem dL_comes_68 : decode cL_comes 68 = .ok (.if_icmp .le 7, 3) := by decide +kernel
theorem dL_comes_71 : decode cL_comes 71 = .ok (.iconst 1, 1) := by decide +kernel
theorem dL_comes_72 : decode cL_comes 72 = .ok (.goto 4, 3) := by decide +kernel
theorem dL_comes_75 : decode cL_comes 75 = .ok (.iconst 0, 1) := by decide +kernel
theorem dL_comes_76 : decode cL_comes 76 = .ok (.istore 6, 2) := by decide +kernel
theorem dL_comes_78 : decode cL_comes 78 = .ok (.aload_n 2, 1) := by decide +kernel
theorem dL_comes_79 : decode cL_comes 79 = .ok (.iconst 0, 1) := by decide +kernel
theorem dL_comes_80 : decode cL_comes 80 = .ok (.bipush 20, 2) := by decide +kernel
theorem dL_comes_82 : decode cL_comes 82 = .ok (.invokestatic 9, 3) := by decide +kernel
theorem dL_comes_85 : decode cL_comes 85 = .ok (.bipush 80, 2) := by decide +kernel
theorem dL_comes_87 : decode cL_comes 87 = .ok (.if_icmp .ge 7, 3) := by decide +kernel
theorem dL_comes_90 : decode cL_comes 90 = .ok (.iconst 1, 1) := by decide +kernel
theorem dL_comes_91 : decode cL_comes 91 = .ok (.goto 4, 3) := by decide +kernel
theorem dL_comes_94 : decode cL_comes 94 = .ok (.iconst 0, 1) := by decide +kernel
theorem dL_comes_95 : decode cL_comes 95 = .ok (.istore 7, 2) := by decide +kernel
theorem dL_comes_97 : decode cL_comes 97 = .ok (.aload_n 0, 1) := by decide +kernel
theorem dL_comes_98 : decode cL_comes 98 = .ok (.bipush 9, 2) := by decide +kernel
theorem dL_comes_100 : decode cL_comes 100 = .ok (.dup2, 1) := by decide +kernel
theorem dL_comes_101 : decode cL_comes 101 = .ok (.iaload, 1) := by decide +kernel
theorem dL_comes_102 : decode cL_comes 102 = .ok (.iload 6, 2) := by decide +kernel
theorem dL_comes_104 : decode cL_comes 104 = .ok (.ifCond .eq 7, 3) := by decide +kernel
theorem dL_comes_107 : decode cL_comes 107 = .ok (.iconst 1, 1) := by decide +kernel
theorem dL_comes_108 : decode cL_comes 108 = .ok (.goto 4, 3) := by decide +kernel
theorem dL_comes_111 : decode cL_comes 111 = .ok (.iconst 0, 1) := by decide +kernel
theorem dL_comes_112 : decode cL_comes 112 = .ok (.iadd, 1) := by decide +kernel
theorem dL_comes_113 : decode cL_comes 113 = .ok (.iastore, 1) := by decide +kernel
theorem dL_comes_114 : decode cL_comes 114 = .ok (.aload_n 0, 1) := by decide +kernel
theorem dL_comes_115 : decode cL_comes 115 = .ok (.bipush 10, 2) := by decide +kernel
theorem dL_comes_117 : decode cL_comes 117 = .ok (.dup2, 1) := by decide +kernel
theorem dL_comes_118 : decode cL_comes 118 = .ok (.iaload, 1) := by decide +kernel
theorem dL_comes_119 : decode cL_comes 119 = .ok (.iload 6, 2) := by decide +kernel
theorem dL_comes_121 : decode cL_comes 121 = .ok (.ifCond .ne 12, 3) := by decide +kernel
theorem dL_comes_124 : decode cL_comes 124 = .ok (.iload 7, 2) := by decide +kernel
theorem dL_comes_126 : decode cL_comes 126 = .ok (.ifCond .ne 7, 3) := by decide +kernel
theorem dL_comes_129 : decode cL_comes 129 = .ok (.iconst 1, 1) := by decide +kernel
theorem dL_comes_130 : decode cL_comes 130 = .ok (.goto 4, 3) := by decide +kernel
theorem dL_comes_133 : decode cL_comes 133 = .ok (.iconst 0, 1) := by decide +kernel
theorem dL_comes_134 : decode cL_comes 134 = .ok (.iadd, 1) := by decide +kernel
theorem dL_comes_135 : decode cL_comes 135 = .ok (.iastore, 1) := by decide +kernel
theorem dL_comes_136 : decode cL_comes 136 = .ok (.aload_n 2, 1) := by decide +kernel
theorem dL_comes_137 : decode cL_comes 137 = .ok (.iload 6, 2) := by decide +kernel
theorem dL_comes_139 : decode cL_comes 139 = .ok (.ifCond .eq 7, 3) := by decide +kernel
theorem dL_comes_142 : decode cL_comes 142 = .ok (.iconst 0, 1) := by decide +kernel
theorem dL_comes_143 : decode cL_comes 143 = .ok (.goto 5, 3) := by decide +kernel
theorem dL_comes_146 : decode cL_comes 146 = .ok (.iload 4, 2) := by decide +kernel
theorem dL_comes_148 : decode cL_comes 148 = .ok (.dup2, 1) := by decide +kernel
theorem dL_comes_149 : decode cL_comes 149 = .ok (.iaload, 1) := by decide +kernel
theorem dL_comes_150 : decode cL_comes 150 = .ok (.iload 6, 2) := by decide +kernel
theorem dL_comes_152 : decode cL_comes 152 = .ok (.ifCond .ne 12, 3) := by decide +kernel
theorem dL_comes_155 : decode cL_comes 155 = .ok (.iload 7, 2) := by decide +kernel
theorem dL_comes_157 : decode cL_comes 157 = .ok (.ifCond .eq 7, 3) := by decide +kernel
theorem dL_comes_160 : decode cL_comes 160 = .ok (.iconst 1, 1) := by decide +kernel
theorem dL_comes_161 : decode cL_comes 161 = .ok (.goto 4, 3) := by decide +kernel
theorem dL_comes_164 : decode cL_comes 164 = .ok (.iconst 0, 1) := by decide +kernel
theorem dL_comes_165 : decode cL_comes 165 = .ok (.iadd, 1) := by decide +kernel
theorem dL_comes_166 : decode cL_comes 166 = .ok (.iastore, 1) := by decide +kernel
theorem dL_comes_167 : decode cL_comes 167 = .ok (.iinc 5 (-1), 3) := by decide +kernel
theorem dL_comes_170 : decode cL_comes 170 = .ok (.goto (-111), 3) := by decide +kernel
theorem dL_comes_173 : decode cL_comes 173 = .ok (.aload_n 1, 1) := by decide +kernel
theorem dL_comes_174 : decode cL_comes 174 = .ok (.iload_n 3, 1) := by decide +kernel
theorem dL_comes_175 : decode cL_comes 175 = .ok (.iconst 4, 1) := by decide +kernel
theorem dL_comes_176 : decode cL_comes 176 = .ok (.iadd, 1) := by decide +kernel
theorem dL_comes_177 : decode cL_comes 177 = .ok (.iconst 0, 1) := by decide +kernel
theorem dL_comes_178 : decode cL_comes 178 = .ok (.iastore, 1) := by decide +kernel
theorem dL_comes_179 : decode cL_comes 179 = .ok (.aload_n 1, 1) := by decide +kernel
theorem dL_comes_180 : decode cL_comes 180 = .ok (.iload_n 3, 1) := by decide +kernel
theorem dL_comes_181 : decode cL_comes 181 = .ok (.iconst 2, 1) := by decide +kernel
theorem dL_comes_182 : decode cL_comes 182 = .ok (.iadd, 1) := by decide +kernel
theorem dL_comes_183 : decode cL_comes 183 = .ok (.iconst 2, 1) := by decide +kernel
theorem dL_comes_184 : decode cL_comes 184 = .ok (.iastore, 1) := by decide +kernel
theorem dL_comes_185 : decode cL_comes 185 = .ok (.aload_n 1, 1) := by decide +kernel
theorem dL_comes_186 : decode cL_comes 186 = .ok (.iload_n 3, 1) := by decide +kernel
theorem dL_comes_187 : decode cL_comes 187 = .ok (.iconst 3, 1) := by decide +kernel
theorem dL_comes_188 : decode cL_comes 188 = .ok (.iadd, 1) := by decide +kernel
theorem dL_comes_189 : decode cL_comes 189 = .ok (.iconst 2, 1) := by decide +kernel
theorem dL_comes_190 : decode cL_comes 190 = .ok (.iastore, 1) := by decide +kernel
theorem dL_comes_191 : decode cL_comes 191 = .ok (.goto 82, 3) := by decide +kernel
theorem dL_comes_194 : decode cL_comes 194 = .ok (.aload_n 1, 1) := by decide +kernel
theorem dL_comes_195 : decode cL_comes 195 = .ok (.iload_n 3, 1) := by decide +kernel
theorem dL_comes_196 : decode cL_comes 196 = .ok (.iconst 2, 1) := by decide +kernel
theorem dL_comes_197 : decode cL_comes 197 = .ok (.iadd, 1) := by decide +kernel
theorem dL_comes_198 : decode cL_comes 198 = .ok (.iaload, 1) := by decide +kernel
theorem dL_comes_199 : decode cL_comes 199 = .ok (.iconst 2, 1) := by decide +kernel
theorem dL_comes_200 : decode cL_comes 200 = .ok (.if_icmp .ne 42, 3) := by decide +kernel
theorem dL_comes_203 : decode cL_comes 203 = .ok (.aload_n 1, 1) := by decide +kernel
theorem dL_comes_204 : decode cL_comes 204 = .ok (.iload_n 3, 1) := by decide +kernel
theorem dL_comes_205 : decode cL_comes 205 = .ok (.bipush 6, 2) := by decide +kernel
theorem dL_comes_207 : decode cL_comes 207 = .ok (.iadd, 1) := by decide +kernel
theorem dL_comes_208 : decode cL_comes 208 = .ok (.iaload, 1) := by decide +kernel
theorem dL_comes_209 : decode cL_comes 209 = .ok (.aload_n 1, 1) := by decide +kernel
theorem dL_comes_210 : decode cL_comes 210 = .ok (.iload_n 3, 1) := by decide +kernel
theorem dL_comes_211 : decode cL_comes 211 = .ok (.iconst 1, 1) := by decide +kernel
theorem dL_comes_212 : decode cL_comes 212 = .ok (.iadd, 1) := by decide +kernel
theorem dL_comes_213 : decode cL_comes 213 = .ok (.iaload, 1) := by decide +kernel
theorem dL_comes_214 : decode cL_comes 214 = .ok (.if_icmp .lt 28, 3) := by decide +kernel
theorem dL_comes_217 : decode cL_comes 217 = .ok (.aload_n 1, 1) := by decide +kernel
theorem dL_comes_218 : decode cL_comes 218 = .ok (.iload_n 3, 1) := by decide +kernel
theorem dL_comes_219 : decode cL_comes 219 = .ok (.iconst 2, 1) := by decide +kernel
theorem dL_comes_220 : decode cL_comes 220 = .ok (.iadd, 1) := by decide +kernel
theorem dL_comes_221 : decode cL_comes 221 = .ok (.iconst 3, 1) := by decide +kernel
theorem dL_comes_222 : decode cL_comes 222 = .ok (.iastore, 1) := by decide +kernel
theorem dL_comes_223 : decode cL_comes 223 = .ok (.aload_n 1, 1) := by decide +kernel
theorem dL_comes_224 : decode cL_comes 224 = .ok (.iload_n 3, 1) := by decide +kernel
theorem dL_comes_225 : decode cL_comes 225 = .ok (.iconst 3, 1) := by decide +kernel
theorem dL_comes_226 : decode cL_comes 226 = .ok (.iadd, 1) := by decide +kernel
theorem dL_comes_227 : decode cL_comes 227 = .ok (.iconst 5, 1) := by decide +kernel
theorem dL_comes_228 : decode cL_comes 228 = .ok (.iastore, 1) := by decide +kernel
theorem dL_comes_229 : decode cL_comes 229 = .ok (.aload_n 1, 1) := by decide +kernel
theorem dL_comes_230 : decode cL_comes 230 = .ok (.iload_n 3, 1) := by decide +kernel
theorem dL_comes_231 : decode cL_comes 231 = .ok (.bipush 8, 2) := by decide +kernel
theorem dL_comes_233 : decode cL_comes 233 = .ok (.iadd, 1) := by decide +kernel
theorem dL_comes_234 : decode cL_comes 234 = .ok (.dup2, 1) := by decide +kernel
theorem dL_comes_235 : decode cL_comes 235 = .ok (.iaload, 1) := by decide +kernel
theorem dL_comes_236 : decode cL_comes 236 = .ok (.iconst 1, 1) := by decide +kernel
theorem dL_comes_237 : decode cL_comes 237 = .ok (.iadd, 1) := by decide +kernel
theorem dL_comes_238 : decode cL_comes 238 = .ok (.iastore, 1) := by decide +kernel
theorem dL_comes_239 : decode cL_comes 239 = .ok (.goto 34, 3) := by decide +kernel
theorem dL_comes_242 : decode cL_comes 242 = .ok (.aload_n 1, 1) := by decide +kernel
theorem dL_comes_243 : decode cL_comes 243 = .ok (.iload_n 3, 1) := by decide +kernel
theorem dL_comes_244 : decode cL_comes 244 = .ok (.bipush 6, 2) := by decide +kernel
theorem dL_comes_246 : decode cL_comes 246 = .ok (.iadd, 1) := by decide +kernel
theorem dL_comes_247 : decode cL_comes 247 = .ok (.aload_n 1, 1) := by decide +kernel
theorem dL_comes_248 : decode cL_comes 248 = .ok (.iload_n 3, 1) := by decide +kernel
theorem dL_comes_249 : decode cL_comes 249 = .ok (.iconst 2, 1) := by decide +kernel
theorem dL_comes_250 : decode cL_comes 250 = .ok (.iadd, 1) := by decide +kernel
theorem dL_comes_251 : decode cL_comes 251 = .ok (.iaload, 1) := by decide +kernel
theorem dL_comes_252 : decode cL_comes 252 = .ok (.iconst 3, 1) := by decide +kernel
theorem dL_comes_253 : decode cL_comes 253 = .ok (.if_icmp .ne 7, 3) := by decide +kernel
theorem dL_comes_256 : decode cL_comes 256 = .ok (.iconst 0, 1) := by decide +kernel
theorem dL_comes_257 : decode cL_comes 257 = .ok (.goto 9, 3) := by decide +kernel
theorem dL_comes_260 : decode cL_comes 260 = .ok (.aload_n 1, 1) := by decide +kernel
theorem dL_comes_261 : decode cL_comes 261 = .ok (.iload_n 3, 1) := by decide +kernel
theorem dL_comes_262 : decode cL_comes 262 = .ok (.bipush 6, 2) := by decide +kernel
theorem dL_comes_264 : decode cL_comes 264 = .ok (.iadd, 1) := by decide +kernel
theorem dL_comes_265 : decode cL_comes 265 = .ok (.iaload, 1) := by decide +kernel
theorem dL_comes_266 : decode cL_comes 266 = .ok (.iastore, 1) := by decide +kernel
theorem dL_comes_267 : decode cL_comes 267 = .ok (.aload_n 1, 1) := by decide +kernel
theorem dL_comes_268 : decode cL_comes 268 = .ok (.iload_n 3, 1) := by decide +kernel
theorem dL_comes_269 : decode cL_comes 269 = .ok (.iconst 2, 1) := by decide +kernel
theorem dL_comes_270 : decode cL_comes 270 = .ok (.iadd, 1) := by decide +kernel
theorem dL_comes_271 : decode cL_comes 271 = .ok (.iconst 0, 1) := by decide +kernel
theorem dL_comes_272 : decode cL_comes 272 = .ok (.iastore, 1) := by decide +kernel
theorem dL_comes_273 : decode cL_comes 273 = .ok (.return_, 1) := by decide +kernel
theorem dL_takes_0 : decode cL_takes 0 = .ok (.iload_n 3, 1) := by decide +kernel
theorem dL_takes_1 : decode cL_takes 1 = .ok (.istore 4, 2) := by decide +kernel
theorem dL_takes_3 : decode cL_takes 3 = .ok (.iload 4, 2) := by decide +kernel
theorem dL_takes_5 : decode cL_takes 5 = .ok (.iload_n 2, 1) := by decide +kernel
theorem dL_takes_6 : decode cL_takes 6 = .ok (.if_icmp .lt 34, 3) := by decide +kernel
theorem dL_takes_9 : decode cL_takes 9 = .ok (.aload_n 1, 1) := by decide +kernel
theorem dL_takes_10 : decode cL_takes 10 = .ok (.iload 4, 2) := by decide +kernel
theorem dL_takes_12 : decode cL_takes 12 = .ok (.iaload, 1) := by decide +kernel
theorem dL_takes_13 : decode cL_takes 13 = .ok (.ifCond .le 21, 3) := by decide +kernel
theorem dL_takes_16 : decode cL_takes 16 = .ok (.aload_n 1, 1) := by decide +kernel
theorem dL_takes_17 : decode cL_takes 17 = .ok (.iload 4, 2) := by decide +kernel
theorem dL_takes_19 : decode cL_takes 19 = .ok (.dup2, 1) := by decide +kernel
theorem dL_takes_20 : decode cL_takes 20 = .ok (.iaload, 1) := by decide +kernel
theorem dL_takes_21 : decode cL_takes 21 = .ok (.iconst 1, 1) := by decide +kernel
theorem dL_takes_22 : decode cL_takes 22 = .ok (.isub, 1) := by decide +kernel
theorem dL_takes_23 : decode cL_takes 23 = .ok (.iastore, 1) := by decide +kernel
theorem dL_takes_24 : decode cL_takes 24 = .ok (.aload_n 0, 1) := by decide +kernel
theorem dL_takes_25 : decode cL_takes 25 = .ok (.bipush 8, 2) := by decide +kernel
theorem dL_takes_27 : decode cL_takes 27 = .ok (.dup2, 1) := by decide +kernel
theorem dL_takes_28 : decode cL_takes 28 = .ok (.iaload, 1) := by decide +kernel
theorem dL_takes_29 : decode cL_takes 29 = .ok (.iconst 1, 1) := by decide +kernel
theorem dL_takes_30 : decode cL_takes 30 = .ok (.iadd, 1) := by decide +kernel
theorem dL_takes_31 : decode cL_takes 31 = .ok (.iastore, 1) := by decide +kernel
theorem dL_takes_32 : decode cL_takes 32 = .ok (.iconst 1, 1) := by decide +kernel
theorem dL_takes_33 : decode cL_takes 33 = .ok (.ireturn, 1) := by decide +kernel
theorem dL_takes_34 : decode cL_takes 34 = .ok (.iinc 4 (-1), 3) := by decide +kernel
theorem dL_takes_37 : decode cL_takes 37 = .ok (.goto (-34), 3) := by decide +kernel
theorem dL_takes_40 : decode cL_takes 40 = .ok (.iconst 0, 1) := by decide +kernel
theorem dL_takes_41 : decode cL_takes 41 = .ok (.ireturn, 1) := by decide +kernel
theorem dL_eats_0 : decode cL_eats 0 = .ok (.aload_n 1, 1) := by decide +kernel
theorem dL_eats_1 : decode cL_eats 1 = .ok (.iload_n 3, 1) := by decide +kernel
theorem dL_eats_2 : decode cL_eats 2 = .ok (.iconst 1, 1) := by decide +kernel
theorem dL_eats_3 : decode cL_eats 3 = .ok (.iadd, 1) := by decide +kernel
theorem dL_eats_4 : decode cL_eats 4 = .ok (.iaload, 1) := by decide +kernel
theorem dL_eats_5 : decode cL_eats 5 = .ok (.iconst 2, 1) := by decide +kernel
theorem dL_eats_6 : decode cL_eats 6 = .ok (.idiv, 1) := by decide +kernel
theorem dL_eats_7 : decode cL_eats 7 = .ok (.aload_n 1, 1) := by decide +kernel
theorem dL_eats_8 : decode cL_eats 8 = .ok (.iload_n 3, 1) := by decide +kernel
theorem dL_eats_9 : decode cL_eats 9 = .ok (.iconst 1, 1) := by decide +kernel
theorem dL_eats_10 : decode cL_eats 10 = .ok (.iadd, 1) := by decide +kernel
theorem dL_eats_11 : decode cL_eats 11 = .ok (.iaload, 1) := by decide +kernel
theorem dL_eats_12 : decode cL_eats 12 = .ok (.iconst 2, 1) := by decide +kernel
theorem dL_eats_13 : decode cL_eats 13 = .ok (.irem, 1) := by decide +kernel
theorem dL_eats_14 : decode cL_eats 14 = .ok (.iadd, 1) := by decide +kernel
theorem dL_eats_15 : decode cL_eats 15 = .ok (.istore 4, 2) := by decide +kernel
theorem dL_eats_17 : decode cL_eats 17 = .ok (.iload 4, 2) := by decide +kernel
theorem dL_eats_19 : decode cL_eats 19 = .ok (.ifCond .le 22, 3) := by decide +kernel
theorem dL_eats_22 : decode cL_eats 22 = .ok (.aload_n 0, 1) := by decide +kernel
theorem dL_eats_23 : decode cL_eats 23 = .ok (.aload_n 2, 1) := by decide +kernel
theorem dL_eats_24 : decode cL_eats 24 = .ok (.iconst 0, 1) := by decide +kernel
theorem dL_eats_25 : decode cL_eats 25 = .ok (.aload_n 0, 1) := by decide +kernel
theorem dL_eats_26 : decode cL_eats 26 = .ok (.bipush 17, 2) := by decide +kernel
theorem dL_eats_28 : decode cL_eats 28 = .ok (.iaload, 1) := by decide +kernel
theorem dL_eats_29 : decode cL_eats 29 = .ok (.invokestatic 15, 3) := by decide +kernel
theorem dL_eats_32 : decode cL_eats 32 = .ok (.ifCond .eq 9, 3) := by decide +kernel
theorem dL_eats_35 : decode cL_eats 35 = .ok (.iinc 4 (-1), 3) := by decide +kernel
theorem dL_eats_38 : decode cL_eats 38 = .ok (.goto (-21), 3) := by decide +kernel
theorem dL_eats_41 : decode cL_eats 41 = .ok (.iconst 0, 1) := by decide +kernel
theorem dL_eats_42 : decode cL_eats 42 = .ok (.istore 5, 2) := by decide +kernel
theorem dL_eats_44 : decode cL_eats 44 = .ok (.iload 4, 2) := by decide +kernel
theorem dL_eats_46 : decode cL_eats 46 = .ok (.ifCond .le 64, 3) := by decide +kernel
theorem dL_eats_49 : decode cL_eats 49 = .ok (.aload_n 2, 1) := by decide +kernel
theorem dL_eats_50 : decode cL_eats 50 = .ok (.aload_n 0, 1) := by decide +kernel
theorem dL_eats_51 : decode cL_eats 51 = .ok (.bipush 17, 2) := by decide +kernel
theorem dL_eats_53 : decode cL_eats 53 = .ok (.iaload, 1) := by decide +kernel
theorem dL_eats_54 : decode cL_eats 54 = .ok (.iconst 1, 1) := by decide +kernel
theorem dL_eats_55 : decode cL_eats 55 = .ok (.iadd, 1) := by decide +kernel
theorem dL_eats_56 : decode cL_eats 56 = .ok (.bipush 20, 2) := by decide +kernel
theorem dL_eats_58 : decode cL_eats 58 = .ok (.invokestatic 9, 3) := by decide +kernel
theorem dL_eats_61 : decode cL_eats 61 = .ok (.iconst 1, 1) := by decide +kernel
theorem dL_eats_62 : decode cL_eats 62 = .ok (.if_icmp .le 48, 3) := by decide +kernel
theorem dL_eats_65 : decode cL_eats 65 = .ok (.aload_n 0, 1) := by decide +kernel
theorem dL_eats_66 : decode cL_eats 66 = .ok (.aload_n 2, 1) := by decide +kernel
theorem dL_eats_67 : decode cL_eats 67 = .ok (.aload_n 0, 1) := by decide +kernel
theorem dL_eats_68 : decode cL_eats 68 = .ok (.bipush 17, 2) := by decide +kernel
theorem dL_eats_70 : decode cL_eats 70 = .ok (.iaload, 1) := by decide +kernel
theorem dL_eats_71 : decode cL_eats 71 = .ok (.iconst 1, 1) := by decide +kernel
theorem dL_eats_72 : decode cL_eats 72 = .ok (.iadd, 1) := by decide +kernel
theorem dL_eats_73 : decode cL_eats 73 = .ok (.bipush 20, 2) := by decide +kernel
theorem dL_eats_75 : decode cL_eats 75 = .ok (.invokestatic 15, 3) := by decide +kernel
theorem dL_eats_78 : decode cL_eats 78 = .ok (.ifCond .eq 23, 3) := by decide +kernel
theorem dL_eats_81 : decode cL_eats 81 = .ok (.aload_n 0, 1) := by decide +kernel
theorem dL_eats_82 : decode cL_eats 82 = .ok (.aload_n 2, 1) := by decide +kernel
theorem dL_eats_83 : decode cL_eats 83 = .ok (.aload_n 0, 1) := by decide +kernel
theorem dL_eats_84 : decode cL_eats 84 = .ok (.bipush 17, 2) := by decide +kernel
theorem dL_eats_86 : decode cL_eats 86 = .ok (.iaload, 1) := by decide +kernel
theorem dL_eats_87 : decode cL_eats 87 = .ok (.iconst 1, 1) := by decide +kernel
theorem dL_eats_88 : decode cL_eats 88 = .ok (.iadd, 1) := by decide +kernel
theorem dL_eats_89 : decode cL_eats 89 = .ok (.bipush 20, 2) := by decide +kernel
theorem dL_eats_91 : decode cL_eats 91 = .ok (.invokestatic 15, 3) := by decide +kernel
theorem dL_eats_94 : decode cL_eats 94 = .ok (.ifCond .eq 7, 3) := by decide +kernel
theorem dL_eats_97 : decode cL_eats 97 = .ok (.iconst 1, 1) := by decide +kernel
theorem dL_eats_98 : decode cL_eats 98 = .ok (.goto 4, 3) := by decide +kernel
theorem dL_eats_101 : decode cL_eats 101 = .ok (.iconst 0, 1) := by decide +kernel
theorem dL_eats_102 : decode cL_eats 102 = .ok (.istore 5, 2) := by decide +kernel
theorem dL_eats_104 : decode cL_eats 104 = .ok (.iinc 4 (-1), 3) := by decide +kernel
theorem dL_eats_107 : decode cL_eats 107 = .ok (.goto (-63), 3) := by decide +kernel
theorem dL_eats_110 : decode cL_eats 110 = .ok (.iload 4, 2) := by decide +kernel
theorem dL_eats_112 : decode cL_eats 112 = .ok (.ifCond .le 7, 3) := by decide +kernel
theorem dL_eats_115 : decode cL_eats 115 = .ok (.iconst 1, 1) := by decide +kernel
theorem dL_eats_116 : decode cL_eats 116 = .ok (.goto 13, 3) := by decide +kernel
theorem dL_eats_119 : decode cL_eats 119 = .ok (.iload 5, 2) := by decide +kernel
theorem dL_eats_121 : decode cL_eats 121 = .ok (.ifCond .eq 7, 3) := by decide +kernel
theorem dL_eats_124 : decode cL_eats 124 = .ok (.iconst 2, 1) := by decide +kernel
theorem dL_eats_125 : decode cL_eats 125 = .ok (.goto 4, 3) := by decide +kernel
theorem dL_eats_128 : decode cL_eats 128 = .ok (.iconst 3, 1) := by decide +kernel
theorem dL_eats_129 : decode cL_eats 129 = .ok (.istore 6, 2) := by decide +kernel
theorem dL_eats_131 : decode cL_eats 131 = .ok (.aload_n 1, 1) := by decide +kernel
theorem dL_eats_132 : decode cL_eats 132 = .ok (.iload_n 3, 1) := by decide +kernel
theorem dL_eats_133 : decode cL_eats 133 = .ok (.iconst 4, 1) := by decide +kernel
theorem dL_eats_134 : decode cL_eats 134 = .ok (.iadd, 1) := by decide +kernel
theorem dL_eats_135 : decode cL_eats 135 = .ok (.dup2, 1) := by decide +kernel
theorem dL_eats_136 : decode cL_eats 136 = .ok (.iaload, 1) := by decide +kernel
theorem dL_eats_137 : decode cL_eats 137 = .ok (.iload 6, 2) := by decide +kernel
theorem dL_eats_139 : decode cL_eats 139 = .ok (.aload_n 1, 1) := by decide +kernel
theorem dL_eats_140 : decode cL_eats 140 = .ok (.iload_n 3, 1) := by decide +kernel
theorem dL_eats_141 : decode cL_eats 141 = .ok (.iconst 1, 1) := by decide +kernel
theorem dL_eats_142 : decode cL_eats 142 = .ok (.iadd, 1) := by decide +kernel
theorem dL_eats_143 : decode cL_eats 143 = .ok (.iaload, 1) := by decide +kernel
theorem dL_eats_144 : decode cL_eats 144 = .ok (.imul, 1) := by decide +kernel
theorem dL_eats_145 : decode cL_eats 145 = .ok (.iadd, 1) := by decide +kernel
theorem dL_eats_146 : decode cL_eats 146 = .ok (.iastore, 1) := by decide +kernel
theorem dL_eats_147 : decode cL_eats 147 = .ok (.aload_n 1, 1) := by decide +kernel
theorem dL_eats_148 : decode cL_eats 148 = .ok (.iload_n 3, 1) := by decide +kernel
theorem dL_eats_149 : decode cL_eats 149 = .ok (.iconst 5, 1) := by decide +kernel
theorem dL_eats_150 : decode cL_eats 150 = .ok (.iadd, 1) := by decide +kernel
theorem dL_eats_151 : decode cL_eats 151 = .ok (.dup2, 1) := by decide +kernel
theorem dL_eats_152 : decode cL_eats 152 = .ok (.iaload, 1) := by decide +kernel
theorem dL_eats_153 : decode cL_eats 153 = .ok (.iload 4, 2) := by decide +kernel
theorem dL_eats_155 : decode cL_eats 155 = .ok (.ifCond .le 7, 3) := by decide +kernel
theorem dL_eats_158 : decode cL_eats 158 = .ok (.iconst 1, 1) := by decide +kernel
theorem dL_eats_159 : decode cL_eats 159 = .ok (.goto 4, 3) := by decide +kernel
theorem dL_eats_162 : decode cL_eats 162 = .ok (.iconst 0, 1) := by decide +kernel
theorem dL_eats_163 : decode cL_eats 163 = .ok (.iadd, 1) := by decide +kernel
theorem dL_eats_164 : decode cL_eats 164 = .ok (.iastore, 1) := by decide +kernel
theorem dL_eats_165 : decode cL_eats 165 = .ok (.aload_n 0, 1) := by decide +kernel
theorem dL_eats_166 : decode cL_eats 166 = .ok (.iconst 5, 1) := by decide +kernel
theorem dL_eats_167 : decode cL_eats 167 = .ok (.dup2, 1) := by decide +kernel
theorem dL_eats_168 : decode cL_eats 168 = .ok (.iaload, 1) := by decide +kernel
theorem dL_eats_169 : decode cL_eats 169 = .ok (.iload 6, 2) := by decide +kernel
theorem dL_eats_171 : decode cL_eats 171 = .ok (.aload_n 1, 1) := by decide +kernel
theorem dL_eats_172 : decode cL_eats 172 = .ok (.iload_n 3, 1) := by decide +kernel
theorem dL_eats_173 : decode cL_eats 173 = .ok (.iconst 1, 1) := by decide +kernel
theorem dL_eats_174 : decode cL_eats 174 = .ok (.iadd, 1) := by decide +kernel
theorem dL_eats_175 : decode cL_eats 175 = .ok (.iaload, 1) := by decide +kernel
theorem dL_eats_176 : decode cL_eats 176 = .ok (.imul, 1) := by decide +kernel
theorem dL_eats_177 : decode cL_eats 177 = .ok (.iadd, 1) := by decide +kernel
theorem dL_eats_178 : decode cL_eats 178 = .ok (.iastore, 1) := by decide +kernel
theorem dL_eats_179 : decode cL_eats 179 = .ok (.aload_n 0, 1) := by decide +kernel
theorem dL_eats_180 : decode cL_eats 180 = .ok (.bipush 12, 2) := by decide +kernel
theorem dL_eats_182 : decode cL_eats 182 = .ok (.dup2, 1) := by decide +kernel
theorem dL_eats_183 : decode cL_eats 183 = .ok (.iaload, 1) := by decide +kernel
theorem dL_eats_184 : decode cL_eats 184 = .ok (.iload 4, 2) := by decide +kernel
theorem dL_eats_186 : decode cL_eats 186 = .ok (.ifCond .le 7, 3) := by decide +kernel
theorem dL_eats_189 : decode cL_eats 189 = .ok (.iconst 1, 1) := by decide +kernel
theorem dL_eats_190 : decode cL_eats 190 = .ok (.goto 4, 3) := by decide +kernel
theorem dL_eats_193 : decode cL_eats 193 = .ok (.iconst 0, 1) := by decide +kernel
theorem dL_eats_194 : decode cL_eats 194 = .ok (.iadd, 1) := by decide +kernel
theorem dL_eats_195 : decode cL_eats 195 = .ok (.iastore, 1) := by decide +kernel
theorem dL_eats_196 : decode cL_eats 196 = .ok (.aload_n 0, 1) := by decide +kernel
theorem dL_eats_197 : decode cL_eats 197 = .ok (.bipush 13, 2) := by decide +kernel
theorem dL_eats_199 : decode cL_eats 199 = .ok (.dup2, 1) := by decide +kernel
theorem dL_eats_200 : decode cL_eats 200 = .ok (.iaload, 1) := by decide +kernel
theorem dL_eats_201 : decode cL_eats 201 = .ok (.iload 6, 2) := by decide +kernel
theorem dL_eats_203 : decode cL_eats 203 = .ok (.aload_n 1, 1) := by decide +kernel
theorem dL_eats_204 : decode cL_eats 204 = .ok (.iload_n 3, 1) := by decide +kernel
theorem dL_eats_205 : decode cL_eats 205 = .ok (.iconst 1, 1) := by decide +kernel
theorem dL_eats_206 : decode cL_eats 206 = .ok (.iadd, 1) := by decide +kernel
theorem dL_eats_207 : decode cL_eats 207 = .ok (.iaload, 1) := by decide +kernel
theorem dL_eats_208 : decode cL_eats 208 = .ok (.imul, 1) := by decide +kernel
theorem dL_eats_209 : decode cL_eats 209 = .ok (.iadd, 1) := by decide +kernel
theorem dL_eats_210 : decode cL_eats 210 = .ok (.iastore, 1) := by decide +kernel
theorem dL_eats_211 : decode cL_eats 211 = .ok (.return_, 1) := by decide +kernel
theorem dL_goes_0 : decode cL_goes 0 = .ok (.aload_n 0, 1) := by decide +kernel
theorem dL_goes_1 : decode cL_goes 1 = .ok (.iconst 1, 1) := by decide +kernel
theorem dL_goes_2 : decode cL_goes 2 = .ok (.dup2, 1) := by decide +kernel
theorem dL_goes_3 : decode cL_goes 3 = .ok (.iaload, 1) := by decide +kernel
theorem dL_goes_4 : decode cL_goes 4 = .ok (.iconst 1, 1) := by decide +kernel
theorem dL_goes_5 : decode cL_goes 5 = .ok (.isub, 1) := by decide +kernel
theorem dL_goes_6 : decode cL_goes 6 = .ok (.iastore, 1) := by decide +kernel
theorem dL_goes_7 : decode cL_goes 7 = .ok (.bipush 6, 2) := by decide +kernel
theorem dL_goes_9 : decode cL_goes 9 = .ok (.iload_n 2, 1) := by decide +kernel
theorem dL_goes_10 : decode cL_goes 10 = .ok (.imul, 1) := by decide +kernel
theorem dL_goes_11 : decode cL_goes 11 = .ok (.istore_n 3, 1) := by decide +kernel
theorem dL_goes_12 : decode cL_goes 12 = .ok (.iload_n 3, 1) := by decide +kernel
theorem dL_goes_13 : decode cL_goes 13 = .ok (.bipush 6, 2) := by decide +kernel
theorem dL_goes_15 : decode cL_goes 15 = .ok (.aload_n 0, 1) := by decide +kernel
theorem dL_goes_16 : decode cL_goes 16 = .ok (.iconst 1, 1) := by decide +kernel
theorem dL_goes_17 : decode cL_goes 17 = .ok (.iaload, 1) := by decide +kernel
theorem dL_goes_18 : decode cL_goes 18 = .ok (.imul, 1) := by decide +kernel
theorem dL_goes_19 : decode cL_goes 19 = .ok (.if_icmp .ge 18, 3) := by decide +kernel
theorem dL_goes_22 : decode cL_goes 22 = .ok (.aload_n 1, 1) := by decide +kernel
theorem dL_goes_23 : decode cL_goes 23 = .ok (.iload_n 3, 1) := by decide +kernel
theorem dL_goes_24 : decode cL_goes 24 = .ok (.aload_n 1, 1) := by decide +kernel
theorem dL_goes_25 : decode cL_goes 25 = .ok (.iload_n 3, 1) := by decide +kernel
theorem dL_goes_26 : decode cL_goes 26 = .ok (.bipush 6, 2) := by decide +kernel
theorem dL_goes_28 : decode cL_goes 28 = .ok (.iadd, 1) := by decide +kernel
theorem dL_goes_29 : decode cL_goes 29 = .ok (.iaload, 1) := by decide +kernel
theorem dL_goes_30 : decode cL_goes 30 = .ok (.iastore, 1) := by decide +kernel
theorem dL_goes_31 : decode cL_goes 31 = .ok (.iinc 3 1, 3) := by decide +kernel
theorem dL_goes_34 : decode cL_goes 34 = .ok (.goto (-22), 3) := by decide +kernel
theorem dL_goes_37 : decode cL_goes 37 = .ok (.return_, 1) := by decide +kernel
theorem dL_day_0 : decode cL_day 0 = .ok (.aload_n 0, 1) := by decide +kernel
theorem dL_day_1 : decode cL_day 1 = .ok (.iconst 4, 1) := by decide +kernel
theorem dL_day_2 : decode cL_day 2 = .ok (.sipush 421, 3) := by decide +kernel
theorem dL_day_5 : decode cL_day 5 = .ok (.aload_n 0, 1) := by decide +kernel
theorem dL_day_6 : decode cL_day 6 = .ok (.iconst 4, 1) := by decide +kernel
theorem dL_day_7 : decode cL_day 7 = .ok (.iaload, 1) := by decide +kernel
theorem dL_day_8 : decode cL_day 8 = .ok (.imul, 1) := by decide +kernel
theorem dL_day_9 : decode cL_day 9 = .ok (.sipush 1663, 3) := by decide +kernel
theorem dL_day_12 : decode cL_day 12 = .ok (.iadd, 1) := by decide +kernel
theorem dL_day_13 : decode cL_day 13 = .ok (.sipush 10000, 3) := by decide +kernel
theorem dL_day_16 : decode cL_day 16 = .ok (.irem, 1) := by decide +kernel
theorem dL_day_17 : decode cL_day 17 = .ok (.iastore, 1) := by decide +kernel
theorem dL_day_18 : decode cL_day 18 = .ok (.aload_n 0, 1) := by decide +kernel
theorem dL_day_19 : decode cL_day 19 = .ok (.iconst 4, 1) := by decide +kernel
theorem dL_day_20 : decode cL_day 20 = .ok (.iaload, 1) := by decide +kernel
theorem dL_day_21 : decode cL_day 21 = .ok (.bipush 100, 2) := by decide +kernel
theorem dL_day_23 : decode cL_day 23 = .ok (.irem, 1) := by decide +kernel
theorem dL_day_24 : decode cL_day 24 = .ok (.aload_n 0, 1) := by decide +kernel
theorem dL_day_25 : decode cL_day 25 = .ok (.bipush 18, 2) := by decide +kernel
theorem dL_day_27 : decode cL_day 27 = .ok (.iaload, 1) := by decide +kernel
theorem dL_day_28 : decode cL_day 28 = .ok (.if_icmp .ge 7, 3) := by decide +kernel
theorem dL_day_31 : decode cL_day 31 = .ok (.iconst 1, 1) := by decide +kernel
theorem dL_day_32 : decode cL_day 32 = .ok (.goto 4, 3) := by decide +kernel
theorem dL_day_35 : decode cL_day 35 = .ok (.iconst 0, 1) := by decide +kernel
theorem dL_day_36 : decode cL_day 36 = .ok (.istore 4, 2) := by decide +kernel
theorem dL_day_38 : decode cL_day 38 = .ok (.aload_n 0, 1) := by decide +kernel
theorem dL_day_39 : decode cL_day 39 = .ok (.bipush 11, 2) := by decide +kernel
theorem dL_day_41 : decode cL_day 41 = .ok (.dup2, 1) := by decide +kernel
theorem dL_day_42 : decode cL_day 42 = .ok (.iaload, 1) := by decide +kernel
theorem dL_day_43 : decode cL_day 43 = .ok (.iload 4, 2) := by decide +kernel
theorem dL_day_45 : decode cL_day 45 = .ok (.ifCond .eq 7, 3) := by decide +kernel
theorem dL_day_48 : decode cL_day 48 = .ok (.iconst 1, 1) := by decide +kernel
theorem dL_day_49 : decode cL_day 49 = .ok (.goto 4, 3) := by decide +kernel
theorem dL_day_52 : decode cL_day 52 = .ok (.iconst 0, 1) := by decide +kernel
theorem dL_day_53 : decode cL_day 53 = .ok (.iadd, 1) := by decide +kernel
theorem dL_day_54 : decode cL_day 54 = .ok (.iastore, 1) := by decide +kernel
theorem dL_day_55 : decode cL_day 55 = .ok (.iconst 0, 1) := by decide +kernel
theorem dL_day_56 : decode cL_day 56 = .ok (.istore 5, 2) := by decide +kernel
theorem dL_day_58 : decode cL_day 58 = .ok (.iload 5, 2) := by decide +kernel
theorem dL_day_60 : decode cL_day 60 = .ok (.bipush 9, 2) := by decide +kernel
theorem dL_day_62 : decode cL_day 62 = .ok (.aload_n 0, 1) := by decide +kernel
theorem dL_day_63 : decode cL_day 63 = .ok (.iconst 0, 1) := by decide +kernel
theorem dL_day_64 : decode cL_day 64 = .ok (.iaload, 1) := by decide +kernel
theorem dL_day_65 : decode cL_day 65 = .ok (.imul, 1) := by decide +kernel
theorem dL_day_66 : decode cL_day 66 = .ok (.if_icmp .ge 41, 3) := by decide +kernel
theorem dL_day_69 : decode cL_day 69 = .ok (.aload_n 1, 1) := by decide +kernel
theorem dL_day_70 : decode cL_day 70 = .ok (.iload 5, 2) := by decide +kernel
theorem dL_day_72 : decode cL_day 72 = .ok (.iconst 2, 1) := by decide +kernel
theorem dL_day_73 : decode cL_day 73 = .ok (.iadd, 1) := by decide +kernel
theorem dL_day_74 : decode cL_day 74 = .ok (.iaload, 1) := by decide +kernel
theorem dL_day_75 : decode cL_day 75 = .ok (.iconst 3, 1) := by decide +kernel
theorem dL_day_76 : decode cL_day 76 = .ok (.if_icmp .eq 17, 3) := by decide +kernel
theorem dL_day_79 : decode cL_day 79 = .ok (.aload_n 1, 1) := by decide +kernel
theorem dL_day_80 : decode cL_day 80 = .ok (.iload 5, 2) := by decide +kernel
theorem dL_day_82 : decode cL_day 82 = .ok (.iconst 2, 1) := by decide +kernel
theorem dL_day_83 : decode cL_day 83 = .ok (.iadd, 1) := by decide +kernel
theorem dL_day_84 : decode cL_day 84 = .ok (.iaload, 1) := by decide +kernel
theorem dL_day_85 : decode cL_day 85 = .ok (.ifCond .le 16, 3) := by decide +kernel
theorem dL_day_88 : decode cL_day 88 = .ok (.iload 4, 2) := by decide +kernel
theorem dL_day_90 : decode cL_day 90 = .ok (.ifCond .ne 11, 3) := by decide +kernel
theorem dL_day_93 : decode cL_day 93 = .ok (.aload_n 0, 1) := by decide +kernel
theorem dL_day_94 : decode cL_day 94 = .ok (.aload_n 1, 1) := by decide +kernel
theorem dL_day_95 : decode cL_day 95 = .ok (.aload_n 3, 1) := by decide +kernel
theorem dL_day_96 : decode cL_day 96 = .ok (.iload 5, 2) := by decide +kernel
theorem dL_day_98 : decode cL_day 98 = .ok (.invokestatic 19, 3) := by decide +kernel
theorem dL_day_101 : decode cL_day 101 = .ok (.iinc 5 9, 3) := by decide +kernel
theorem dL_day_104 : decode cL_day 104 = .ok (.goto (-46), 3) := by decide +kernel
theorem dL_day_107 : decode cL_day 107 = .ok (.iconst 0, 1) := by decide +kernel
theorem dL_day_108 : decode cL_day 108 = .ok (.istore 5, 2) := by decide +kernel
theorem dL_day_110 : decode cL_day 110 = .ok (.iload 5, 2) := by decide +kernel
theorem dL_day_112 : decode cL_day 112 = .ok (.bipush 6, 2) := by decide +kernel
theorem dL_day_114 : decode cL_day 114 = .ok (.aload_n 0, 1) := by decide +kernel
theorem dL_day_115 : decode cL_day 115 = .ok (.iconst 1, 1) := by decide +kernel
theorem dL_day_116 : decode cL_day 116 = .ok (.iaload, 1) := by decide +kernel
theorem dL_day_117 : decode cL_day 117 = .ok (.imul, 1) := by decide +kernel
theorem dL_day_118 : decode cL_day 118 = .ok (.if_icmp .ge 48, 3) := by decide +kernel
theorem dL_day_121 : decode cL_day 121 = .ok (.aload_n 0, 1) := by decide +kernel
theorem dL_day_122 : decode cL_day 122 = .ok (.iconst 3, 1) := by decide +kernel
theorem dL_day_123 : decode cL_day 123 = .ok (.iaload, 1) := by decide +kernel
theorem dL_day_124 : decode cL_day 124 = .ok (.aload_n 2, 1) := by decide +kernel
theorem dL_day_125 : decode cL_day 125 = .ok (.iload 5, 2) := by decide +kernel
theorem dL_day_127 : decode cL_day 127 = .ok (.iconst 2, 1) := by decide +kernel
theorem dL_day_128 : decode cL_day 128 = .ok (.iadd, 1) := by decide +kernel
theorem dL_day_129 : decode cL_day 129 = .ok (.iaload, 1) := by decide +kernel
theorem dL_day_130 : decode cL_day 130 = .ok (.if_icmp .lt 30, 3) := by decide +kernel
theorem dL_day_133 : decode cL_day 133 = .ok (.aload_n 0, 1) := by decide +kernel
theorem dL_day_134 : decode cL_day 134 = .ok (.iconst 3, 1) := by decide +kernel
theorem dL_day_135 : decode cL_day 135 = .ok (.iaload, 1) := by decide +kernel
theorem dL_day_136 : decode cL_day 136 = .ok (.aload_n 2, 1) := by decide +kernel
theorem dL_day_137 : decode cL_day 137 = .ok (.iload 5, 2) := by decide +kernel
theorem dL_day_139 : decode cL_day 139 = .ok (.iconst 2, 1) := by decide +kernel
theorem dL_day_140 : decode cL_day 140 = .ok (.iadd, 1) := by decide +kernel
theorem dL_day_141 : decode cL_day 141 = .ok (.iaload, 1) := by decide +kernel
theorem dL_day_142 : decode cL_day 142 = .ok (.aload_n 2, 1) := by decide +kernel
theorem dL_day_143 : decode cL_day 143 = .ok (.iload 5, 2) := by decide +kernel
theorem dL_day_145 : decode cL_day 145 = .ok (.iconst 3, 1) := by decide +kernel
theorem dL_day_146 : decode cL_day 146 = .ok (.iadd, 1) := by decide +kernel
theorem dL_day_147 : decode cL_day 147 = .ok (.iaload, 1) := by decide +kernel
theorem dL_day_148 : decode cL_day 148 = .ok (.iadd, 1) := by decide +kernel
theorem dL_day_149 : decode cL_day 149 = .ok (.if_icmp .ge 11, 3) := by decide +kernel
theorem dL_day_152 : decode cL_day 152 = .ok (.aload_n 0, 1) := by decide +kernel
theorem dL_day_153 : decode cL_day 153 = .ok (.aload_n 2, 1) := by decide +kernel
theorem dL_day_154 : decode cL_day 154 = .ok (.aload_n 3, 1) := by decide +kernel
theorem dL_day_155 : decode cL_day 155 = .ok (.iload 5, 2) := by decide +kernel
theorem dL_day_157 : decode cL_day 157 = .ok (.invokestatic 23, 3) := by decide +kernel
theorem dL_day_160 : decode cL_day 160 = .ok (.iinc 5 6, 3) := by decide +kernel
theorem dL_day_163 : decode cL_day 163 = .ok (.goto (-53), 3) := by decide +kernel
theorem dL_day_166 : decode cL_day 166 = .ok (.aload_n 0, 1) := by decide +kernel
theorem dL_day_167 : decode cL_day 167 = .ok (.bipush 9, 2) := by decide +kernel
theorem dL_day_169 : decode cL_day 169 = .ok (.dup2, 1) := by decide +kernel
theorem dL_day_170 : decode cL_day 170 = .ok (.iaload, 1) := by decide +kernel
theorem dL_day_171 : decode cL_day 171 = .ok (.aload_n 3, 1) := by decide +kernel
theorem dL_day_172 : decode cL_day 172 = .ok (.bipush 20, 2) := by decide +kernel
theorem dL_day_174 : decode cL_day 174 = .ok (.iaload, 1) := by decide +kernel
theorem dL_day_175 : decode cL_day 175 = .ok (.iadd, 1) := by decide +kernel
theorem dL_day_176 : decode cL_day 176 = .ok (.iastore, 1) := by decide +kernel
theorem dL_day_177 : decode cL_day 177 = .ok (.bipush 20, 2) := by decide +kernel
theorem dL_day_179 : decode cL_day 179 = .ok (.istore 5, 2) := by decide +kernel
theorem dL_day_181 : decode cL_day 181 = .ok (.iload 5, 2) := by decide +kernel
theorem dL_day_183 : decode cL_day 183 = .ok (.ifCond .le 19, 3) := by decide +kernel
theorem dL_day_186 : decode cL_day 186 = .ok (.aload_n 3, 1) := by decide +kernel
theorem dL_day_187 : decode cL_day 187 = .ok (.iload 5, 2) := by decide +kernel
theorem dL_day_189 : decode cL_day 189 = .ok (.aload_n 3, 1) := by decide +kernel
theorem dL_day_190 : decode cL_day 190 = .ok (.iload 5, 2) := by decide +kernel
theorem dL_day_192 : decode cL_day 192 = .ok (.iconst 1, 1) := by decide +kernel
theorem dL_day_193 : decode cL_day 193 = .ok (.isub, 1) := by decide +kernel
theorem dL_day_194 : decode cL_day 194 = .ok (.iaload, 1) := by decide +kernel
theorem dL_day_195 : decode cL_day 195 = .ok (.iastore, 1) := by decide +kernel
theorem dL_day_196 : decode cL_day 196 = .ok (.iinc 5 (-1), 3) := by decide +kernel
theorem dL_day_199 : decode cL_day 199 = .ok (.goto (-18), 3) := by decide +kernel
theorem dL_day_202 : decode cL_day 202 = .ok (.aload_n 3, 1) := by decide +kernel
theorem dL_day_203 : decode cL_day 203 = .ok (.iconst 0, 1) := by decide +kernel
theorem dL_day_204 : decode cL_day 204 = .ok (.iconst 0, 1) := by decide +kernel
theorem dL_day_205 : decode cL_day 205 = .ok (.iastore, 1) := by decide +kernel
theorem dL_day_206 : decode cL_day 206 = .ok (.aload_n 0, 1) := by decide +kernel
theorem dL_day_207 : decode cL_day 207 = .ok (.iconst 3, 1) := by decide +kernel
theorem dL_day_208 : decode cL_day 208 = .ok (.dup2, 1) := by decide +kernel
theorem dL_day_209 : decode cL_day 209 = .ok (.iaload, 1) := by decide +kernel
theorem dL_day_210 : decode cL_day 210 = .ok (.iconst 1, 1) := by decide +kernel
theorem dL_day_211 : decode cL_day 211 = .ok (.iadd, 1) := by decide +kernel
theorem dL_day_212 : decode cL_day 212 = .ok (.iastore, 1) := by decide +kernel
theorem dL_day_213 : decode cL_day 213 = .ok (.iconst 0, 1) := by decide +kernel
theorem dL_day_214 : decode cL_day 214 = .ok (.istore 5, 2) := by decide +kernel
theorem dL_day_216 : decode cL_day 216 = .ok (.iload 5, 2) := by decide +kernel
theorem dL_day_218 : decode cL_day 218 = .ok (.aload_n 0, 1) := by decide +kernel
theorem dL_day_219 : decode cL_day 219 = .ok (.iconst 1, 1) := by decide +kernel
theorem dL_day_220 : decode cL_day 220 = .ok (.iaload, 1) := by decide +kernel
theorem dL_day_221 : decode cL_day 221 = .ok (.if_icmp .ge 44, 3) := by decide +kernel
theorem dL_day_224 : decode cL_day 224 = .ok (.aload_n 2, 1) := by decide +kernel
theorem dL_day_225 : decode cL_day 225 = .ok (.bipush 6, 2) := by decide +kernel
theorem dL_day_227 : decode cL_day 227 = .ok (.iload 5, 2) := by decide +kernel
theorem dL_day_229 : decode cL_day 229 = .ok (.imul, 1) := by decide +kernel
theorem dL_day_230 : decode cL_day 230 = .ok (.iconst 2, 1) := by decide +kernel
theorem dL_day_231 : decode cL_day 231 = .ok (.iadd, 1) := by decide +kernel
theorem dL_day_232 : decode cL_day 232 = .ok (.iaload, 1) := by decide +kernel
theorem dL_day_233 : decode cL_day 233 = .ok (.aload_n 2, 1) := by decide +kernel
theorem dL_day_234 : decode cL_day 234 = .ok (.bipush 6, 2) := by decide +kernel
theorem dL_day_236 : decode cL_day 236 = .ok (.iload 5, 2) := by decide +kernel
theorem dL_day_238 : decode cL_day 238 = .ok (.imul, 1) := by decide +kernel
theorem dL_day_239 : decode cL_day 239 = .ok (.iconst 3, 1) := by decide +kernel
theorem dL_day_240 : decode cL_day 240 = .ok (.iadd, 1) := by decide +kernel
theorem dL_day_241 : decode cL_day 241 = .ok (.iaload, 1) := by decide +kernel
theorem dL_day_242 : decode cL_day 242 = .ok (.iadd, 1) := by decide +kernel
theorem dL_day_243 : decode cL_day 243 = .ok (.aload_n 0, 1) := by decide +kernel
theorem dL_day_244 : decode cL_day 244 = .ok (.iconst 3, 1) := by decide +kernel
theorem dL_day_245 : decode cL_day 245 = .ok (.iaload, 1) := by decide +kernel
theorem dL_day_246 : decode cL_day 246 = .ok (.if_icmp .ne 13, 3) := by decide +kernel
theorem dL_day_249 : decode cL_day 249 = .ok (.aload_n 0, 1) := by decide +kernel
theorem dL_day_250 : decode cL_day 250 = .ok (.aload_n 2, 1) := by decide +kernel
theorem dL_day_251 : decode cL_day 251 = .ok (.iload 5, 2) := by decide +kernel
theorem dL_day_253 : decode cL_day 253 = .ok (.invokestatic 26, 3) := by decide +kernel
theorem dL_day_256 : decode cL_day 256 = .ok (.goto (-40), 3) := by decide +kernel
theorem dL_day_259 : decode cL_day 259 = .ok (.iinc 5 1, 3) := by decide +kernel
theorem dL_day_262 : decode cL_day 262 = .ok (.goto (-46), 3) := by decide +kernel
theorem dL_day_265 : decode cL_day 265 = .ok (.return_, 1) := by decide +kernel
theorem dL_why_0 : decode cL_why 0 = .ok (.aload_n 1, 1) := by decide +kernel
theorem dL_why_1 : decode cL_why 1 = .ok (.bipush 9, 2) := by decide +kernel
theorem dL_why_3 : decode cL_why 3 = .ok (.iload_n 2, 1) := by decide +kernel
theorem dL_why_4 : decode cL_why 4 = .ok (.imul, 1) := by decide +kernel
theorem dL_why_5 : decode cL_why 5 = .ok (.iconst 2, 1) := by decide +kernel
theorem dL_why_6 : decode cL_why 6 = .ok (.iadd, 1) := by decide +kernel
theorem dL_why_7 : decode cL_why 7 = .ok (.iaload, 1) := by decide +kernel
theorem dL_why_8 : decode cL_why 8 = .ok (.ifCond .le 7, 3) := by decide +kernel
theorem dL_why_11 : decode cL_why 11 = .ok (.iconst 1, 1) := by decide +kernel
theorem dL_why_12 : decode cL_why 12 = .ok (.goto 40, 3) := by decide +kernel
theorem dL_why_15 : decode cL_why 15 = .ok (.iload_n 3, 1) := by decide +kernel
theorem dL_why_16 : decode cL_why 16 = .ok (.aload_n 1, 1) := by decide +kernel
theorem dL_why_17 : decode cL_why 17 = .ok (.bipush 9, 2) := by decide +kernel
theorem dL_why_19 : decode cL_why 19 = .ok (.iload_n 2, 1) := by decide +kernel
theorem dL_why_20 : decode cL_why 20 = .ok (.imul, 1) := by decide +kernel
theorem dL_why_21 : decode cL_why 21 = .ok (.iaload, 1) := by decide +kernel
theorem dL_why_22 : decode cL_why 22 = .ok (.if_icmp .le 7, 3) := by decide +kernel
theorem dL_why_25 : decode cL_why 25 = .ok (.iconst 2, 1) := by decide +kernel
theorem dL_why_26 : decode cL_why 26 = .ok (.goto 26, 3) := by decide +kernel
theorem dL_why_29 : decode cL_why 29 = .ok (.aload_n 0, 1) := by decide +kernel
theorem dL_why_30 : decode cL_why 30 = .ok (.bipush 6, 2) := by decide +kernel
theorem dL_why_32 : decode cL_why 32 = .ok (.iaload, 1) := by decide +kernel
theorem dL_why_33 : decode cL_why 33 = .ok (.aload_n 0, 1) := by decide +kernel
theorem dL_why_34 : decode cL_why 34 = .ok (.bipush 15, 2) := by decide +kernel
theorem dL_why_36 : decode cL_why 36 = .ok (.iaload, 1) := by decide +kernel
theorem dL_why_37 : decode cL_why 37 = .ok (.iload_n 3, 1) := by decide +kernel
theorem dL_why_38 : decode cL_why 38 = .ok (.imul, 1) := by decide +kernel
theorem dL_why_39 : decode cL_why 39 = .ok (.iadd, 1) := by decide +kernel
theorem dL_why_40 : decode cL_why 40 = .ok (.aload_n 0, 1) := by decide +kernel
theorem dL_why_41 : decode cL_why 41 = .ok (.bipush 16, 2) := by decide +kernel
theorem dL_why_43 : decode cL_why 43 = .ok (.iaload, 1) := by decide +kernel
theorem dL_why_44 : decode cL_why 44 = .ok (.if_icmp .le 7, 3) := by decide +kernel
theorem dL_why_47 : decode cL_why 47 = .ok (.iconst 3, 1) := by decide +kernel
theorem dL_why_48 : decode cL_why 48 = .ok (.goto 4, 3) := by decide +kernel
theorem dL_why_51 : decode cL_why 51 = .ok (.iconst 0, 1) := by decide +kernel
theorem dL_why_52 : decode cL_why 52 = .ok (.ireturn, 1) := by decide +kernel
theorem dL_mules_0 : decode cL_mules 0 = .ok (.iload_n 3, 1) := by decide +kernel
theorem dL_mules_1 : decode cL_mules 1 = .ok (.iconst 2, 1) := by decide +kernel
theorem dL_mules_2 : decode cL_mules 2 = .ok (.if_icmp .ge 139, 3) := by decide +kernel
theorem dL_mules_5 : decode cL_mules 5 = .ok (.iconst 1, 1) := by decide +kernel
theorem dL_mules_6 : decode cL_mules 6 = .ok (.iload 4, 2) := by decide +kernel
theorem dL_mules_8 : decode cL_mules 8 = .ok (.bipush 30, 2) := by decide +kernel
theorem dL_mules_10 : decode cL_mules 10 = .ok (.irem, 1) := by decide +kernel
theorem dL_mules_11 : decode cL_mules 11 = .ok (.iadd, 1) := by decide +kernel
theorem dL_mules_12 : decode cL_mules 12 = .ok (.istore 5, 2) := by decide +kernel
theorem dL_mules_14 : decode cL_mules 14 = .ok (.iconst 1, 1) := by decide +kernel
theorem dL_mules_15 : decode cL_mules 15 = .ok (.iload 4, 2) := by decide +kernel
theorem dL_mules_17 : decode cL_mules 17 = .ok (.bipush 30, 2) := by decide +kernel
theorem dL_mules_19 : decode cL_mules 19 = .ok (.idiv, 1) := by decide +kernel
theorem dL_mules_20 : decode cL_mules 20 = .ok (.iload 4, 2) := by decide +kernel
theorem dL_mules_22 : decode cL_mules 22 = .ok (.iconst 4, 1) := by decide +kernel
theorem dL_mules_23 : decode cL_mules 23 = .ok (.irem, 1) := by decide +kernel
theorem dL_mules_24 : decode cL_mules 24 = .ok (.ifCond .ne 8, 3) := by decide +kernel
theorem dL_mules_27 : decode cL_mules 27 = .ok (.bipush 9, 2) := by decide +kernel
theorem dL_mules_29 : decode cL_mules 29 = .ok (.goto 4, 3) := by decide +kernel
theorem dL_mules_32 : decode cL_mules 32 = .ok (.iconst 3, 1) := by decide +kernel
theorem dL_mules_33 : decode cL_mules 33 = .ok (.irem, 1) := by decide +kernel
theorem dL_mules_34 : decode cL_mules 34 = .ok (.iadd, 1) := by decide +kernel
theorem dL_mules_35 : decode cL_mules 35 = .ok (.istore 6, 2) := by decide +kernel
theorem dL_mules_37 : decode cL_mules 37 = .ok (.aload_n 1, 1) := by decide +kernel
theorem dL_mules_38 : decode cL_mules 38 = .ok (.iconst 0, 1) := by decide +kernel
theorem dL_mules_39 : decode cL_mules 39 = .ok (.iaload, 1) := by decide +kernel
theorem dL_mules_40 : decode cL_mules 40 = .ok (.iconst 4, 1) := by decide +kernel
theorem dL_mules_41 : decode cL_mules 41 = .ok (.if_icmp .ne 22, 3) := by decide +kernel
theorem dL_mules_44 : decode cL_mules 44 = .ok (.aload_n 0, 1) := by decide +kernel
theorem dL_mules_45 : decode cL_mules 45 = .ok (.iload 5, 2) := by decide +kernel
theorem dL_mules_47 : decode cL_mules 47 = .ok (.iload 6, 2) := by decide +kernel
theorem dL_mules_49 : decode cL_mules 49 = .ok (.invokevirtual 30, 3) := by decide +kernel
theorem dL_mules_52 : decode cL_mules 52 = .ok (.ldc 36, 2) := by decide +kernel
theorem dL_mules_54 : decode cL_mules 54 = .ok (.if_icmp .ne 7, 3) := by decide +kernel
theorem dL_mules_57 : decode cL_mules 57 = .ok (.iconst 1, 1) := by decide +kernel
theorem dL_mules_58 : decode cL_mules 58 = .ok (.goto 4, 3) := by decide +kernel
theorem dL_mules_61 : decode cL_mules 61 = .ok (.iconst 0, 1) := by decide +kernel
theorem dL_mules_62 : decode cL_mules 62 = .ok (.ireturn, 1) := by decide +kernel
theorem dL_mules_63 : decode cL_mules 63 = .ok (.iconst 0, 1) := by decide +kernel
theorem dL_mules_64 : decode cL_mules 64 = .ok (.istore 7, 2) := by decide +kernel
theorem dL_mules_66 : decode cL_mules 66 = .ok (.iload 7, 2) := by decide +kernel
theorem dL_mules_68 : decode cL_mules 68 = .ok (.bipush 9, 2) := by decide +kernel
theorem dL_mules_70 : decode cL_mules 70 = .ok (.if_icmp .ge 42, 3) := by decide +kernel
theorem dL_mules_73 : decode cL_mules 73 = .ok (.aload_n 2, 1) := by decide +kernel
theorem dL_mules_74 : decode cL_mules 74 = .ok (.bipush 9, 2) := by decide +kernel
theorem dL_mules_76 : decode cL_mules 76 = .ok (.aload_n 1, 1) := by decide +kernel
theorem dL_mules_77 : decode cL_mules 77 = .ok (.iconst 0, 1) := by decide +kernel
theorem dL_mules_78 : decode cL_mules 78 = .ok (.iaload, 1) := by decide +kernel
theorem dL_mules_79 : decode cL_mules 79 = .ok (.imul, 1) := by decide +kernel
theorem dL_mules_80 : decode cL_mules 80 = .ok (.iload 7, 2) := by decide +kernel
theorem dL_mules_82 : decode cL_mules 82 = .ok (.iadd, 1) := by decide +kernel
theorem dL_mules_83 : decode cL_mules 83 = .ok (.iload 7, 2) := by decide +kernel
theorem dL_mules_85 : decode cL_mules 85 = .ok (.ifCond .ne 8, 3) := by decide +kernel
theorem dL_mules_88 : decode cL_mules 88 = .ok (.iload 5, 2) := by decide +kernel
theorem dL_mules_90 : decode cL_mules 90 = .ok (.goto 15, 3) := by decide +kernel
theorem dL_mules_93 : decode cL_mules 93 = .ok (.iload 7, 2) := by decide +kernel
theorem dL_mules_95 : decode cL_mules 95 = .ok (.iconst 1, 1) := by decide +kernel
theorem dL_mules_96 : decode cL_mules 96 = .ok (.if_icmp .ne 8, 3) := by decide +kernel
theorem dL_mules_99 : decode cL_mules 99 = .ok (.iload 6, 2) := by decide +kernel
theorem dL_mules_101 : decode cL_mules 101 = .ok (.goto 4, 3) := by decide +kernel
theorem dL_mules_104 : decode cL_mules 104 = .ok (.iconst 0, 1) := by decide +kernel
theorem dL_mules_105 : decode cL_mules 105 = .ok (.iastore, 1) := by decide +kernel
theorem dL_mules_106 : decode cL_mules 106 = .ok (.iinc 7 1, 3) := by decide +kernel
theorem dL_mules_109 : decode cL_mules 109 = .ok (.goto (-43), 3) := by decide +kernel
theorem dL_mules_112 : decode cL_mules 112 = .ok (.aload_n 1, 1) := by decide +kernel
theorem dL_mules_113 : decode cL_mules 113 = .ok (.iconst 0, 1) := by decide +kernel
theorem dL_mules_114 : decode cL_mules 114 = .ok (.dup2, 1) := by decide +kernel
theorem dL_mules_115 : decode cL_mules 115 = .ok (.iaload, 1) := by decide +kernel
theorem dL_mules_116 : decode cL_mules 116 = .ok (.iconst 1, 1) := by decide +kernel
theorem dL_mules_117 : decode cL_mules 117 = .ok (.iadd, 1) := by decide +kernel
theorem dL_mules_118 : decode cL_mules 118 = .ok (.iastore, 1) := by decide +kernel
theorem dL_mules_119 : decode cL_mules 119 = .ok (.aload_n 0, 1) := by decide +kernel
theorem dL_mules_120 : decode cL_mules 120 = .ok (.iload 5, 2) := by decide +kernel
theorem dL_mules_122 : decode cL_mules 122 = .ok (.iload 6, 2) := by decide +kernel
theorem dL_mules_124 : decode cL_mules 124 = .ok (.invokevirtual 30, 3) := by decide +kernel
theorem dL_mules_127 : decode cL_mules 127 = .ok (.aload_n 1, 1) := by decide +kernel
theorem dL_mules_128 : decode cL_mules 128 = .ok (.iconst 0, 1) := by decide +kernel
theorem dL_mules_129 : decode cL_mules 129 = .ok (.iaload, 1) := by decide +kernel
theorem dL_mules_130 : decode cL_mules 130 = .ok (.iconst 1, 1) := by decide +kernel
theorem dL_mules_131 : decode cL_mules 131 = .ok (.isub, 1) := by decide +kernel
theorem dL_mules_132 : decode cL_mules 132 = .ok (.if_icmp .ne 7, 3) := by decide +kernel
theorem dL_mules_135 : decode cL_mules 135 = .ok (.iconst 1, 1) := by decide +kernel
theorem dL_mules_136 : decode cL_mules 136 = .ok (.goto 4, 3) := by decide +kernel
theorem dL_mules_139 : decode cL_mules 139 = .ok (.iconst 0, 1) := by decide +kernel
theorem dL_mules_140 : decode cL_mules 140 = .ok (.ireturn, 1) := by decide +kernel
theorem dL_mules_141 : decode cL_mules 141 = .ok (.aload_n 1, 1) := by decide +kernel
theorem dL_mules_142 : decode cL_mules 142 = .ok (.iconst 0, 1) := by decide +kernel
theorem dL_mules_143 : decode cL_mules 143 = .ok (.iaload, 1) := by decide +kernel
theorem dL_mules_144 : decode cL_mules 144 = .ok (.ifCond .ne 30, 3) := by decide +kernel
theorem dL_mules_147 : decode cL_mules 147 = .ok (.aload_n 0, 1) := by decide +kernel
theorem dL_mules_148 : decode cL_mules 148 = .ok (.iconst 0, 1) := by decide +kernel
theorem dL_mules_149 : decode cL_mules 149 = .ok (.iconst 1, 1) := by decide +kernel
theorem dL_mules_150 : decode cL_mules 150 = .ok (.invokevirtual 37, 3) := by decide +kernel
theorem dL_mules_153 : decode cL_mules 153 = .ok (.ldc 40, 2) := by decide +kernel
theorem dL_mules_155 : decode cL_mules 155 = .ok (.if_icmp .ne 17, 3) := by decide +kernel
theorem dL_mules_158 : decode cL_mules 158 = .ok (.aload_n 0, 1) := by decide +kernel
theorem dL_mules_159 : decode cL_mules 159 = .ok (.iconst 0, 1) := by decide +kernel
theorem dL_mules_160 : decode cL_mules 160 = .ok (.invokevirtual 41, 3) := by decide +kernel
theorem dL_mules_163 : decode cL_mules 163 = .ok (.ldc 40, 2) := by decide +kernel
theorem dL_mules_165 : decode cL_mules 165 = .ok (.if_icmp .ne 7, 3) := by decide +kernel
theorem dL_mules_168 : decode cL_mules 168 = .ok (.iconst 1, 1) := by decide +kernel
theorem dL_mules_169 : decode cL_mules 169 = .ok (.goto 4, 3) := by decide +kernel
theorem dL_mules_172 : decode cL_mules 172 = .ok (.iconst 0, 1) := by decide +kernel
theorem dL_mules_173 : decode cL_mules 173 = .ok (.ireturn, 1) := by decide +kernel
theorem dL_mules_174 : decode cL_mules 174 = .ok (.iload 4, 2) := by decide +kernel
theorem dL_mules_176 : decode cL_mules 176 = .ok (.aload_n 1, 1) := by decide +kernel
theorem dL_mules_177 : decode cL_mules 177 = .ok (.iconst 0, 1) := by decide +kernel
theorem dL_mules_178 : decode cL_mules 178 = .ok (.iaload, 1) := by decide +kernel
theorem dL_mules_179 : decode cL_mules 179 = .ok (.irem, 1) := by decide +kernel
theorem dL_mules_180 : decode cL_mules 180 = .ok (.istore 5, 2) := by decide +kernel
theorem dL_mules_182 : decode cL_mules 182 = .ok (.bipush 9, 2) := by decide +kernel
theorem dL_mules_184 : decode cL_mules 184 = .ok (.iload 5, 2) := by decide +kernel
theorem dL_mules_186 : decode cL_mules 186 = .ok (.imul, 1) := by decide +kernel
