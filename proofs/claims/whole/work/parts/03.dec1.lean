theorem dX6_init_21 : decode cX6_init 21 = .ok (.bipush 10, 2) := by decide +kernel
theorem dX6_init_23 : decode cX6_init 23 = .ok (.putfield 21, 3) := by decide +kernel
theorem dX6_init_26 : decode cX6_init 26 = .ok (.return_, 1) := by decide +kernel
theorem dX6_copyFrom_0 : decode cX6_copyFrom 0 = .ok (.aload_n 0, 1) := by decide +kernel
theorem dX6_copyFrom_1 : decode cX6_copyFrom 1 = .ok (.aload_n 1, 1) := by decide +kernel
theorem dX6_copyFrom_2 : decode cX6_copyFrom 2 = .ok (.getfield 9, 3) := by decide +kernel
theorem dX6_copyFrom_5 : decode cX6_copyFrom 5 = .ok (.putfield 9, 3) := by decide +kernel
theorem dX6_copyFrom_8 : decode cX6_copyFrom 8 = .ok (.aload_n 0, 1) := by decide +kernel
theorem dX6_copyFrom_9 : decode cX6_copyFrom 9 = .ok (.aload_n 1, 1) := by decide +kernel
theorem dX6_copyFrom_10 : decode cX6_copyFrom 10 = .ok (.getfield 15, 3) := by decide +kernel
theorem dX6_copyFrom_13 : decode cX6_copyFrom 13 = .ok (.putfield 15, 3) := by decide +kernel
theorem dX6_copyFrom_16 : decode cX6_copyFrom 16 = .ok (.aload_n 0, 1) := by decide +kernel
theorem dX6_copyFrom_17 : decode cX6_copyFrom 17 = .ok (.aload_n 1, 1) := by decide +kernel
theorem dX6_copyFrom_18 : decode cX6_copyFrom 18 = .ok (.getfield 18, 3) := by decide +kernel
theorem dX6_copyFrom_21 : decode cX6_copyFrom 21 = .ok (.putfield 18, 3) := by decide +kernel
theorem dX6_copyFrom_24 : decode cX6_copyFrom 24 = .ok (.aload_n 0, 1) := by decide +kernel
theorem dX6_copyFrom_25 : decode cX6_copyFrom 25 = .ok (.aload_n 1, 1) := by decide +kernel
theorem dX6_copyFrom_26 : decode cX6_copyFrom 26 = .ok (.getfield 21, 3) := by decide +kernel
theorem dX6_copyFrom_29 : decode cX6_copyFrom 29 = .ok (.putfield 21, 3) := by decide +kernel
theorem dX6_copyFrom_32 : decode cX6_copyFrom 32 = .ok (.return_, 1) := by decide +kernel
theorem dX6_tell_0 : decode cX6_tell 0 = .ok (.iload_n 1, 1) := by decide +kernel
theorem dX6_tell_1 : decode cX6_tell 1 = .ok (.tableswitch 51 0 3 #[31, 36, 41, 46], 31) := by decide +kernel
theorem dX6_tell_32 : decode cX6_tell 32 = .ok (.aload_n 0, 1) := by decide +kernel
theorem dX6_tell_33 : decode cX6_tell 33 = .ok (.getfield 9, 3) := by decide +kernel
theorem dX6_tell_36 : decode cX6_tell 36 = .ok (.ireturn, 1) := by decide +kernel
theorem dX6_tell_37 : decode cX6_tell 37 = .ok (.aload_n 0, 1) := by decide +kernel
theorem dX6_tell_38 : decode cX6_tell 38 = .ok (.getfield 15, 3) := by decide +kernel
theorem dX6_tell_41 : decode cX6_tell 41 = .ok (.ireturn, 1) := by decide +kernel
theorem dX6_tell_42 : decode cX6_tell 42 = .ok (.aload_n 0, 1) := by decide +kernel
theorem dX6_tell_43 : decode cX6_tell 43 = .ok (.getfield 18, 3) := by decide +kernel
theorem dX6_tell_46 : decode cX6_tell 46 = .ok (.ireturn, 1) := by decide +kernel
theorem dX6_tell_47 : decode cX6_tell 47 = .ok (.aload_n 0, 1) := by decide +kernel
theorem dX6_tell_48 : decode cX6_tell 48 = .ok (.getfield 21, 3) := by decide +kernel
theorem dX6_tell_51 : decode cX6_tell 51 = .ok (.ireturn, 1) := by decide +kernel
theorem dX6_tell_52 : decode cX6_tell 52 = .ok (.ldc 24, 2) := by decide +kernel
theorem dX6_tell_54 : decode cX6_tell 54 = .ok (.ireturn, 1) := by decide +kernel
theorem dX6_change_0 : decode cX6_change 0 = .ok (.iload_n 1, 1) := by decide +kernel
theorem dX6_change_1 : decode cX6_change 1 = .ok (.ifCond .lt 36, 3) := by decide +kernel
theorem dX6_change_4 : decode cX6_change 4 = .ok (.iload_n 1, 1) := by decide +kernel
theorem dX6_change_5 : decode cX6_change 5 = .ok (.getstatic 25, 3) := by decide +kernel
theorem dX6_change_8 : decode cX6_change 8 = .ok (.arraylength, 1) := by decide +kernel
theorem dX6_change_9 : decode cX6_change 9 = .ok (.if_icmp .ge 28, 3) := by decide +kernel
theorem dX6_change_12 : decode cX6_change 12 = .ok (.iload_n 1, 1) := by decide +kernel
theorem dX6_change_13 : decode cX6_change 13 = .ok (.getstatic 29, 3) := by decide +kernel
theorem dX6_change_16 : decode cX6_change 16 = .ok (.arraylength, 1) := by decide +kernel
theorem dX6_change_17 : decode cX6_change 17 = .ok (.if_icmp .ge 20, 3) := by decide +kernel
theorem dX6_change_20 : decode cX6_change 20 = .ok (.iload_n 2, 1) := by decide +kernel
theorem dX6_change_21 : decode cX6_change 21 = .ok (.getstatic 25, 3) := by decide +kernel
theorem dX6_change_24 : decode cX6_change 24 = .ok (.iload_n 1, 1) := by decide +kernel
theorem dX6_change_25 : decode cX6_change 25 = .ok (.iaload, 1) := by decide +kernel
theorem dX6_change_26 : decode cX6_change 26 = .ok (.getstatic 29, 3) := by decide +kernel
theorem dX6_change_29 : decode cX6_change 29 = .ok (.iload_n 1, 1) := by decide +kernel
theorem dX6_change_30 : decode cX6_change 30 = .ok (.iaload, 1) := by decide +kernel
theorem dX6_change_31 : decode cX6_change 31 = .ok (.invokestatic 32, 3) := by decide +kernel
theorem dX6_change_34 : decode cX6_change 34 = .ok (.ifCond .ne 6, 3) := by decide +kernel
theorem dX6_change_37 : decode cX6_change 37 = .ok (.ldc 24, 2) := by decide +kernel
theorem dX6_change_39 : decode cX6_change 39 = .ok (.ireturn, 1) := by decide +kernel
theorem dX6_change_40 : decode cX6_change 40 = .ok (.aload_n 0, 1) := by decide +kernel
theorem dX6_change_41 : decode cX6_change 41 = .ok (.iload_n 1, 1) := by decide +kernel
theorem dX6_change_42 : decode cX6_change 42 = .ok (.invokevirtual 36, 3) := by decide +kernel
theorem dX6_change_45 : decode cX6_change 45 = .ok (.istore_n 3, 1) := by decide +kernel
theorem dX6_change_46 : decode cX6_change 46 = .ok (.iload_n 1, 1) := by decide +kernel
theorem dX6_change_47 : decode cX6_change 47 = .ok (.tableswitch 49 0 2 #[25, 33, 41], 25) := by decide +kernel
theorem dX6_change_72 : decode cX6_change 72 = .ok (.aload_n 0, 1) := by decide +kernel
theorem dX6_change_73 : decode cX6_change 73 = .ok (.iload_n 2, 1) := by decide +kernel
theorem dX6_change_74 : decode cX6_change 74 = .ok (.putfield 9, 3) := by decide +kernel
theorem dX6_change_77 : decode cX6_change 77 = .ok (.goto 24, 3) := by decide +kernel
theorem dX6_change_80 : decode cX6_change 80 = .ok (.aload_n 0, 1) := by decide +kernel
theorem dX6_change_81 : decode cX6_change 81 = .ok (.iload_n 2, 1) := by decide +kernel
theorem dX6_change_82 : decode cX6_change 82 = .ok (.putfield 15, 3) := by decide +kernel
theorem dX6_change_85 : decode cX6_change 85 = .ok (.goto 16, 3) := by decide +kernel
theorem dX6_change_88 : decode cX6_change 88 = .ok (.aload_n 0, 1) := by decide +kernel
theorem dX6_change_89 : decode cX6_change 89 = .ok (.iload_n 2, 1) := by decide +kernel
theorem dX6_change_90 : decode cX6_change 90 = .ok (.putfield 18, 3) := by decide +kernel
theorem dX6_change_93 : decode cX6_change 93 = .ok (.goto 8, 3) := by decide +kernel
theorem dX6_change_96 : decode cX6_change 96 = .ok (.aload_n 0, 1) := by decide +kernel
theorem dX6_change_97 : decode cX6_change 97 = .ok (.iload_n 2, 1) := by decide +kernel
theorem dX6_change_98 : decode cX6_change 98 = .ok (.putfield 21, 3) := by decide +kernel
theorem dX6_change_101 : decode cX6_change 101 = .ok (.iload_n 3, 1) := by decide +kernel
theorem dX6_change_102 : decode cX6_change 102 = .ok (.ireturn, 1) := by decide +kernel
theorem dX7_init_0 : decode cX7_init 0 = .ok (.aload_n 0, 1) := by decide +kernel
theorem dX7_init_1 : decode cX7_init 1 = .ok (.invokespecial 3, 3) := by decide +kernel
theorem dX7_init_4 : decode cX7_init 4 = .ok (.aload_n 0, 1) := by decide +kernel
theorem dX7_init_5 : decode cX7_init 5 = .ok (.bipush 21, 2) := by decide +kernel
theorem dX7_init_7 : decode cX7_init 7 = .ok (.newarray .int, 2) := by decide +kernel
theorem dX7_init_9 : decode cX7_init 9 = .ok (.putfield 9, 3) := by decide +kernel
theorem dX7_init_12 : decode cX7_init 12 = .ok (.return_, 1) := by decide +kernel
theorem dX7_copyFrom_0 : decode cX7_copyFrom 0 = .ok (.iconst 0, 1) := by decide +kernel
theorem dX7_copyFrom_1 : decode cX7_copyFrom 1 = .ok (.istore_n 2, 1) := by decide +kernel
theorem dX7_copyFrom_2 : decode cX7_copyFrom 2 = .ok (.iload_n 2, 1) := by decide +kernel
theorem dX7_copyFrom_3 : decode cX7_copyFrom 3 = .ok (.aload_n 0, 1) := by decide +kernel
theorem dX7_copyFrom_4 : decode cX7_copyFrom 4 = .ok (.getfield 9, 3) := by decide +kernel
theorem dX7_copyFrom_7 : decode cX7_copyFrom 7 = .ok (.arraylength, 1) := by decide +kernel
theorem dX7_copyFrom_8 : decode cX7_copyFrom 8 = .ok (.if_icmp .ge 30, 3) := by decide +kernel
theorem dX7_copyFrom_11 : decode cX7_copyFrom 11 = .ok (.iload_n 2, 1) := by decide +kernel
theorem dX7_copyFrom_12 : decode cX7_copyFrom 12 = .ok (.aload_n 1, 1) := by decide +kernel
theorem dX7_copyFrom_13 : decode cX7_copyFrom 13 = .ok (.getfield 9, 3) := by decide +kernel
theorem dX7_copyFrom_16 : decode cX7_copyFrom 16 = .ok (.arraylength, 1) := by decide +kernel
theorem dX7_copyFrom_17 : decode cX7_copyFrom 17 = .ok (.if_icmp .ge 21, 3) := by decide +kernel
theorem dX7_copyFrom_20 : decode cX7_copyFrom 20 = .ok (.aload_n 0, 1) := by decide +kernel
theorem dX7_copyFrom_21 : decode cX7_copyFrom 21 = .ok (.getfield 9, 3) := by decide +kernel
theorem dX7_copyFrom_24 : decode cX7_copyFrom 24 = .ok (.iload_n 2, 1) := by decide +kernel
theorem dX7_copyFrom_25 : decode cX7_copyFrom 25 = .ok (.aload_n 1, 1) := by decide +kernel
theorem dX7_copyFrom_26 : decode cX7_copyFrom 26 = .ok (.getfield 9, 3) := by decide +kernel
theorem dX7_copyFrom_29 : decode cX7_copyFrom 29 = .ok (.iload_n 2, 1) := by decide +kernel
theorem dX7_copyFrom_30 : decode cX7_copyFrom 30 = .ok (.iaload, 1) := by decide +kernel
theorem dX7_copyFrom_31 : decode cX7_copyFrom 31 = .ok (.iastore, 1) := by decide +kernel
theorem dX7_copyFrom_32 : decode cX7_copyFrom 32 = .ok (.iinc 2 1, 3) := by decide +kernel
theorem dX7_copyFrom_35 : decode cX7_copyFrom 35 = .ok (.goto (-33), 3) := by decide +kernel
theorem dX7_copyFrom_38 : decode cX7_copyFrom 38 = .ok (.return_, 1) := by decide +kernel
theorem dX7_howMany_0 : decode cX7_howMany 0 = .ok (.iconst 0, 1) := by decide +kernel
theorem dX7_howMany_1 : decode cX7_howMany 1 = .ok (.istore_n 3, 1) := by decide +kernel
theorem dX7_howMany_2 : decode cX7_howMany 2 = .ok (.iconst 0, 1) := by decide +kernel
theorem dX7_howMany_3 : decode cX7_howMany 3 = .ok (.istore 4, 2) := by decide +kernel
theorem dX7_howMany_5 : decode cX7_howMany 5 = .ok (.iload 4, 2) := by decide +kernel
theorem dX7_howMany_7 : decode cX7_howMany 7 = .ok (.aload_n 0, 1) := by decide +kernel
theorem dX7_howMany_8 : decode cX7_howMany 8 = .ok (.getfield 9, 3) := by decide +kernel
theorem dX7_howMany_11 : decode cX7_howMany 11 = .ok (.arraylength, 1) := by decide +kernel
theorem dX7_howMany_12 : decode cX7_howMany 12 = .ok (.if_icmp .ge 31, 3) := by decide +kernel
theorem dX7_howMany_15 : decode cX7_howMany 15 = .ok (.iload 4, 2) := by decide +kernel
theorem dX7_howMany_17 : decode cX7_howMany 17 = .ok (.iload_n 1, 1) := by decide +kernel
theorem dX7_howMany_18 : decode cX7_howMany 18 = .ok (.if_icmp .lt 19, 3) := by decide +kernel
theorem dX7_howMany_21 : decode cX7_howMany 21 = .ok (.iload 4, 2) := by decide +kernel
theorem dX7_howMany_23 : decode cX7_howMany 23 = .ok (.iload_n 2, 1) := by decide +kernel
theorem dX7_howMany_24 : decode cX7_howMany 24 = .ok (.if_icmp .gt 13, 3) := by decide +kernel
theorem dX7_howMany_27 : decode cX7_howMany 27 = .ok (.iload_n 3, 1) := by decide +kernel
theorem dX7_howMany_28 : decode cX7_howMany 28 = .ok (.aload_n 0, 1) := by decide +kernel
theorem dX7_howMany_29 : decode cX7_howMany 29 = .ok (.getfield 9, 3) := by decide +kernel
theorem dX7_howMany_32 : decode cX7_howMany 32 = .ok (.iload 4, 2) := by decide +kernel
theorem dX7_howMany_34 : decode cX7_howMany 34 = .ok (.iaload, 1) := by decide +kernel
theorem dX7_howMany_35 : decode cX7_howMany 35 = .ok (.iadd, 1) := by decide +kernel
theorem dX7_howMany_36 : decode cX7_howMany 36 = .ok (.istore_n 3, 1) := by decide +kernel
theorem dX7_howMany_37 : decode cX7_howMany 37 = .ok (.iinc 4 1, 3) := by decide +kernel
theorem dX7_howMany_40 : decode cX7_howMany 40 = .ok (.goto (-35), 3) := by decide +kernel
theorem dX7_howMany_43 : decode cX7_howMany 43 = .ok (.iload_n 3, 1) := by decide +kernel
theorem dX7_howMany_44 : decode cX7_howMany 44 = .ok (.ireturn, 1) := by decide +kernel
theorem dX7_agesTogether_0 : decode cX7_agesTogether 0 = .ok (.iconst 0, 1) := by decide +kernel
theorem dX7_agesTogether_1 : decode cX7_agesTogether 1 = .ok (.istore_n 1, 1) := by decide +kernel
theorem dX7_agesTogether_2 : decode cX7_agesTogether 2 = .ok (.iconst 0, 1) := by decide +kernel
theorem dX7_agesTogether_3 : decode cX7_agesTogether 3 = .ok (.istore_n 2, 1) := by decide +kernel
theorem dX7_agesTogether_4 : decode cX7_agesTogether 4 = .ok (.iload_n 2, 1) := by decide +kernel
theorem dX7_agesTogether_5 : decode cX7_agesTogether 5 = .ok (.aload_n 0, 1) := by decide +kernel
theorem dX7_agesTogether_6 : decode cX7_agesTogether 6 = .ok (.getfield 9, 3) := by decide +kernel
theorem dX7_agesTogether_9 : decode cX7_agesTogether 9 = .ok (.arraylength, 1) := by decide +kernel
theorem dX7_agesTogether_10 : decode cX7_agesTogether 10 = .ok (.if_icmp .ge 20, 3) := by decide +kernel
theorem dX7_agesTogether_13 : decode cX7_agesTogether 13 = .ok (.iload_n 1, 1) := by decide +kernel
theorem dX7_agesTogether_14 : decode cX7_agesTogether 14 = .ok (.iload_n 2, 1) := by decide +kernel
theorem dX7_agesTogether_15 : decode cX7_agesTogether 15 = .ok (.aload_n 0, 1) := by decide +kernel
theorem dX7_agesTogether_16 : decode cX7_agesTogether 16 = .ok (.getfield 9, 3) := by decide +kernel
theorem dX7_agesTogether_19 : decode cX7_agesTogether 19 = .ok (.iload_n 2, 1) := by decide +kernel
theorem dX7_agesTogether_20 : decode cX7_agesTogether 20 = .ok (.iaload, 1) := by decide +kernel
theorem dX7_agesTogether_21 : decode cX7_agesTogether 21 = .ok (.imul, 1) := by decide +kernel
theorem dX7_agesTogether_22 : decode cX7_agesTogether 22 = .ok (.iadd, 1) := by decide +kernel
theorem dX7_agesTogether_23 : decode cX7_agesTogether 23 = .ok (.istore_n 1, 1) := by decide +kernel
theorem dX7_agesTogether_24 : decode cX7_agesTogether 24 = .ok (.iinc 2 1, 3) := by decide +kernel
theorem dX7_agesTogether_27 : decode cX7_agesTogether 27 = .ok (.goto (-23), 3) := by decide +kernel
theorem dX7_agesTogether_30 : decode cX7_agesTogether 30 = .ok (.iload_n 1, 1) := by decide +kernel
theorem dX7_agesTogether_31 : decode cX7_agesTogether 31 = .ok (.ireturn, 1) := by decide +kernel
theorem dX7_store_0 : decode cX7_store 0 = .ok (.iload_n 1, 1) := by decide +kernel
theorem dX7_store_1 : decode cX7_store 1 = .ok (.ifCond .lt 22, 3) := by decide +kernel
theorem dX7_store_4 : decode cX7_store 4 = .ok (.iload_n 1, 1) := by decide +kernel
theorem dX7_store_5 : decode cX7_store 5 = .ok (.aload_n 0, 1) := by decide +kernel
theorem dX7_store_6 : decode cX7_store 6 = .ok (.getfield 9, 3) := by decide +kernel
theorem dX7_store_9 : decode cX7_store 9 = .ok (.arraylength, 1) := by decide +kernel
theorem dX7_store_10 : decode cX7_store 10 = .ok (.if_icmp .ge 13, 3) := by decide +kernel
theorem dX7_store_13 : decode cX7_store 13 = .ok (.aload_n 0, 1) := by decide +kernel
theorem dX7_store_14 : decode cX7_store 14 = .ok (.getfield 9, 3) := by decide +kernel
theorem dX7_store_17 : decode cX7_store 17 = .ok (.iload_n 1, 1) := by decide +kernel
theorem dX7_store_18 : decode cX7_store 18 = .ok (.dup2, 1) := by decide +kernel
theorem dX7_store_19 : decode cX7_store 19 = .ok (.iaload, 1) := by decide +kernel
theorem dX7_store_20 : decode cX7_store 20 = .ok (.iload_n 2, 1) := by decide +kernel
theorem dX7_store_21 : decode cX7_store 21 = .ok (.iadd, 1) := by decide +kernel
theorem dX7_store_22 : decode cX7_store 22 = .ok (.iastore, 1) := by decide +kernel
theorem dX7_store_23 : decode cX7_store 23 = .ok (.return_, 1) := by decide +kernel
theorem dX7_take_0 : decode cX7_take 0 = .ok (.iload_n 3, 1) := by decide +kernel
theorem dX7_take_1 : decode cX7_take 1 = .ok (.istore 4, 2) := by decide +kernel
theorem dX7_take_3 : decode cX7_take 3 = .ok (.aload_n 0, 1) := by decide +kernel
theorem dX7_take_4 : decode cX7_take 4 = .ok (.getfield 9, 3) := by decide +kernel
theorem dX7_take_7 : decode cX7_take 7 = .ok (.arraylength, 1) := by decide +kernel
theorem dX7_take_8 : decode cX7_take 8 = .ok (.iconst 1, 1) := by decide +kernel
theorem dX7_take_9 : decode cX7_take 9 = .ok (.isub, 1) := by decide +kernel
theorem dX7_take_10 : decode cX7_take 10 = .ok (.istore 5, 2) := by decide +kernel
theorem dX7_take_12 : decode cX7_take 12 = .ok (.iload 5, 2) := by decide +kernel
theorem dX7_take_14 : decode cX7_take 14 = .ok (.ifCond .lt 66, 3) := by decide +kernel
theorem dX7_take_17 : decode cX7_take 17 = .ok (.iload 5, 2) := by decide +kernel
theorem dX7_take_19 : decode cX7_take 19 = .ok (.iload_n 1, 1) := by decide +kernel
theorem dX7_take_20 : decode cX7_take 20 = .ok (.if_icmp .lt 54, 3) := by decide +kernel
theorem dX7_take_23 : decode cX7_take 23 = .ok (.iload 5, 2) := by decide +kernel
theorem dX7_take_25 : decode cX7_take 25 = .ok (.iload_n 2, 1) := by decide +kernel
theorem dX7_take_26 : decode cX7_take 26 = .ok (.if_icmp .gt 48, 3) := by decide +kernel
theorem dX7_take_29 : decode cX7_take 29 = .ok (.iload 4, 2) := by decide +kernel
theorem dX7_take_31 : decode cX7_take 31 = .ok (.aload_n 0, 1) := by decide +kernel
theorem dX7_take_32 : decode cX7_take 32 = .ok (.getfield 9, 3) := by decide +kernel
theorem dX7_take_35 : decode cX7_take 35 = .ok (.iload 5, 2) := by decide +kernel
theorem dX7_take_37 : decode cX7_take 37 = .ok (.iaload, 1) := by decide +kernel
theorem dX7_take_38 : decode cX7_take 38 = .ok (.if_icmp .ge 8, 3) := by decide +kernel
theorem dX7_take_41 : decode cX7_take 41 = .ok (.iload 4, 2) := by decide +kernel
theorem dX7_take_43 : decode cX7_take 43 = .ok (.goto 10, 3) := by decide +kernel
theorem dX7_take_46 : decode cX7_take 46 = .ok (.aload_n 0, 1) := by decide +kernel
theorem dX7_take_47 : decode cX7_take 47 = .ok (.getfield 9, 3) := by decide +kernel
theorem dX7_take_50 : decode cX7_take 50 = .ok (.iload 5, 2) := by decide +kernel
theorem dX7_take_52 : decode cX7_take 52 = .ok (.iaload, 1) := by decide +kernel
theorem dX7_take_53 : decode cX7_take 53 = .ok (.istore 6, 2) := by decide +kernel
theorem dX7_take_55 : decode cX7_take 55 = .ok (.aload_n 0, 1) := by decide +kernel
theorem dX7_take_56 : decode cX7_take 56 = .ok (.getfield 9, 3) := by decide +kernel
theorem dX7_take_59 : decode cX7_take 59 = .ok (.iload 5, 2) := by decide +kernel
theorem dX7_take_61 : decode cX7_take 61 = .ok (.dup2, 1) := by decide +kernel
theorem dX7_take_62 : decode cX7_take 62 = .ok (.iaload, 1) := by decide +kernel
theorem dX7_take_63 : decode cX7_take 63 = .ok (.iload 6, 2) := by decide +kernel
theorem dX7_take_65 : decode cX7_take 65 = .ok (.isub, 1) := by decide +kernel
theorem dX7_take_66 : decode cX7_take 66 = .ok (.iastore, 1) := by decide +kernel
theorem dX7_take_67 : decode cX7_take 67 = .ok (.iload 4, 2) := by decide +kernel
theorem dX7_take_69 : decode cX7_take 69 = .ok (.iload 6, 2) := by decide +kernel
theorem dX7_take_71 : decode cX7_take 71 = .ok (.isub, 1) := by decide +kernel
theorem dX7_take_72 : decode cX7_take 72 = .ok (.istore 4, 2) := by decide +kernel
theorem dX7_take_74 : decode cX7_take 74 = .ok (.iinc 5 (-1), 3) := by decide +kernel
theorem dX7_take_77 : decode cX7_take 77 = .ok (.goto (-65), 3) := by decide +kernel
theorem dX7_take_80 : decode cX7_take 80 = .ok (.iload_n 3, 1) := by decide +kernel
theorem dX7_take_81 : decode cX7_take 81 = .ok (.iload 4, 2) := by decide +kernel
theorem dX7_take_83 : decode cX7_take 83 = .ok (.isub, 1) := by decide +kernel
theorem dX7_take_84 : decode cX7_take 84 = .ok (.ireturn, 1) := by decide +kernel
theorem dX7_growOlder_0 : decode cX7_growOlder 0 = .ok (.iconst 0, 1) := by decide +kernel
theorem dX7_growOlder_1 : decode cX7_growOlder 1 = .ok (.istore_n 1, 1) := by decide +kernel
theorem dX7_growOlder_2 : decode cX7_growOlder 2 = .ok (.iconst 0, 1) := by decide +kernel
theorem dX7_growOlder_3 : decode cX7_growOlder 3 = .ok (.istore_n 2, 1) := by decide +kernel
theorem dX7_growOlder_4 : decode cX7_growOlder 4 = .ok (.iload_n 2, 1) := by decide +kernel
theorem dX7_growOlder_5 : decode cX7_growOlder 5 = .ok (.aload_n 0, 1) := by decide +kernel
theorem dX7_growOlder_6 : decode cX7_growOlder 6 = .ok (.getfield 9, 3) := by decide +kernel
theorem dX7_growOlder_9 : decode cX7_growOlder 9 = .ok (.arraylength, 1) := by decide +kernel
theorem dX7_growOlder_10 : decode cX7_growOlder 10 = .ok (.if_icmp .ge 25, 3) := by decide +kernel
theorem dX7_growOlder_13 : decode cX7_growOlder 13 = .ok (.iload_n 1, 1) := by decide +kernel
theorem dX7_growOlder_14 : decode cX7_growOlder 14 = .ok (.istore_n 3, 1) := by decide +kernel
theorem dX7_growOlder_15 : decode cX7_growOlder 15 = .ok (.aload_n 0, 1) := by decide +kernel
theorem dX7_growOlder_16 : decode cX7_growOlder 16 = .ok (.getfield 9, 3) := by decide +kernel
theorem dX7_growOlder_19 : decode cX7_growOlder 19 = .ok (.iload_n 2, 1) := by decide +kernel
theorem dX7_growOlder_20 : decode cX7_growOlder 20 = .ok (.iaload, 1) := by decide +kernel
theorem dX7_growOlder_21 : decode cX7_growOlder 21 = .ok (.istore_n 1, 1) := by decide +kernel
theorem dX7_growOlder_22 : decode cX7_growOlder 22 = .ok (.aload_n 0, 1) := by decide +kernel
theorem dX7_growOlder_23 : decode cX7_growOlder 23 = .ok (.getfield 9, 3) := by decide +kernel
theorem dX7_growOlder_26 : decode cX7_growOlder 26 = .ok (.iload_n 2, 1) := by decide +kernel
theorem dX7_growOlder_27 : decode cX7_growOlder 27 = .ok (.iload_n 3, 1) := by decide +kernel
theorem dX7_growOlder_28 : decode cX7_growOlder 28 = .ok (.iastore, 1) := by decide +kernel
theorem dX7_growOlder_29 : decode cX7_growOlder 29 = .ok (.iinc 2 1, 3) := by decide +kernel
theorem dX7_growOlder_32 : decode cX7_growOlder 32 = .ok (.goto (-28), 3) := by decide +kernel
theorem dX7_growOlder_35 : decode cX7_growOlder 35 = .ok (.iload_n 1, 1) := by decide +kernel
theorem dX7_growOlder_36 : decode cX7_growOlder 36 = .ok (.ireturn, 1) := by decide +kernel
theorem dX8_init_0 : decode cX8_init 0 = .ok (.aload_n 0, 1) := by decide +kernel
theorem dX8_init_1 : decode cX8_init 1 = .ok (.invokespecial 1, 3) := by decide +kernel
theorem dX8_init_4 : decode cX8_init 4 = .ok (.aload_n 0, 1) := by decide +kernel
theorem dX8_init_5 : decode cX8_init 5 = .ok (.new 7, 3) := by decide +kernel
theorem dX8_init_8 : decode cX8_init 8 = .ok (.dup, 1) := by decide +kernel
theorem dX8_init_9 : decode cX8_init 9 = .ok (.invokespecial 9, 3) := by decide +kernel
theorem dX8_init_12 : decode cX8_init 12 = .ok (.putfield 10, 3) := by decide +kernel
theorem dX8_init_15 : decode cX8_init 15 = .ok (.aload_n 0, 1) := by decide +kernel
theorem dX8_init_16 : decode cX8_init 16 = .ok (.new 7, 3) := by decide +kernel
theorem dX8_init_19 : decode cX8_init 19 = .ok (.dup, 1) := by decide +kernel
theorem dX8_init_20 : decode cX8_init 20 = .ok (.invokespecial 9, 3) := by decide +kernel
theorem dX8_init_23 : decode cX8_init 23 = .ok (.putfield 16, 3) := by decide +kernel
theorem dX8_init_26 : decode cX8_init 26 = .ok (.aload_n 0, 1) := by decide +kernel
theorem dX8_init_27 : decode cX8_init 27 = .ok (.new 19, 3) := by decide +kernel
theorem dX8_init_30 : decode cX8_init 30 = .ok (.dup, 1) := by decide +kernel
theorem dX8_init_31 : decode cX8_init 31 = .ok (.invokespecial 21, 3) := by decide +kernel
theorem dX8_init_34 : decode cX8_init 34 = .ok (.putfield 22, 3) := by decide +kernel
theorem dX8_init_37 : decode cX8_init 37 = .ok (.aload_n 0, 1) := by decide +kernel
theorem dX8_init_38 : decode cX8_init 38 = .ok (.new 26, 3) := by decide +kernel
theorem dX8_init_41 : decode cX8_init 41 = .ok (.dup, 1) := by decide +kernel
theorem dX8_init_42 : decode cX8_init 42 = .ok (.invokespecial 28, 3) := by decide +kernel
theorem dX8_init_45 : decode cX8_init 45 = .ok (.putfield 29, 3) := by decide +kernel
theorem dX8_init_48 : decode cX8_init 48 = .ok (.return_, 1) := by decide +kernel
theorem dX8_mule_0 : decode cX8_mule 0 = .ok (.aload_n 0, 1) := by decide +kernel
theorem dX8_mule_1 : decode cX8_mule 1 = .ok (.getfield 16, 3) := by decide +kernel
theorem dX8_mule_4 : decode cX8_mule 4 = .ok (.aload_n 0, 1) := by decide +kernel
theorem dX8_mule_5 : decode cX8_mule 5 = .ok (.getfield 10, 3) := by decide +kernel
theorem dX8_mule_8 : decode cX8_mule 8 = .ok (.invokevirtual 33, 3) := by decide +kernel
theorem dX8_mule_11 : decode cX8_mule 11 = .ok (.aload_n 0, 1) := by decide +kernel
theorem dX8_mule_12 : decode cX8_mule 12 = .ok (.aload_n 0, 1) := by decide +kernel
theorem dX8_mule_13 : decode cX8_mule 13 = .ok (.getfield 16, 3) := by decide +kernel
theorem dX8_mule_16 : decode cX8_mule 16 = .ok (.iload_n 1, 1) := by decide +kernel
theorem dX8_mule_17 : decode cX8_mule 17 = .ok (.iload_n 2, 1) := by decide +kernel
theorem dX8_mule_18 : decode cX8_mule 18 = .ok (.invokevirtual 37, 3) := by decide +kernel
theorem dX8_mule_21 : decode cX8_mule 21 = .ok (.invokevirtual 41, 3) := by decide +kernel
theorem dX8_mule_24 : decode cX8_mule 24 = .ok (.ireturn, 1) := by decide +kernel
theorem dX8_send_0 : decode cX8_send 0 = .ok (.aload_n 0, 1) := by decide +kernel
theorem dX8_send_1 : decode cX8_send 1 = .ok (.getfield 16, 3) := by decide +kernel
theorem dX8_send_4 : decode cX8_send 4 = .ok (.aload_n 0, 1) := by decide +kernel
theorem dX8_send_5 : decode cX8_send 5 = .ok (.getfield 10, 3) := by decide +kernel
theorem dX8_send_8 : decode cX8_send 8 = .ok (.invokevirtual 33, 3) := by decide +kernel
theorem dX8_send_11 : decode cX8_send 11 = .ok (.aload_n 0, 1) := by decide +kernel
theorem dX8_send_12 : decode cX8_send 12 = .ok (.aload_n 0, 1) := by decide +kernel
theorem dX8_send_13 : decode cX8_send 13 = .ok (.getfield 16, 3) := by decide +kernel
theorem dX8_send_16 : decode cX8_send 16 = .ok (.iload_n 1, 1) := by decide +kernel
theorem dX8_send_17 : decode cX8_send 17 = .ok (.iload_n 2, 1) := by decide +kernel
theorem dX8_send_18 : decode cX8_send 18 = .ok (.invokevirtual 45, 3) := by decide +kernel
theorem dX8_send_21 : decode cX8_send 21 = .ok (.invokevirtual 41, 3) := by decide +kernel
theorem dX8_send_24 : decode cX8_send 24 = .ok (.ireturn, 1) := by decide +kernel
theorem dX8_rest_0 : decode cX8_rest 0 = .ok (.aload_n 0, 1) := by decide +kernel
theorem dX8_rest_1 : decode cX8_rest 1 = .ok (.getfield 16, 3) := by decide +kernel
theorem dX8_rest_4 : decode cX8_rest 4 = .ok (.aload_n 0, 1) := by decide +kernel
theorem dX8_rest_5 : decode cX8_rest 5 = .ok (.getfield 10, 3) := by decide +kernel
theorem dX8_rest_8 : decode cX8_rest 8 = .ok (.invokevirtual 33, 3) := by decide +kernel
theorem dX8_rest_11 : decode cX8_rest 11 = .ok (.aload_n 0, 1) := by decide +kernel
theorem dX8_rest_12 : decode cX8_rest 12 = .ok (.aload_n 0, 1) := by decide +kernel
theorem dX8_rest_13 : decode cX8_rest 13 = .ok (.getfield 16, 3) := by decide +kernel
theorem dX8_rest_16 : decode cX8_rest 16 = .ok (.iload_n 1, 1) := by decide +kernel
theorem dX8_rest_17 : decode cX8_rest 17 = .ok (.invokevirtual 48, 3) := by decide +kernel
theorem dX8_rest_20 : decode cX8_rest 20 = .ok (.invokevirtual 41, 3) := by decide +kernel
theorem dX8_rest_23 : decode cX8_rest 23 = .ok (.ireturn, 1) := by decide +kernel
theorem dX8_pay_0 : decode cX8_pay 0 = .ok (.aload_n 0, 1) := by decide +kernel
theorem dX8_pay_1 : decode cX8_pay 1 = .ok (.getfield 16, 3) := by decide +kernel
theorem dX8_pay_4 : decode cX8_pay 4 = .ok (.aload_n 0, 1) := by decide +kernel
theorem dX8_pay_5 : decode cX8_pay 5 = .ok (.getfield 10, 3) := by decide +kernel
theorem dX8_pay_8 : decode cX8_pay 8 = .ok (.invokevirtual 33, 3) := by decide +kernel
theorem dX8_pay_11 : decode cX8_pay 11 = .ok (.aload_n 0, 1) := by decide +kernel
theorem dX8_pay_12 : decode cX8_pay 12 = .ok (.aload_n 0, 1) := by decide +kernel
theorem dX8_pay_13 : decode cX8_pay 13 = .ok (.getfield 16, 3) := by decide +kernel
theorem dX8_pay_16 : decode cX8_pay 16 = .ok (.iload_n 1, 1) := by decide +kernel
theorem dX8_pay_17 : decode cX8_pay 17 = .ok (.invokevirtual 51, 3) := by decide +kernel
theorem dX8_pay_20 : decode cX8_pay 20 = .ok (.invokevirtual 41, 3) := by decide +kernel
theorem dX8_pay_23 : decode cX8_pay 23 = .ok (.ireturn, 1) := by decide +kernel
theorem dX8_group_0 : decode cX8_group 0 = .ok (.aload_n 0, 1) := by decide +kernel
theorem dX8_group_1 : decode cX8_group 1 = .ok (.getfield 16, 3) := by decide +kernel
theorem dX8_group_4 : decode cX8_group 4 = .ok (.aload_n 0, 1) := by decide +kernel
theorem dX8_group_5 : decode cX8_group 5 = .ok (.getfield 10, 3) := by decide +kernel
theorem dX8_group_8 : decode cX8_group 8 = .ok (.invokevirtual 33, 3) := by decide +kernel
theorem dX8_group_11 : decode cX8_group 11 = .ok (.aload_n 0, 1) := by decide +kernel
theorem dX8_group_12 : decode cX8_group 12 = .ok (.aload_n 0, 1) := by decide +kernel
theorem dX8_group_13 : decode cX8_group 13 = .ok (.getfield 16, 3) := by decide +kernel
theorem dX8_group_16 : decode cX8_group 16 = .ok (.iload_n 1, 1) := by decide +kernel
theorem dX8_group_17 : decode cX8_group 17 = .ok (.iload_n 2, 1) := by decide +kernel
theorem dX8_group_18 : decode cX8_group 18 = .ok (.iload_n 3, 1) := by decide +kernel
theorem dX8_group_19 : decode cX8_group 19 = .ok (.invokevirtual 54, 3) := by decide +kernel
theorem dX8_group_22 : decode cX8_group 22 = .ok (.invokevirtual 41, 3) := by decide +kernel
theorem dX8_group_25 : decode cX8_group 25 = .ok (.ireturn, 1) := by decide +kernel
theorem dX8_off_0 : decode cX8_off 0 = .ok (.aload_n 0, 1) := by decide +kernel
theorem dX8_off_1 : decode cX8_off 1 = .ok (.getfield 16, 3) := by decide +kernel
theorem dX8_off_4 : decode cX8_off 4 = .ok (.aload_n 0, 1) := by decide +kernel
theorem dX8_off_5 : decode cX8_off 5 = .ok (.getfield 10, 3) := by decide +kernel
theorem dX8_off_8 : decode cX8_off 8 = .ok (.invokevirtual 33, 3) := by decide +kernel
theorem dX8_off_11 : decode cX8_off 11 = .ok (.aload_n 0, 1) := by decide +kernel
theorem dX8_off_12 : decode cX8_off 12 = .ok (.aload_n 0, 1) := by decide +kernel
theorem dX8_off_13 : decode cX8_off 13 = .ok (.getfield 16, 3) := by decide +kernel
theorem dX8_off_16 : decode cX8_off 16 = .ok (.iload_n 1, 1) := by decide +kernel
theorem dX8_off_17 : decode cX8_off 17 = .ok (.invokevirtual 58, 3) := by decide +kernel
theorem dX8_off_20 : decode cX8_off 20 = .ok (.invokevirtual 41, 3) := by decide +kernel
theorem dX8_off_23 : decode cX8_off 23 = .ok (.ireturn, 1) := by decide +kernel
theorem dX8_end_0 : decode cX8_end 0 = .ok (.aload_n 0, 1) := by decide +kernel
theorem dX8_end_1 : decode cX8_end 1 = .ok (.getfield 16, 3) := by decide +kernel
theorem dX8_end_4 : decode cX8_end 4 = .ok (.aload_n 0, 1) := by decide +kernel
theorem dX8_end_5 : decode cX8_end 5 = .ok (.getfield 10, 3) := by decide +kernel
theorem dX8_end_8 : decode cX8_end 8 = .ok (.invokevirtual 33, 3) := by decide +kernel
theorem dX8_end_11 : decode cX8_end 11 = .ok (.aload_n 0, 1) := by decide +kernel
theorem dX8_end_12 : decode cX8_end 12 = .ok (.aload_n 0, 1) := by decide +kernel
theorem dX8_end_13 : decode cX8_end 13 = .ok (.getfield 16, 3) := by decide +kernel
theorem dX8_end_16 : decode cX8_end 16 = .ok (.iload_n 1, 1) := by decide +kernel
theorem dX8_end_17 : decode cX8_end 17 = .ok (.invokevirtual 61, 3) := by decide +kernel
theorem dX8_end_20 : decode cX8_end 20 = .ok (.invokevirtual 41, 3) := by decide +kernel
theorem dX8_end_23 : decode cX8_end 23 = .ok (.ireturn, 1) := by decide +kernel
theorem dX8_set_0 : decode cX8_set 0 = .ok (.aload_n 0, 1) := by decide +kernel
theorem dX8_set_1 : decode cX8_set 1 = .ok (.getfield 16, 3) := by decide +kernel
theorem dX8_set_4 : decode cX8_set 4 = .ok (.aload_n 0, 1) := by decide +kernel
theorem dX8_set_5 : decode cX8_set 5 = .ok (.getfield 10, 3) := by decide +kernel
theorem dX8_set_8 : decode cX8_set 8 = .ok (.invokevirtual 33, 3) := by decide +kernel
theorem dX8_set_11 : decode cX8_set 11 = .ok (.aload_n 0, 1) := by decide +kernel
theorem dX8_set_12 : decode cX8_set 12 = .ok (.aload_n 0, 1) := by decide +kernel
theorem dX8_set_13 : decode cX8_set 13 = .ok (.getfield 16, 3) := by decide +kernel
theorem dX8_set_16 : decode cX8_set 16 = .ok (.getfield 64, 3) := by decide +kernel
theorem dX8_set_19 : decode cX8_set 19 = .ok (.iload_n 1, 1) := by decide +kernel
theorem dX8_set_20 : decode cX8_set 20 = .ok (.iload_n 2, 1) := by decide +kernel
theorem dX8_set_21 : decode cX8_set 21 = .ok (.invokevirtual 68, 3) := by decide +kernel
theorem dX8_set_24 : decode cX8_set 24 = .ok (.invokevirtual 41, 3) := by decide +kernel
theorem dX8_set_27 : decode cX8_set 27 = .ok (.ireturn, 1) := by decide +kernel
theorem dX8_muleOf_0 : decode cX8_muleOf 0 = .ok (.aload_n 0, 1) := by decide +kernel
theorem dX8_muleOf_1 : decode cX8_muleOf 1 = .ok (.getfield 10, 3) := by decide +kernel
theorem dX8_muleOf_4 : decode cX8_muleOf 4 = .ok (.iload_n 1, 1) := by decide +kernel
theorem dX8_muleOf_5 : decode cX8_muleOf 5 = .ok (.invokevirtual 73, 3) := by decide +kernel
theorem dX8_muleOf_8 : decode cX8_muleOf 8 = .ok (.astore_n 3, 1) := by decide +kernel
theorem dX8_muleOf_9 : decode cX8_muleOf 9 = .ok (.aload_n 3, 1) := by decide +kernel
theorem dX8_muleOf_10 : decode cX8_muleOf 10 = .ok (.ifnonnull 8, 3) := by decide +kernel
theorem dX8_muleOf_13 : decode cX8_muleOf 13 = .ok (.ldc 77, 2) := by decide +kernel
theorem dX8_muleOf_15 : decode cX8_muleOf 15 = .ok (.goto 8, 3) := by decide +kernel
theorem dX8_muleOf_18 : decode cX8_muleOf 18 = .ok (.aload_n 3, 1) := by decide +kernel
theorem dX8_muleOf_19 : decode cX8_muleOf 19 = .ok (.iload_n 2, 1) := by decide +kernel
theorem dX8_muleOf_20 : decode cX8_muleOf 20 = .ok (.invokevirtual 78, 3) := by decide +kernel
theorem dX8_muleOf_23 : decode cX8_muleOf 23 = .ok (.ireturn, 1) := by decide +kernel
theorem dX8_groupOf_0 : decode cX8_groupOf 0 = .ok (.aload_n 0, 1) := by decide +kernel
theorem dX8_groupOf_1 : decode cX8_groupOf 1 = .ok (.getfield 10, 3) := by decide +kernel
theorem dX8_groupOf_4 : decode cX8_groupOf 4 = .ok (.aload_n 0, 1) := by decide +kernel
theorem dX8_groupOf_5 : decode cX8_groupOf 5 = .ok (.getfield 10, 3) := by decide +kernel
theorem dX8_groupOf_8 : decode cX8_groupOf 8 = .ok (.iload_n 1, 1) := by decide +kernel
theorem dX8_groupOf_9 : decode cX8_groupOf 9 = .ok (.invokevirtual 83, 3) := by decide +kernel
theorem dX8_groupOf_12 : decode cX8_groupOf 12 = .ok (.invokevirtual 86, 3) := by decide +kernel
theorem dX8_groupOf_15 : decode cX8_groupOf 15 = .ok (.astore_n 3, 1) := by decide +kernel
theorem dX8_groupOf_16 : decode cX8_groupOf 16 = .ok (.aload_n 3, 1) := by decide +kernel
theorem dX8_groupOf_17 : decode cX8_groupOf 17 = .ok (.ifnonnull 8, 3) := by decide +kernel
theorem dX8_groupOf_20 : decode cX8_groupOf 20 = .ok (.ldc 77, 2) := by decide +kernel
theorem dX8_groupOf_22 : decode cX8_groupOf 22 = .ok (.goto 15, 3) := by decide +kernel
theorem dX8_groupOf_25 : decode cX8_groupOf 25 = .ok (.aload_n 3, 1) := by decide +kernel
theorem dX8_groupOf_26 : decode cX8_groupOf 26 = .ok (.iload_n 2, 1) := by decide +kernel
theorem dX8_groupOf_27 : decode cX8_groupOf 27 = .ok (.aload_n 0, 1) := by decide +kernel
theorem dX8_groupOf_28 : decode cX8_groupOf 28 = .ok (.getfield 10, 3) := by decide +kernel
theorem dX8_groupOf_31 : decode cX8_groupOf 31 = .ok (.getfield 90, 3) := by decide +kernel
theorem dX8_groupOf_34 : decode cX8_groupOf 34 = .ok (.invokevirtual 94, 3) := by decide +kernel
theorem dX8_groupOf_37 : decode cX8_groupOf 37 = .ok (.ireturn, 1) := by decide +kernel
theorem dX8_number_0 : decode cX8_number 0 = .ok (.iload_n 1, 1) := by decide +kernel
theorem dX8_number_1 : decode cX8_number 1 = .ok (.ifCond .ge 6, 3) := by decide +kernel
theorem dX8_number_4 : decode cX8_number 4 = .ok (.ldc 77, 2) := by decide +kernel
theorem dX8_number_6 : decode cX8_number 6 = .ok (.ireturn, 1) := by decide +kernel
theorem dX8_number_7 : decode cX8_number 7 = .ok (.aload_n 0, 1) := by decide +kernel
theorem dX8_number_8 : decode cX8_number 8 = .ok (.getfield 10, 3) := by decide +kernel
theorem dX8_number_11 : decode cX8_number 11 = .ok (.iload_n 1, 1) := by decide +kernel
theorem dX8_number_12 : decode cX8_number 12 = .ok (.invokevirtual 86, 3) := by decide +kernel
theorem dX8_number_15 : decode cX8_number 15 = .ok (.astore_n 2, 1) := by decide +kernel
theorem dX8_number_16 : decode cX8_number 16 = .ok (.aload_n 2, 1) := by decide +kernel
theorem dX8_number_17 : decode cX8_number 17 = .ok (.ifnonnull 8, 3) := by decide +kernel
theorem dX8_number_20 : decode cX8_number 20 = .ok (.ldc 98, 2) := by decide +kernel
theorem dX8_number_22 : decode cX8_number 22 = .ok (.goto 7, 3) := by decide +kernel
theorem dX8_number_25 : decode cX8_number 25 = .ok (.aload_n 2, 1) := by decide +kernel
theorem dX8_number_26 : decode cX8_number 26 = .ok (.getfield 99, 3) := by decide +kernel
theorem dX8_number_29 : decode cX8_number 29 = .ok (.ireturn, 1) := by decide +kernel
theorem dX8_loaves_0 : decode cX8_loaves 0 = .ok (.iload_n 1, 1) := by decide +kernel
theorem dX8_loaves_1 : decode cX8_loaves 1 = .ok (.iconst 0, 1) := by decide +kernel
theorem dX8_loaves_2 : decode cX8_loaves 2 = .ok (.bipush 20, 2) := by decide +kernel
theorem dX8_loaves_4 : decode cX8_loaves 4 = .ok (.invokestatic 102, 3) := by decide +kernel
theorem dX8_loaves_7 : decode cX8_loaves 7 = .ok (.ifCond .eq 18, 3) := by decide +kernel
theorem dX8_loaves_10 : decode cX8_loaves 10 = .ok (.aload_n 0, 1) := by decide +kernel
theorem dX8_loaves_11 : decode cX8_loaves 11 = .ok (.getfield 10, 3) := by decide +kernel
theorem dX8_loaves_14 : decode cX8_loaves 14 = .ok (.getfield 106, 3) := by decide +kernel
theorem dX8_loaves_17 : decode cX8_loaves 17 = .ok (.iload_n 1, 1) := by decide +kernel
theorem dX8_loaves_18 : decode cX8_loaves 18 = .ok (.iload_n 1, 1) := by decide +kernel
theorem dX8_loaves_19 : decode cX8_loaves 19 = .ok (.invokevirtual 110, 3) := by decide +kernel
theorem dX8_loaves_22 : decode cX8_loaves 22 = .ok (.goto 5, 3) := by decide +kernel
theorem dX8_loaves_25 : decode cX8_loaves 25 = .ok (.ldc 77, 2) := by decide +kernel
theorem dX8_loaves_27 : decode cX8_loaves 27 = .ok (.ireturn, 1) := by decide +kernel
theorem dX8_why_0 : decode cX8_why 0 = .ok (.aload_n 0, 1) := by decide +kernel
theorem dX8_why_1 : decode cX8_why 1 = .ok (.getfield 10, 3) := by decide +kernel
theorem dX8_why_4 : decode cX8_why 4 = .ok (.iload_n 1, 1) := by decide +kernel
theorem dX8_why_5 : decode cX8_why 5 = .ok (.iload_n 2, 1) := by decide +kernel
theorem dX8_why_6 : decode cX8_why 6 = .ok (.invokevirtual 115, 3) := by decide +kernel
theorem dX8_why_9 : decode cX8_why 9 = .ok (.ireturn, 1) := by decide +kernel
theorem dX8_wanted_0 : decode cX8_wanted 0 = .ok (.iload_n 1, 1) := by decide +kernel
theorem dX8_wanted_1 : decode cX8_wanted 1 = .ok (.iconst 0, 1) := by decide +kernel
theorem dX8_wanted_2 : decode cX8_wanted 2 = .ok (.bipush 60, 2) := by decide +kernel
theorem dX8_wanted_4 : decode cX8_wanted 4 = .ok (.invokestatic 102, 3) := by decide +kernel
theorem dX8_wanted_7 : decode cX8_wanted 7 = .ok (.ifCond .eq 22, 3) := by decide +kernel
theorem dX8_wanted_10 : decode cX8_wanted 10 = .ok (.aload_n 0, 1) := by decide +kernel
theorem dX8_wanted_11 : decode cX8_wanted 11 = .ok (.getfield 10, 3) := by decide +kernel
theorem dX8_wanted_14 : decode cX8_wanted 14 = .ok (.aload_n 0, 1) := by decide +kernel
theorem dX8_wanted_15 : decode cX8_wanted 15 = .ok (.getfield 10, 3) := by decide +kernel
theorem dX8_wanted_18 : decode cX8_wanted 18 = .ok (.getfield 90, 3) := by decide +kernel
theorem dX8_wanted_21 : decode cX8_wanted 21 = .ok (.iload_n 1, 1) := by decide +kernel
theorem dX8_wanted_22 : decode cX8_wanted 22 = .ok (.iadd, 1) := by decide +kernel
theorem dX8_wanted_23 : decode cX8_wanted 23 = .ok (.invokevirtual 118, 3) := by decide +kernel
theorem dX8_wanted_26 : decode cX8_wanted 26 = .ok (.goto 5, 3) := by decide +kernel
theorem dX8_wanted_29 : decode cX8_wanted 29 = .ok (.ldc 77, 2) := by decide +kernel
theorem dX8_wanted_31 : decode cX8_wanted 31 = .ok (.ireturn, 1) := by decide +kernel
theorem dX8_hungry_0 : decode cX8_hungry 0 = .ok (.aload_n 0, 1) := by decide +kernel
theorem dX8_hungry_1 : decode cX8_hungry 1 = .ok (.getfield 16, 3) := by decide +kernel
theorem dX8_hungry_4 : decode cX8_hungry 4 = .ok (.aload_n 0, 1) := by decide +kernel
theorem dX8_hungry_5 : decode cX8_hungry 5 = .ok (.getfield 10, 3) := by decide +kernel
theorem dX8_hungry_8 : decode cX8_hungry 8 = .ok (.invokevirtual 33, 3) := by decide +kernel
theorem dX8_hungry_11 : decode cX8_hungry 11 = .ok (.iconst 1, 1) := by decide +kernel
theorem dX8_hungry_12 : decode cX8_hungry 12 = .ok (.istore_n 1, 1) := by decide +kernel
theorem dX8_hungry_13 : decode cX8_hungry 13 = .ok (.iload_n 1, 1) := by decide +kernel
theorem dX8_hungry_14 : decode cX8_hungry 14 = .ok (.bipush 60, 2) := by decide +kernel
theorem dX8_hungry_16 : decode cX8_hungry 16 = .ok (.if_icmp .gt 41, 3) := by decide +kernel
theorem dX8_hungry_19 : decode cX8_hungry 19 = .ok (.aload_n 0, 1) := by decide +kernel
theorem dX8_hungry_20 : decode cX8_hungry 20 = .ok (.getfield 16, 3) := by decide +kernel
theorem dX8_hungry_23 : decode cX8_hungry 23 = .ok (.invokevirtual 121, 3) := by decide +kernel
theorem dX8_hungry_26 : decode cX8_hungry 26 = .ok (.aload_n 0, 1) := by decide +kernel
theorem dX8_hungry_27 : decode cX8_hungry 27 = .ok (.getfield 16, 3) := by decide +kernel
theorem dX8_hungry_30 : decode cX8_hungry 30 = .ok (.getfield 124, 3) := by decide +kernel
theorem dX8_hungry_33 : decode cX8_hungry 33 = .ok (.getfield 128, 3) := by decide +kernel
theorem dX8_hungry_36 : decode cX8_hungry 36 = .ok (.aload_n 0, 1) := by decide +kernel
theorem dX8_hungry_37 : decode cX8_hungry 37 = .ok (.getfield 10, 3) := by decide +kernel
theorem dX8_hungry_40 : decode cX8_hungry 40 = .ok (.getfield 124, 3) := by decide +kernel
theorem dX8_hungry_43 : decode cX8_hungry 43 = .ok (.getfield 128, 3) := by decide +kernel
theorem dX8_hungry_46 : decode cX8_hungry 46 = .ok (.if_icmp .le 5, 3) := by decide +kernel
theorem dX8_hungry_49 : decode cX8_hungry 49 = .ok (.iload_n 1, 1) := by decide +kernel
theorem dX8_hungry_50 : decode cX8_hungry 50 = .ok (.ireturn, 1) := by decide +kernel
theorem dX8_hungry_51 : decode cX8_hungry 51 = .ok (.iinc 1 1, 3) := by decide +kernel
theorem dX8_hungry_54 : decode cX8_hungry 54 = .ok (.goto (-41), 3) := by decide +kernel
theorem dX8_hungry_57 : decode cX8_hungry 57 = .ok (.ldc 98, 2) := by decide +kernel
theorem dX8_hungry_59 : decode cX8_hungry 59 = .ok (.ireturn, 1) := by decide +kernel
theorem dX8_next_0 : decode cX8_next 0 = .ok (.iload_n 1, 1) := by decide +kernel
theorem dX8_next_1 : decode cX8_next 1 = .ok (.iconst 0, 1) := by decide +kernel
theorem dX8_next_2 : decode cX8_next 2 = .ok (.iconst 1, 1) := by decide +kernel
theorem dX8_next_3 : decode cX8_next 3 = .ok (.invokestatic 102, 3) := by decide +kernel
theorem dX8_next_6 : decode cX8_next 6 = .ok (.ifCond .ne 6, 3) := by decide +kernel
theorem dX8_next_9 : decode cX8_next 9 = .ok (.ldc 77, 2) := by decide +kernel
theorem dX8_next_11 : decode cX8_next 11 = .ok (.ireturn, 1) := by decide +kernel
theorem dX8_next_12 : decode cX8_next 12 = .ok (.aload_n 0, 1) := by decide +kernel
theorem dX8_next_13 : decode cX8_next 13 = .ok (.getfield 10, 3) := by decide +kernel
theorem dX8_next_16 : decode cX8_next 16 = .ok (.invokevirtual 133, 3) := by decide +kernel
theorem dX8_next_19 : decode cX8_next 19 = .ok (.istore_n 2, 1) := by decide +kernel
theorem dX8_next_20 : decode cX8_next 20 = .ok (.aload_n 0, 1) := by decide +kernel
theorem dX8_next_21 : decode cX8_next 21 = .ok (.getfield 10, 3) := by decide +kernel
theorem dX8_next_24 : decode cX8_next 24 = .ok (.iload_n 2, 1) := by decide +kernel
theorem dX8_next_25 : decode cX8_next 25 = .ok (.invokevirtual 73, 3) := by decide +kernel
theorem dX8_next_28 : decode cX8_next 28 = .ok (.astore_n 3, 1) := by decide +kernel
theorem dX8_next_29 : decode cX8_next 29 = .ok (.aload_n 3, 1) := by decide +kernel
theorem dX8_next_30 : decode cX8_next 30 = .ok (.ifnonnull 6, 3) := by decide +kernel
theorem dX8_next_33 : decode cX8_next 33 = .ok (.ldc 98, 2) := by decide +kernel
theorem dX8_next_35 : decode cX8_next 35 = .ok (.ireturn, 1) := by decide +kernel
theorem dX8_next_36 : decode cX8_next 36 = .ok (.iload_n 1, 1) := by decide +kernel
theorem dX8_next_37 : decode cX8_next 37 = .ok (.ifCond .ne 7, 3) := by decide +kernel
theorem dX8_next_40 : decode cX8_next 40 = .ok (.iload_n 2, 1) := by decide +kernel
theorem dX8_next_41 : decode cX8_next 41 = .ok (.goto 17, 3) := by decide +kernel
theorem dX8_next_44 : decode cX8_next 44 = .ok (.aload_n 3, 1) := by decide +kernel
theorem dX8_next_45 : decode cX8_next 45 = .ok (.getfield 137, 3) := by decide +kernel
theorem dX8_next_48 : decode cX8_next 48 = .ok (.aload_n 0, 1) := by decide +kernel
theorem dX8_next_49 : decode cX8_next 49 = .ok (.getfield 10, 3) := by decide +kernel
theorem dX8_next_52 : decode cX8_next 52 = .ok (.invokevirtual 140, 3) := by decide +kernel
theorem dX8_next_55 : decode cX8_next 55 = .ok (.invokestatic 143, 3) := by decide +kernel
theorem dX8_next_58 : decode cX8_next 58 = .ok (.ireturn, 1) := by decide +kernel
theorem dX8_would_0 : decode cX8_would 0 = .ok (.iload_n 1, 1) := by decide +kernel
theorem dX8_would_1 : decode cX8_would 1 = .ok (.iconst 1, 1) := by decide +kernel
theorem dX8_would_2 : decode cX8_would 2 = .ok (.bipush 60, 2) := by decide +kernel
theorem dX8_would_4 : decode cX8_would 4 = .ok (.invokestatic 102, 3) := by decide +kernel
theorem dX8_would_7 : decode cX8_would 7 = .ok (.ifCond .eq 12, 3) := by decide +kernel
theorem dX8_would_10 : decode cX8_would 10 = .ok (.iload_n 2, 1) := by decide +kernel
theorem dX8_would_11 : decode cX8_would 11 = .ok (.iconst 0, 1) := by decide +kernel
theorem dX8_would_12 : decode cX8_would 12 = .ok (.iconst 3, 1) := by decide +kernel
theorem dX8_would_13 : decode cX8_would 13 = .ok (.invokestatic 102, 3) := by decide +kernel
theorem dX8_would_16 : decode cX8_would 16 = .ok (.ifCond .ne 6, 3) := by decide +kernel
theorem dX8_would_19 : decode cX8_would 19 = .ok (.ldc 77, 2) := by decide +kernel
theorem dX8_would_21 : decode cX8_would 21 = .ok (.ireturn, 1) := by decide +kernel
theorem dX8_would_22 : decode cX8_would 22 = .ok (.aload_n 0, 1) := by decide +kernel
theorem dX8_would_23 : decode cX8_would 23 = .ok (.getfield 16, 3) := by decide +kernel
theorem dX8_would_26 : decode cX8_would 26 = .ok (.aload_n 0, 1) := by decide +kernel
theorem dX8_would_27 : decode cX8_would 27 = .ok (.getfield 10, 3) := by decide +kernel
theorem dX8_would_30 : decode cX8_would 30 = .ok (.invokevirtual 33, 3) := by decide +kernel
theorem dX8_would_33 : decode cX8_would 33 = .ok (.iconst 0, 1) := by decide +kernel
theorem dX8_would_34 : decode cX8_would 34 = .ok (.istore_n 3, 1) := by decide +kernel
theorem dX8_would_35 : decode cX8_would 35 = .ok (.iload_n 3, 1) := by decide +kernel
theorem dX8_would_36 : decode cX8_would 36 = .ok (.iload_n 1, 1) := by decide +kernel
theorem dX8_would_37 : decode cX8_would 37 = .ok (.if_icmp .ge 16, 3) := by decide +kernel
theorem dX8_would_40 : decode cX8_would 40 = .ok (.aload_n 0, 1) := by decide +kernel
theorem dX8_would_41 : decode cX8_would 41 = .ok (.getfield 16, 3) := by decide +kernel
theorem dX8_would_44 : decode cX8_would 44 = .ok (.invokevirtual 121, 3) := by decide +kernel
theorem dX8_would_47 : decode cX8_would 47 = .ok (.iinc 3 1, 3) := by decide +kernel
theorem dX8_would_50 : decode cX8_would 50 = .ok (.goto (-15), 3) := by decide +kernel
theorem dX8_would_53 : decode cX8_would 53 = .ok (.iload_n 2, 1) := by decide +kernel
theorem dX8_would_54 : decode cX8_would 54 = .ok (.tableswitch 73 0 2 #[26, 48, 59], 26) := by decide +kernel
theorem dX8_would_80 : decode cX8_would 80 = .ok (.aload_n 0, 1) := by decide +kernel
theorem dX8_would_81 : decode cX8_would 81 = .ok (.getfield 16, 3) := by decide +kernel
theorem dX8_would_84 : decode cX8_would 84 = .ok (.getfield 124, 3) := by decide +kernel
theorem dX8_would_87 : decode cX8_would 87 = .ok (.getfield 148, 3) := by decide +kernel
theorem dX8_would_90 : decode cX8_would 90 = .ok (.aload_n 0, 1) := by decide +kernel
theorem dX8_would_91 : decode cX8_would 91 = .ok (.getfield 10, 3) := by decide +kernel
theorem dX8_would_94 : decode cX8_would 94 = .ok (.getfield 124, 3) := by decide +kernel
theorem dX8_would_97 : decode cX8_would 97 = .ok (.getfield 148, 3) := by decide +kernel
theorem dX8_would_100 : decode cX8_would 100 = .ok (.isub, 1) := by decide +kernel
theorem dX8_would_101 : decode cX8_would 101 = .ok (.ireturn, 1) := by decide +kernel
theorem dX8_would_102 : decode cX8_would 102 = .ok (.aload_n 0, 1) := by decide +kernel
theorem dX8_would_103 : decode cX8_would 103 = .ok (.getfield 16, 3) := by decide +kernel
theorem dX8_would_106 : decode cX8_would 106 = .ok (.getfield 124, 3) := by decide +kernel
theorem dX8_would_109 : decode cX8_would 109 = .ok (.getfield 151, 3) := by decide +kernel
theorem dX8_would_112 : decode cX8_would 112 = .ok (.ireturn, 1) := by decide +kernel
theorem dX8_would_113 : decode cX8_would 113 = .ok (.aload_n 0, 1) := by decide +kernel
theorem dX8_would_114 : decode cX8_would 114 = .ok (.getfield 16, 3) := by decide +kernel
theorem dX8_would_117 : decode cX8_would 117 = .ok (.getfield 106, 3) := by decide +kernel
theorem dX8_would_120 : decode cX8_would 120 = .ok (.iconst 0, 1) := by decide +kernel
theorem dX8_would_121 : decode cX8_would 121 = .ok (.bipush 20, 2) := by decide +kernel
theorem dX8_would_123 : decode cX8_would 123 = .ok (.invokevirtual 110, 3) := by decide +kernel
theorem dX8_would_126 : decode cX8_would 126 = .ok (.ireturn, 1) := by decide +kernel
theorem dX8_would_127 : decode cX8_would 127 = .ok (.aload_n 0, 1) := by decide +kernel
theorem dX8_would_128 : decode cX8_would 128 = .ok (.getfield 16, 3) := by decide +kernel
theorem dX8_would_131 : decode cX8_would 131 = .ok (.getfield 124, 3) := by decide +kernel
theorem dX8_would_134 : decode cX8_would 134 = .ok (.invokevirtual 154, 3) := by decide +kernel
theorem dX8_would_137 : decode cX8_would 137 = .ok (.aload_n 0, 1) := by decide +kernel
theorem dX8_would_138 : decode cX8_would 138 = .ok (.getfield 10, 3) := by decide +kernel
theorem dX8_would_141 : decode cX8_would 141 = .ok (.getfield 124, 3) := by decide +kernel
theorem dX8_would_144 : decode cX8_would 144 = .ok (.invokevirtual 154, 3) := by decide +kernel
theorem dX8_would_147 : decode cX8_would 147 = .ok (.isub, 1) := by decide +kernel
theorem dX8_would_148 : decode cX8_would 148 = .ok (.ireturn, 1) := by decide +kernel
theorem dX8_mean_0 : decode cX8_mean 0 = .ok (.aload_n 0, 1) := by decide +kernel
theorem dX8_mean_1 : decode cX8_mean 1 = .ok (.getfield 10, 3) := by decide +kernel
theorem dX8_mean_4 : decode cX8_mean 4 = .ok (.getfield 106, 3) := by decide +kernel
theorem dX8_mean_7 : decode cX8_mean 7 = .ok (.iconst 0, 1) := by decide +kernel
theorem dX8_mean_8 : decode cX8_mean 8 = .ok (.bipush 20, 2) := by decide +kernel
theorem dX8_mean_10 : decode cX8_mean 10 = .ok (.invokevirtual 110, 3) := by decide +kernel
theorem dX8_mean_13 : decode cX8_mean 13 = .ok (.istore_n 1, 1) := by decide +kernel
theorem dX8_mean_14 : decode cX8_mean 14 = .ok (.iload_n 1, 1) := by decide +kernel
theorem dX8_mean_15 : decode cX8_mean 15 = .ok (.ifCond .gt 6, 3) := by decide +kernel
theorem dX8_mean_18 : decode cX8_mean 18 = .ok (.ldc 98, 2) := by decide +kernel
theorem dX8_mean_20 : decode cX8_mean 20 = .ok (.ireturn, 1) := by decide +kernel
theorem dX8_mean_21 : decode cX8_mean 21 = .ok (.aload_n 0, 1) := by decide +kernel
theorem dX8_mean_22 : decode cX8_mean 22 = .ok (.getfield 10, 3) := by decide +kernel
theorem dX8_mean_25 : decode cX8_mean 25 = .ok (.getfield 106, 3) := by decide +kernel
theorem dX8_mean_28 : decode cX8_mean 28 = .ok (.invokevirtual 157, 3) := by decide +kernel
theorem dX8_mean_31 : decode cX8_mean 31 = .ok (.i2f, 1) := by decide +kernel
theorem dX8_mean_32 : decode cX8_mean 32 = .ok (.iload_n 1, 1) := by decide +kernel
theorem dX8_mean_33 : decode cX8_mean 33 = .ok (.i2f, 1) := by decide +kernel
theorem dX8_mean_34 : decode cX8_mean 34 = .ok (.fdiv, 1) := by decide +kernel
theorem dX8_mean_35 : decode cX8_mean 35 = .ok (.invokestatic 160, 3) := by decide +kernel
theorem dX8_mean_38 : decode cX8_mean 38 = .ok (.ireturn, 1) := by decide +kernel
theorem dX8_count_0 : decode cX8_count 0 = .ok (.iload_n 1, 1) := by decide +kernel
theorem dX8_count_1 : decode cX8_count 1 = .ok (.lookupswitch 43 #[(18, 27), (19, 35)], 27) := by decide +kernel
theorem dX8_count_28 : decode cX8_count 28 = .ok (.aload_n 0, 1) := by decide +kernel
theorem dX8_count_29 : decode cX8_count 29 = .ok (.getfield 22, 3) := by decide +kernel
theorem dX8_count_32 : decode cX8_count 32 = .ok (.getfield 164, 3) := by decide +kernel
theorem dX8_count_35 : decode cX8_count 35 = .ok (.ireturn, 1) := by decide +kernel
theorem dX8_count_36 : decode cX8_count 36 = .ok (.aload_n 0, 1) := by decide +kernel
theorem dX8_count_37 : decode cX8_count 37 = .ok (.getfield 29, 3) := by decide +kernel
theorem dX8_count_40 : decode cX8_count 40 = .ok (.getfield 167, 3) := by decide +kernel
theorem dX8_count_43 : decode cX8_count 43 = .ok (.ireturn, 1) := by decide +kernel
theorem dX8_count_44 : decode cX8_count 44 = .ok (.aload_n 0, 1) := by decide +kernel
theorem dX8_count_45 : decode cX8_count 45 = .ok (.getfield 10, 3) := by decide +kernel
theorem dX8_count_48 : decode cX8_count 48 = .ok (.iload_n 1, 1) := by decide +kernel
theorem dX8_count_49 : decode cX8_count 49 = .ok (.invokevirtual 170, 3) := by decide +kernel
theorem dX8_count_52 : decode cX8_count 52 = .ok (.ireturn, 1) := by decide +kernel
theorem dX8_undo_0 : decode cX8_undo 0 = .ok (.aload_n 0, 1) := by decide +kernel
theorem dX8_undo_1 : decode cX8_undo 1 = .ok (.getfield 22, 3) := by decide +kernel
theorem dX8_undo_4 : decode cX8_undo 4 = .ok (.invokevirtual 171, 3) := by decide +kernel
theorem dX8_undo_7 : decode cX8_undo 7 = .ok (.astore_n 1, 1) := by decide +kernel
theorem dX8_undo_8 : decode cX8_undo 8 = .ok (.aload_n 1, 1) := by decide +kernel
theorem dX8_undo_9 : decode cX8_undo 9 = .ok (.ifnonnull 6, 3) := by decide +kernel
theorem dX8_undo_12 : decode cX8_undo 12 = .ok (.ldc 175, 2) := by decide +kernel
theorem dX8_undo_14 : decode cX8_undo 14 = .ok (.ireturn, 1) := by decide +kernel
theorem dX8_undo_15 : decode cX8_undo 15 = .ok (.aload_n 0, 1) := by decide +kernel
theorem dX8_undo_16 : decode cX8_undo 16 = .ok (.getfield 10, 3) := by decide +kernel
theorem dX8_undo_19 : decode cX8_undo 19 = .ok (.aload_n 1, 1) := by decide +kernel
theorem dX8_undo_20 : decode cX8_undo 20 = .ok (.invokevirtual 33, 3) := by decide +kernel
theorem dX8_undo_23 : decode cX8_undo 23 = .ok (.aload_n 0, 1) := by decide +kernel
theorem dX8_undo_24 : decode cX8_undo 24 = .ok (.getfield 22, 3) := by decide +kernel
theorem dX8_undo_27 : decode cX8_undo 27 = .ok (.getfield 164, 3) := by decide +kernel
theorem dX8_undo_30 : decode cX8_undo 30 = .ok (.ireturn, 1) := by decide +kernel
theorem dX8_type_0 : decode cX8_type 0 = .ok (.iload_n 1, 1) := by decide +kernel
theorem dX8_type_1 : decode cX8_type 1 = .ok (.bipush 32, 2) := by decide +kernel
theorem dX8_type_3 : decode cX8_type 3 = .ok (.bipush 126, 2) := by decide +kernel
theorem dX8_type_5 : decode cX8_type 5 = .ok (.invokestatic 102, 3) := by decide +kernel
theorem dX8_type_8 : decode cX8_type 8 = .ok (.ifCond .eq 15, 3) := by decide +kernel
theorem dX8_type_11 : decode cX8_type 11 = .ok (.aload_n 0, 1) := by decide +kernel
theorem dX8_type_12 : decode cX8_type 12 = .ok (.getfield 29, 3) := by decide +kernel
theorem dX8_type_15 : decode cX8_type 15 = .ok (.iload_n 1, 1) := by decide +kernel
theorem dX8_type_16 : decode cX8_type 16 = .ok (.i2c, 1) := by decide +kernel
theorem dX8_type_17 : decode cX8_type 17 = .ok (.invokevirtual 176, 3) := by decide +kernel
theorem dX8_type_20 : decode cX8_type 20 = .ok (.goto 5, 3) := by decide +kernel
theorem dX8_type_23 : decode cX8_type 23 = .ok (.ldc 77, 2) := by decide +kernel
theorem dX8_type_25 : decode cX8_type 25 = .ok (.ireturn, 1) := by decide +kernel
theorem dX8_clearText_0 : decode cX8_clearText 0 = .ok (.aload_n 0, 1) := by decide +kernel
theorem dX8_clearText_1 : decode cX8_clearText 1 = .ok (.getfield 29, 3) := by decide +kernel
theorem dX8_clearText_4 : decode cX8_clearText 4 = .ok (.invokevirtual 180, 3) := by decide +kernel
theorem dX8_clearText_7 : decode cX8_clearText 7 = .ok (.ireturn, 1) := by decide +kernel
theorem dX8_fault_0 : decode cX8_fault 0 = .ok (.iload_n 1, 1) := by decide +kernel
theorem dX8_fault_1 : decode cX8_fault 1 = .ok (.iconst 0, 1) := by decide +kernel
theorem dX8_fault_2 : decode cX8_fault 2 = .ok (.iconst 2, 1) := by decide +kernel
theorem dX8_fault_3 : decode cX8_fault 3 = .ok (.invokestatic 102, 3) := by decide +kernel
theorem dX8_fault_6 : decode cX8_fault 6 = .ok (.ifCond .ne 6, 3) := by decide +kernel
theorem dX8_fault_9 : decode cX8_fault 9 = .ok (.ldc 77, 2) := by decide +kernel
theorem dX8_fault_11 : decode cX8_fault 11 = .ok (.ireturn, 1) := by decide +kernel
theorem dX8_fault_12 : decode cX8_fault 12 = .ok (.aload_n 0, 1) := by decide +kernel
theorem dX8_fault_13 : decode cX8_fault 13 = .ok (.getfield 16, 3) := by decide +kernel
theorem dX8_fault_16 : decode cX8_fault 16 = .ok (.aload_n 0, 1) := by decide +kernel
theorem dX8_fault_17 : decode cX8_fault 17 = .ok (.getfield 10, 3) := by decide +kernel
theorem dX8_fault_20 : decode cX8_fault 20 = .ok (.invokevirtual 33, 3) := by decide +kernel
theorem dX8_fault_23 : decode cX8_fault 23 = .ok (.aload_n 0, 1) := by decide +kernel
theorem dX8_fault_24 : decode cX8_fault 24 = .ok (.getfield 29, 3) := by decide +kernel
theorem dX8_fault_27 : decode cX8_fault 27 = .ok (.aload_n 0, 1) := by decide +kernel
theorem dX8_fault_28 : decode cX8_fault 28 = .ok (.getfield 16, 3) := by decide +kernel
theorem dX8_fault_31 : decode cX8_fault 31 = .ok (.invokevirtual 183, 3) := by decide +kernel
theorem dX8_fault_34 : decode cX8_fault 34 = .ok (.pop, 1) := by decide +kernel
theorem dX8_fault_35 : decode cX8_fault 35 = .ok (.aload_n 0, 1) := by decide +kernel
theorem dX8_fault_36 : decode cX8_fault 36 = .ok (.getfield 29, 3) := by decide +kernel
theorem dX8_fault_39 : decode cX8_fault 39 = .ok (.getfield 187, 3) := by decide +kernel
theorem dX8_fault_42 : decode cX8_fault 42 = .ok (.ifCond .ne 6, 3) := by decide +kernel
theorem dX8_fault_45 : decode cX8_fault 45 = .ok (.ldc 98, 2) := by decide +kernel
theorem dX8_fault_47 : decode cX8_fault 47 = .ok (.ireturn, 1) := by decide +kernel
theorem dX8_fault_48 : decode cX8_fault 48 = .ok (.iload_n 1, 1) := by decide +kernel
theorem dX8_fault_49 : decode cX8_fault 49 = .ok (.lookupswitch 43 #[(0, 27), (1, 35)], 27) := by decide +kernel
theorem dX8_fault_76 : decode cX8_fault 76 = .ok (.aload_n 0, 1) := by decide +kernel
theorem dX8_fault_77 : decode cX8_fault 77 = .ok (.getfield 29, 3) := by decide +kernel
theorem dX8_fault_80 : decode cX8_fault 80 = .ok (.getfield 190, 3) := by decide +kernel
theorem dX8_fault_83 : decode cX8_fault 83 = .ok (.ireturn, 1) := by decide +kernel
theorem dX8_fault_84 : decode cX8_fault 84 = .ok (.aload_n 0, 1) := by decide +kernel
theorem dX8_fault_85 : decode cX8_fault 85 = .ok (.getfield 29, 3) := by decide +kernel
theorem dX8_fault_88 : decode cX8_fault 88 = .ok (.getfield 187, 3) := by decide +kernel
theorem dX8_fault_91 : decode cX8_fault 91 = .ok (.ireturn, 1) := by decide +kernel
theorem dX8_fault_92 : decode cX8_fault 92 = .ok (.aload_n 0, 1) := by decide +kernel
theorem dX8_fault_93 : decode cX8_fault 93 = .ok (.getfield 29, 3) := by decide +kernel
theorem dX8_fault_96 : decode cX8_fault 96 = .ok (.getfield 193, 3) := by decide +kernel
theorem dX8_fault_99 : decode cX8_fault 99 = .ok (.ireturn, 1) := by decide +kernel
theorem dX8_play_0 : decode cX8_play 0 = .ok (.aload_n 0, 1) := by decide +kernel
theorem dX8_play_1 : decode cX8_play 1 = .ok (.getfield 16, 3) := by decide +kernel
theorem dX8_play_4 : decode cX8_play 4 = .ok (.aload_n 0, 1) := by decide +kernel
theorem dX8_play_5 : decode cX8_play 5 = .ok (.getfield 10, 3) := by decide +kernel
theorem dX8_play_8 : decode cX8_play 8 = .ok (.invokevirtual 33, 3) := by decide +kernel
theorem dX8_play_11 : decode cX8_play 11 = .ok (.aload_n 0, 1) := by decide +kernel
theorem dX8_play_12 : decode cX8_play 12 = .ok (.getfield 29, 3) := by decide +kernel
theorem dX8_play_15 : decode cX8_play 15 = .ok (.aload_n 0, 1) := by decide +kernel
theorem dX8_play_16 : decode cX8_play 16 = .ok (.getfield 16, 3) := by decide +kernel
theorem dX8_play_19 : decode cX8_play 19 = .ok (.invokevirtual 183, 3) := by decide +kernel
theorem dX8_play_22 : decode cX8_play 22 = .ok (.istore_n 1, 1) := by decide +kernel
theorem dX8_play_23 : decode cX8_play 23 = .ok (.aload_n 0, 1) := by decide +kernel
theorem dX8_play_24 : decode cX8_play 24 = .ok (.aload_n 0, 1) := by decide +kernel
theorem dX8_play_25 : decode cX8_play 25 = .ok (.getfield 29, 3) := by decide +kernel
theorem dX8_play_28 : decode cX8_play 28 = .ok (.getfield 187, 3) := by decide +kernel
theorem dX8_play_31 : decode cX8_play 31 = .ok (.ifCond .ne 7, 3) := by decide +kernel
theorem dX8_play_34 : decode cX8_play 34 = .ok (.iload_n 1, 1) := by decide +kernel
theorem dX8_play_35 : decode cX8_play 35 = .ok (.goto 5, 3) := by decide +kernel
theorem dX8_play_38 : decode cX8_play 38 = .ok (.ldc 175, 2) := by decide +kernel
theorem dX8_play_40 : decode cX8_play 40 = .ok (.invokevirtual 41, 3) := by decide +kernel
theorem dX8_play_43 : decode cX8_play 43 = .ok (.ireturn, 1) := by decide +kernel
theorem dX8_takeOver_0 : decode cX8_takeOver 0 = .ok (.iload_n 1, 1) := by decide +kernel
theorem dX8_takeOver_1 : decode cX8_takeOver 1 = .ok (.ifCond .lt 25, 3) := by decide +kernel
theorem dX8_takeOver_4 : decode cX8_takeOver 4 = .ok (.aload_n 0, 1) := by decide +kernel
theorem dX8_takeOver_5 : decode cX8_takeOver 5 = .ok (.getfield 22, 3) := by decide +kernel
theorem dX8_takeOver_8 : decode cX8_takeOver 8 = .ok (.aload_n 0, 1) := by decide +kernel
theorem dX8_takeOver_9 : decode cX8_takeOver 9 = .ok (.getfield 10, 3) := by decide +kernel
theorem dX8_takeOver_12 : decode cX8_takeOver 12 = .ok (.invokevirtual 196, 3) := by decide +kernel
theorem dX8_takeOver_15 : decode cX8_takeOver 15 = .ok (.aload_n 0, 1) := by decide +kernel
theorem dX8_takeOver_16 : decode cX8_takeOver 16 = .ok (.getfield 10, 3) := by decide +kernel
theorem dX8_takeOver_19 : decode cX8_takeOver 19 = .ok (.aload_n 0, 1) := by decide +kernel
theorem dX8_takeOver_20 : decode cX8_takeOver 20 = .ok (.getfield 16, 3) := by decide +kernel
theorem dX8_takeOver_23 : decode cX8_takeOver 23 = .ok (.invokevirtual 33, 3) := by decide +kernel
theorem dX8_takeOver_26 : decode cX8_takeOver 26 = .ok (.iload_n 1, 1) := by decide +kernel
theorem dX8_takeOver_27 : decode cX8_takeOver 27 = .ok (.ireturn, 1) := by decide +kernel
theorem dX8_isWithin_0 : decode cX8_isWithin 0 = .ok (.iload_n 0, 1) := by decide +kernel
theorem dX8_isWithin_1 : decode cX8_isWithin 1 = .ok (.iload_n 1, 1) := by decide +kernel
theorem dX8_isWithin_2 : decode cX8_isWithin 2 = .ok (.if_icmp .lt 12, 3) := by decide +kernel
theorem dX8_isWithin_5 : decode cX8_isWithin 5 = .ok (.iload_n 0, 1) := by decide +kernel
theorem dX8_isWithin_6 : decode cX8_isWithin 6 = .ok (.iload_n 2, 1) := by decide +kernel
theorem dX8_isWithin_7 : decode cX8_isWithin 7 = .ok (.if_icmp .gt 7, 3) := by decide +kernel
theorem dX8_isWithin_10 : decode cX8_isWithin 10 = .ok (.iconst 1, 1) := by decide +kernel
theorem dX8_isWithin_11 : decode cX8_isWithin 11 = .ok (.goto 4, 3) := by decide +kernel
theorem dX8_isWithin_14 : decode cX8_isWithin 14 = .ok (.iconst 0, 1) := by decide +kernel
theorem dX8_isWithin_15 : decode cX8_isWithin 15 = .ok (.ireturn, 1) := by decide +kernel
theorem dX8_bitsOf_0 : decode cX8_bitsOf 0 = .ok (.fload_n 0, 1) := by decide +kernel
theorem dX8_bitsOf_1 : decode cX8_bitsOf 1 = .ok (.fstore_n 1, 1) := by decide +kernel
theorem dX8_bitsOf_2 : decode cX8_bitsOf 2 = .ok (.bipush 127, 2) := by decide +kernel
theorem dX8_bitsOf_4 : decode cX8_bitsOf 4 = .ok (.istore_n 2, 1) := by decide +kernel
theorem dX8_bitsOf_5 : decode cX8_bitsOf 5 = .ok (.iconst 0, 1) := by decide +kernel
theorem dX8_bitsOf_6 : decode cX8_bitsOf 6 = .ok (.istore_n 3, 1) := by decide +kernel
theorem dX8_bitsOf_7 : decode cX8_bitsOf 7 = .ok (.iload_n 3, 1) := by decide +kernel
theorem dX8_bitsOf_8 : decode cX8_bitsOf 8 = .ok (.bipush 127, 2) := by decide +kernel
theorem dX8_bitsOf_10 : decode cX8_bitsOf 10 = .ok (.if_icmp .ge 22, 3) := by decide +kernel
theorem dX8_bitsOf_13 : decode cX8_bitsOf 13 = .ok (.fload_n 1, 1) := by decide +kernel
theorem dX8_bitsOf_14 : decode cX8_bitsOf 14 = .ok (.fconst 2, 1) := by decide +kernel
theorem dX8_bitsOf_15 : decode cX8_bitsOf 15 = .ok (.fcmp .l, 1) := by decide +kernel
theorem dX8_bitsOf_16 : decode cX8_bitsOf 16 = .ok (.ifCond .lt 16, 3) := by decide +kernel
theorem dX8_bitsOf_19 : decode cX8_bitsOf 19 = .ok (.fload_n 1, 1) := by decide +kernel
theorem dX8_bitsOf_20 : decode cX8_bitsOf 20 = .ok (.fconst 2, 1) := by decide +kernel
theorem dX8_bitsOf_21 : decode cX8_bitsOf 21 = .ok (.fdiv, 1) := by decide +kernel
theorem dX8_bitsOf_22 : decode cX8_bitsOf 22 = .ok (.fstore_n 1, 1) := by decide +kernel
theorem dX8_bitsOf_23 : decode cX8_bitsOf 23 = .ok (.iinc 2 1, 3) := by decide +kernel
theorem dX8_bitsOf_26 : decode cX8_bitsOf 26 = .ok (.iinc 3 1, 3) := by decide +kernel
theorem dX8_bitsOf_29 : decode cX8_bitsOf 29 = .ok (.goto (-22), 3) := by decide +kernel
theorem dX8_bitsOf_32 : decode cX8_bitsOf 32 = .ok (.iload_n 2, 1) := by decide +kernel
theorem dX8_bitsOf_33 : decode cX8_bitsOf 33 = .ok (.bipush 23, 2) := by decide +kernel
theorem dX8_bitsOf_35 : decode cX8_bitsOf 35 = .ok (.ishl, 1) := by decide +kernel
theorem dX8_bitsOf_36 : decode cX8_bitsOf 36 = .ok (.fload_n 1, 1) := by decide +kernel
theorem dX8_bitsOf_37 : decode cX8_bitsOf 37 = .ok (.fconst 1, 1) := by decide +kernel
theorem dX8_bitsOf_38 : decode cX8_bitsOf 38 = .ok (.fsub, 1) := by decide +kernel
theorem dX8_bitsOf_39 : decode cX8_bitsOf 39 = .ok (.ldc 199, 2) := by decide +kernel
theorem dX8_bitsOf_41 : decode cX8_bitsOf 41 = .ok (.fmul, 1) := by decide +kernel
theorem dX8_bitsOf_42 : decode cX8_bitsOf 42 = .ok (.f2i, 1) := by decide +kernel
theorem dX8_bitsOf_43 : decode cX8_bitsOf 43 = .ok (.ior, 1) := by decide +kernel
theorem dX8_bitsOf_44 : decode cX8_bitsOf 44 = .ok (.ireturn, 1) := by decide +kernel
theorem dX9_init_0 : decode cX9_init 0 = .ok (.aload_n 0, 1) := by decide +kernel
theorem dX9_init_1 : decode cX9_init 1 = .ok (.invokespecial 1, 3) := by decide +kernel
theorem dX9_init_4 : decode cX9_init 4 = .ok (.aload_n 0, 1) := by decide +kernel
theorem dX9_init_5 : decode cX9_init 5 = .ok (.sipush 136, 3) := by decide +kernel
theorem dX9_init_8 : decode cX9_init 8 = .ok (.newarray .int, 2) := by decide +kernel
theorem dX9_init_10 : decode cX9_init 10 = .ok (.putfield 7, 3) := by decide +kernel
theorem dX9_init_13 : decode cX9_init 13 = .ok (.aload_n 0, 1) := by decide +kernel
theorem dX9_init_14 : decode cX9_init 14 = .ok (.sipush 544, 3) := by decide +kernel
theorem dX9_init_17 : decode cX9_init 17 = .ok (.newarray .int, 2) := by decide +kernel
theorem dX9_init_19 : decode cX9_init 19 = .ok (.putfield 13, 3) := by decide +kernel
theorem dX9_init_22 : decode cX9_init 22 = .ok (.aload_n 0, 1) := by decide +kernel
theorem dX9_init_23 : decode cX9_init 23 = .ok (.sipush 136, 3) := by decide +kernel
theorem dX9_init_26 : decode cX9_init 26 = .ok (.newarray .int, 2) := by decide +kernel
theorem dX9_init_28 : decode cX9_init 28 = .ok (.putfield 16, 3) := by decide +kernel
theorem dX9_init_31 : decode cX9_init 31 = .ok (.aload_n 0, 1) := by decide +kernel
theorem dX9_init_32 : decode cX9_init 32 = .ok (.sipush 136, 3) := by decide +kernel
theorem dX9_init_35 : decode cX9_init 35 = .ok (.newarray .int, 2) := by decide +kernel
theorem dX9_init_37 : decode cX9_init 37 = .ok (.putfield 19, 3) := by decide +kernel
theorem dX9_init_40 : decode cX9_init 40 = .ok (.aload_n 0, 1) := by decide +kernel
theorem dX9_init_41 : decode cX9_init 41 = .ok (.bipush 60, 2) := by decide +kernel
theorem dX9_init_43 : decode cX9_init 43 = .ok (.newarray .int, 2) := by decide +kernel
theorem dX9_init_45 : decode cX9_init 45 = .ok (.putfield 22, 3) := by decide +kernel
theorem dX9_init_48 : decode cX9_init 48 = .ok (.aload_n 0, 1) := by decide +kernel
theorem dX9_init_49 : decode cX9_init 49 = .ok (.iconst 3, 1) := by decide +kernel
theorem dX9_init_50 : decode cX9_init 50 = .ok (.newarray .int, 2) := by decide +kernel
theorem dX9_init_52 : decode cX9_init 52 = .ok (.putfield 25, 3) := by decide +kernel
theorem dX9_init_55 : decode cX9_init 55 = .ok (.aload_n 0, 1) := by decide +kernel
theorem dX9_init_56 : decode cX9_init 56 = .ok (.getfield 7, 3) := by decide +kernel
theorem dX9_init_59 : decode cX9_init 59 = .ok (.iconst 4, 1) := by decide +kernel
theorem dX9_init_60 : decode cX9_init 60 = .ok (.iconst 1, 1) := by decide +kernel
theorem dX9_init_61 : decode cX9_init 61 = .ok (.iastore, 1) := by decide +kernel
theorem dX9_init_62 : decode cX9_init 62 = .ok (.aload_n 0, 1) := by decide +kernel
theorem dX9_init_63 : decode cX9_init 63 = .ok (.getfield 7, 3) := by decide +kernel
theorem dX9_init_66 : decode cX9_init 66 = .ok (.bipush 15, 2) := by decide +kernel
theorem dX9_init_68 : decode cX9_init 68 = .ok (.iconst 2, 1) := by decide +kernel
theorem dX9_init_69 : decode cX9_init 69 = .ok (.iastore, 1) := by decide +kernel
theorem dX9_init_70 : decode cX9_init 70 = .ok (.aload_n 0, 1) := by decide +kernel
theorem dX9_init_71 : decode cX9_init 71 = .ok (.getfield 7, 3) := by decide +kernel
theorem dX9_init_74 : decode cX9_init 74 = .ok (.bipush 16, 2) := by decide +kernel
theorem dX9_init_76 : decode cX9_init 76 = .ok (.bipush 100, 2) := by decide +kernel
theorem dX9_init_78 : decode cX9_init 78 = .ok (.iastore, 1) := by decide +kernel
theorem dX9_init_79 : decode cX9_init 79 = .ok (.aload_n 0, 1) := by decide +kernel
theorem dX9_init_80 : decode cX9_init 80 = .ok (.getfield 7, 3) := by decide +kernel
theorem dX9_init_83 : decode cX9_init 83 = .ok (.bipush 17, 2) := by decide +kernel
theorem dX9_init_85 : decode cX9_init 85 = .ok (.iconst 3, 1) := by decide +kernel
theorem dX9_init_86 : decode cX9_init 86 = .ok (.iastore, 1) := by decide +kernel
theorem dX9_init_87 : decode cX9_init 87 = .ok (.aload_n 0, 1) := by decide +kernel
theorem dX9_init_88 : decode cX9_init 88 = .ok (.getfield 7, 3) := by decide +kernel
theorem dX9_init_91 : decode cX9_init 91 = .ok (.bipush 18, 2) := by decide +kernel
theorem dX9_init_93 : decode cX9_init 93 = .ok (.bipush 10, 2) := by decide +kernel
theorem dX9_init_95 : decode cX9_init 95 = .ok (.iastore, 1) := by decide +kernel
theorem dX9_init_96 : decode cX9_init 96 = .ok (.return_, 1) := by decide +kernel
theorem dX9_in_0 : decode cX9_in 0 = .ok (.iload_n 0, 1) := by decide +kernel
theorem dX9_in_1 : decode cX9_in 1 = .ok (.iload_n 1, 1) := by decide +kernel
theorem dX9_in_2 : decode cX9_in 2 = .ok (.if_icmp .lt 12, 3) := by decide +kernel
theorem dX9_in_5 : decode cX9_in 5 = .ok (.iload_n 0, 1) := by decide +kernel
theorem dX9_in_6 : decode cX9_in 6 = .ok (.iload_n 2, 1) := by decide +kernel
theorem dX9_in_7 : decode cX9_in 7 = .ok (.if_icmp .gt 7, 3) := by decide +kernel
theorem dX9_in_10 : decode cX9_in 10 = .ok (.iconst 1, 1) := by decide +kernel
theorem dX9_in_11 : decode cX9_in 11 = .ok (.goto 4, 3) := by decide +kernel
theorem dX9_in_14 : decode cX9_in 14 = .ok (.iconst 0, 1) := by decide +kernel
theorem dX9_in_15 : decode cX9_in 15 = .ok (.ireturn, 1) := by decide +kernel
theorem dX9_lesser_0 : decode cX9_lesser 0 = .ok (.iload_n 0, 1) := by decide +kernel
theorem dX9_lesser_1 : decode cX9_lesser 1 = .ok (.iload_n 1, 1) := by decide +kernel
theorem dX9_lesser_2 : decode cX9_lesser 2 = .ok (.if_icmp .ge 7, 3) := by decide +kernel
theorem dX9_lesser_5 : decode cX9_lesser 5 = .ok (.iload_n 0, 1) := by decide +kernel
theorem dX9_lesser_6 : decode cX9_lesser 6 = .ok (.goto 4, 3) := by decide +kernel
theorem dX9_lesser_9 : decode cX9_lesser 9 = .ok (.iload_n 1, 1) := by decide +kernel
theorem dX9_lesser_10 : decode cX9_lesser 10 = .ok (.ireturn, 1) := by decide +kernel
theorem dX9_copies_0 : decode cX9_copies 0 = .ok (.iconst 0, 1) := by decide +kernel
theorem dX9_copies_1 : decode cX9_copies 1 = .ok (.istore_n 2, 1) := by decide +kernel
theorem dX9_copies_2 : decode cX9_copies 2 = .ok (.iload_n 2, 1) := by decide +kernel
theorem dX9_copies_3 : decode cX9_copies 3 = .ok (.sipush 136, 3) := by decide +kernel
theorem dX9_copies_6 : decode cX9_copies 6 = .ok (.if_icmp .ge 15, 3) := by decide +kernel
theorem dX9_copies_9 : decode cX9_copies 9 = .ok (.aload_n 1, 1) := by decide +kernel
theorem dX9_copies_10 : decode cX9_copies 10 = .ok (.iload_n 2, 1) := by decide +kernel
theorem dX9_copies_11 : decode cX9_copies 11 = .ok (.aload_n 0, 1) := by decide +kernel
theorem dX9_copies_12 : decode cX9_copies 12 = .ok (.iload_n 2, 1) := by decide +kernel
theorem dX9_copies_13 : decode cX9_copies 13 = .ok (.iaload, 1) := by decide +kernel
theorem dX9_copies_14 : decode cX9_copies 14 = .ok (.iastore, 1) := by decide +kernel
theorem dX9_copies_15 : decode cX9_copies 15 = .ok (.iinc 2 1, 3) := by decide +kernel
theorem dX9_copies_18 : decode cX9_copies 18 = .ok (.goto (-16), 3) := by decide +kernel
theorem dX9_copies_21 : decode cX9_copies 21 = .ok (.return_, 1) := by decide +kernel
theorem dX9_changes_0 : decode cX9_changes 0 = .ok (.aload_n 0, 1) := by decide +kernel
theorem dX9_changes_1 : decode cX9_changes 1 = .ok (.getfield 28, 3) := by decide +kernel
theorem dX9_changes_4 : decode cX9_changes 4 = .ok (.ifCond .eq 4, 3) := by decide +kernel
theorem dX9_changes_7 : decode cX9_changes 7 = .ok (.return_, 1) := by decide +kernel
theorem dX9_changes_8 : decode cX9_changes 8 = .ok (.aload_n 0, 1) := by decide +kernel
theorem dX9_changes_9 : decode cX9_changes 9 = .ok (.getfield 32, 3) := by decide +kernel
theorem dX9_changes_12 : decode cX9_changes 12 = .ok (.iconst 4, 1) := by decide +kernel
theorem dX9_changes_13 : decode cX9_changes 13 = .ok (.if_icmp .ne 44, 3) := by decide +kernel
theorem dX9_changes_16 : decode cX9_changes 16 = .ok (.iconst 0, 1) := by decide +kernel
theorem dX9_changes_17 : decode cX9_changes 17 = .ok (.istore_n 1, 1) := by decide +kernel
theorem dX9_changes_18 : decode cX9_changes 18 = .ok (.iload_n 1, 1) := by decide +kernel
theorem dX9_changes_19 : decode cX9_changes 19 = .ok (.sipush 408, 3) := by decide +kernel
theorem dX9_changes_22 : decode cX9_changes 22 = .ok (.if_icmp .ge 25, 3) := by decide +kernel
theorem dX9_changes_25 : decode cX9_changes 25 = .ok (.aload_n 0, 1) := by decide +kernel
theorem dX9_changes_26 : decode cX9_changes 26 = .ok (.getfield 13, 3) := by decide +kernel
theorem dX9_changes_29 : decode cX9_changes 29 = .ok (.iload_n 1, 1) := by decide +kernel
theorem dX9_changes_30 : decode cX9_changes 30 = .ok (.aload_n 0, 1) := by decide +kernel
theorem dX9_changes_31 : decode cX9_changes 31 = .ok (.getfield 13, 3) := by decide +kernel
theorem dX9_changes_34 : decode cX9_changes 34 = .ok (.iload_n 1, 1) := by decide +kernel
theorem dX9_changes_35 : decode cX9_changes 35 = .ok (.sipush 136, 3) := by decide +kernel
theorem dX9_changes_38 : decode cX9_changes 38 = .ok (.iadd, 1) := by decide +kernel
theorem dX9_changes_39 : decode cX9_changes 39 = .ok (.iaload, 1) := by decide +kernel
theorem dX9_changes_40 : decode cX9_changes 40 = .ok (.iastore, 1) := by decide +kernel
theorem dX9_changes_41 : decode cX9_changes 41 = .ok (.iinc 1 1, 3) := by decide +kernel
theorem dX9_changes_44 : decode cX9_changes 44 = .ok (.goto (-26), 3) := by decide +kernel
theorem dX9_changes_47 : decode cX9_changes 47 = .ok (.aload_n 0, 1) := by decide +kernel
theorem dX9_changes_48 : decode cX9_changes 48 = .ok (.dup, 1) := by decide +kernel
theorem dX9_changes_49 : decode cX9_changes 49 = .ok (.getfield 32, 3) := by decide +kernel
theorem dX9_changes_52 : decode cX9_changes 52 = .ok (.iconst 1, 1) := by decide +kernel
theorem dX9_changes_53 : decode cX9_changes 53 = .ok (.isub, 1) := by decide +kernel
theorem dX9_changes_54 : decode cX9_changes 54 = .ok (.putfield 32, 3) := by decide +kernel
theorem dX9_changes_57 : decode cX9_changes 57 = .ok (.iconst 0, 1) := by decide +kernel
theorem dX9_changes_58 : decode cX9_changes 58 = .ok (.istore_n 1, 1) := by decide +kernel
theorem dX9_changes_59 : decode cX9_changes 59 = .ok (.iload_n 1, 1) := by decide +kernel
theorem dX9_changes_60 : decode cX9_changes 60 = .ok (.sipush 136, 3) := by decide +kernel
theorem dX9_changes_63 : decode cX9_changes 63 = .ok (.if_icmp .ge 30, 3) := by decide +kernel
theorem dX9_changes_66 : decode cX9_changes 66 = .ok (.aload_n 0, 1) := by decide +kernel
theorem dX9_changes_67 : decode cX9_changes 67 = .ok (.getfield 13, 3) := by decide +kernel
theorem dX9_changes_70 : decode cX9_changes 70 = .ok (.sipush 136, 3) := by decide +kernel
theorem dX9_changes_73 : decode cX9_changes 73 = .ok (.aload_n 0, 1) := by decide +kernel
theorem dX9_changes_74 : decode cX9_changes 74 = .ok (.getfield 32, 3) := by decide +kernel
theorem dX9_changes_77 : decode cX9_changes 77 = .ok (.imul, 1) := by decide +kernel
theorem dX9_changes_78 : decode cX9_changes 78 = .ok (.iload_n 1, 1) := by decide +kernel
theorem dX9_changes_79 : decode cX9_changes 79 = .ok (.iadd, 1) := by decide +kernel
theorem dX9_changes_80 : decode cX9_changes 80 = .ok (.aload_n 0, 1) := by decide +kernel
theorem dX9_changes_81 : decode cX9_changes 81 = .ok (.getfield 7, 3) := by decide +kernel
theorem dX9_changes_84 : decode cX9_changes 84 = .ok (.iload_n 1, 1) := by decide +kernel
theorem dX9_changes_85 : decode cX9_changes 85 = .ok (.iaload, 1) := by decide +kernel
theorem dX9_changes_86 : decode cX9_changes 86 = .ok (.iastore, 1) := by decide +kernel
theorem dX9_changes_87 : decode cX9_changes 87 = .ok (.iinc 1 1, 3) := by decide +kernel
theorem dX9_changes_90 : decode cX9_changes 90 = .ok (.goto (-31), 3) := by decide +kernel
theorem dX9_changes_93 : decode cX9_changes 93 = .ok (.aload_n 0, 1) := by decide +kernel
theorem dX9_changes_94 : decode cX9_changes 94 = .ok (.dup, 1) := by decide +kernel
theorem dX9_changes_95 : decode cX9_changes 95 = .ok (.getfield 32, 3) := by decide +kernel
theorem dX9_changes_98 : decode cX9_changes 98 = .ok (.iconst 1, 1) := by decide +kernel
theorem dX9_changes_99 : decode cX9_changes 99 = .ok (.iadd, 1) := by decide +kernel
theorem dX9_changes_100 : decode cX9_changes 100 = .ok (.putfield 32, 3) := by decide +kernel
theorem dX9_changes_103 : decode cX9_changes 103 = .ok (.return_, 1) := by decide +kernel
theorem dX9_isMule_0 : decode cX9_isMule 0 = .ok (.iload_n 1, 1) := by decide +kernel
theorem dX9_isMule_1 : decode cX9_isMule 1 = .ok (.ifCond .lt 17, 3) := by decide +kernel
theorem dX9_isMule_4 : decode cX9_isMule 4 = .ok (.iload_n 1, 1) := by decide +kernel
theorem dX9_isMule_5 : decode cX9_isMule 5 = .ok (.aload_n 0, 1) := by decide +kernel
theorem dX9_isMule_6 : decode cX9_isMule 6 = .ok (.getfield 7, 3) := by decide +kernel
theorem dX9_isMule_9 : decode cX9_isMule 9 = .ok (.iconst 0, 1) := by decide +kernel
theorem dX9_isMule_10 : decode cX9_isMule 10 = .ok (.iaload, 1) := by decide +kernel
theorem dX9_isMule_11 : decode cX9_isMule 11 = .ok (.if_icmp .ge 7, 3) := by decide +kernel
theorem dX9_isMule_14 : decode cX9_isMule 14 = .ok (.iconst 1, 1) := by decide +kernel
theorem dX9_isMule_15 : decode cX9_isMule 15 = .ok (.goto 4, 3) := by decide +kernel
theorem dX9_isMule_18 : decode cX9_isMule 18 = .ok (.iconst 0, 1) := by decide +kernel
theorem dX9_isMule_19 : decode cX9_isMule 19 = .ok (.ireturn, 1) := by decide +kernel
theorem dX9_of_0 : decode cX9_of 0 = .ok (.aload_n 0, 1) := by decide +kernel
theorem dX9_of_1 : decode cX9_of 1 = .ok (.getfield 7, 3) := by decide +kernel
theorem dX9_of_4 : decode cX9_of 4 = .ok (.bipush 19, 2) := by decide +kernel
theorem dX9_of_6 : decode cX9_of 6 = .ok (.bipush 9, 2) := by decide +kernel
theorem dX9_of_8 : decode cX9_of 8 = .ok (.iload_n 1, 1) := by decide +kernel
theorem dX9_of_9 : decode cX9_of 9 = .ok (.imul, 1) := by decide +kernel
theorem dX9_of_10 : decode cX9_of 10 = .ok (.iadd, 1) := by decide +kernel
theorem dX9_of_11 : decode cX9_of 11 = .ok (.iload_n 2, 1) := by decide +kernel
theorem dX9_of_12 : decode cX9_of 12 = .ok (.iadd, 1) := by decide +kernel
theorem dX9_of_13 : decode cX9_of 13 = .ok (.iaload, 1) := by decide +kernel
theorem dX9_of_14 : decode cX9_of 14 = .ok (.ireturn, 1) := by decide +kernel
theorem dX9_sets_0 : decode cX9_sets 0 = .ok (.aload_n 0, 1) := by decide +kernel
theorem dX9_sets_1 : decode cX9_sets 1 = .ok (.getfield 7, 3) := by decide +kernel
theorem dX9_sets_4 : decode cX9_sets 4 = .ok (.bipush 19, 2) := by decide +kernel
theorem dX9_sets_6 : decode cX9_sets 6 = .ok (.bipush 9, 2) := by decide +kernel
theorem dX9_sets_8 : decode cX9_sets 8 = .ok (.iload_n 1, 1) := by decide +kernel
theorem dX9_sets_9 : decode cX9_sets 9 = .ok (.imul, 1) := by decide +kernel
theorem dX9_sets_10 : decode cX9_sets 10 = .ok (.iadd, 1) := by decide +kernel
theorem dX9_sets_11 : decode cX9_sets 11 = .ok (.iload_n 2, 1) := by decide +kernel
theorem dX9_sets_12 : decode cX9_sets 12 = .ok (.iadd, 1) := by decide +kernel
theorem dX9_sets_13 : decode cX9_sets 13 = .ok (.iload_n 3, 1) := by decide +kernel
theorem dX9_sets_14 : decode cX9_sets 14 = .ok (.iastore, 1) := by decide +kernel
theorem dX9_sets_15 : decode cX9_sets 15 = .ok (.return_, 1) := by decide +kernel
theorem dX9_ofGroup_0 : decode cX9_ofGroup 0 = .ok (.aload_n 0, 1) := by decide +kernel
theorem dX9_ofGroup_1 : decode cX9_ofGroup 1 = .ok (.getfield 7, 3) := by decide +kernel
theorem dX9_ofGroup_4 : decode cX9_ofGroup 4 = .ok (.bipush 55, 2) := by decide +kernel
theorem dX9_ofGroup_6 : decode cX9_ofGroup 6 = .ok (.bipush 6, 2) := by decide +kernel
theorem dX9_ofGroup_8 : decode cX9_ofGroup 8 = .ok (.iload_n 1, 1) := by decide +kernel
theorem dX9_ofGroup_9 : decode cX9_ofGroup 9 = .ok (.imul, 1) := by decide +kernel
theorem dX9_ofGroup_10 : decode cX9_ofGroup 10 = .ok (.iadd, 1) := by decide +kernel
theorem dX9_ofGroup_11 : decode cX9_ofGroup 11 = .ok (.iload_n 2, 1) := by decide +kernel
theorem dX9_ofGroup_12 : decode cX9_ofGroup 12 = .ok (.iadd, 1) := by decide +kernel
theorem dX9_ofGroup_13 : decode cX9_ofGroup 13 = .ok (.iaload, 1) := by decide +kernel
theorem dX9_ofGroup_14 : decode cX9_ofGroup 14 = .ok (.ireturn, 1) := by decide +kernel
theorem dX9_placeOf_0 : decode cX9_placeOf 0 = .ok (.iconst 0, 1) := by decide +kernel
theorem dX9_placeOf_1 : decode cX9_placeOf 1 = .ok (.istore_n 2, 1) := by decide +kernel
theorem dX9_placeOf_2 : decode cX9_placeOf 2 = .ok (.iload_n 2, 1) := by decide +kernel
theorem dX9_placeOf_3 : decode cX9_placeOf 3 = .ok (.aload_n 0, 1) := by decide +kernel
theorem dX9_placeOf_4 : decode cX9_placeOf 4 = .ok (.getfield 7, 3) := by decide +kernel
theorem dX9_placeOf_7 : decode cX9_placeOf 7 = .ok (.iconst 1, 1) := by decide +kernel
theorem dX9_placeOf_8 : decode cX9_placeOf 8 = .ok (.iaload, 1) := by decide +kernel
theorem dX9_placeOf_9 : decode cX9_placeOf 9 = .ok (.if_icmp .ge 21, 3) := by decide +kernel
theorem dX9_placeOf_12 : decode cX9_placeOf 12 = .ok (.aload_n 0, 1) := by decide +kernel
theorem dX9_placeOf_13 : decode cX9_placeOf 13 = .ok (.iload_n 2, 1) := by decide +kernel
theorem dX9_placeOf_14 : decode cX9_placeOf 14 = .ok (.iconst 0, 1) := by decide +kernel
theorem dX9_placeOf_15 : decode cX9_placeOf 15 = .ok (.invokevirtual 36, 3) := by decide +kernel
theorem dX9_placeOf_18 : decode cX9_placeOf 18 = .ok (.iload_n 1, 1) := by decide +kernel
theorem dX9_placeOf_19 : decode cX9_placeOf 19 = .ok (.if_icmp .ne 5, 3) := by decide +kernel
theorem dX9_placeOf_22 : decode cX9_placeOf 22 = .ok (.iload_n 2, 1) := by decide +kernel
theorem dX9_placeOf_23 : decode cX9_placeOf 23 = .ok (.ireturn, 1) := by decide +kernel
theorem dX9_placeOf_24 : decode cX9_placeOf 24 = .ok (.iinc 2 1, 3) := by decide +kernel
theorem dX9_placeOf_27 : decode cX9_placeOf 27 = .ok (.goto (-25), 3) := by decide +kernel
theorem dX9_placeOf_30 : decode cX9_placeOf 30 = .ok (.ldc 40, 2) := by decide +kernel
theorem dX9_placeOf_32 : decode cX9_placeOf 32 = .ok (.ireturn, 1) := by decide +kernel
theorem dX9_loavesFrom_0 : decode cX9_loavesFrom 0 = .ok (.iconst 0, 1) := by decide +kernel
theorem dX9_loavesFrom_1 : decode cX9_loavesFrom 1 = .ok (.istore_n 3, 1) := by decide +kernel
theorem dX9_loavesFrom_2 : decode cX9_loavesFrom 2 = .ok (.iload_n 1, 1) := by decide +kernel
theorem dX9_loavesFrom_3 : decode cX9_loavesFrom 3 = .ok (.istore 4, 2) := by decide +kernel
theorem dX9_loavesFrom_5 : decode cX9_loavesFrom 5 = .ok (.iload 4, 2) := by decide +kernel
theorem dX9_loavesFrom_7 : decode cX9_loavesFrom 7 = .ok (.iload_n 2, 1) := by decide +kernel
theorem dX9_loavesFrom_8 : decode cX9_loavesFrom 8 = .ok (.if_icmp .gt 22, 3) := by decide +kernel
theorem dX9_loavesFrom_11 : decode cX9_loavesFrom 11 = .ok (.iload_n 3, 1) := by decide +kernel
theorem dX9_loavesFrom_12 : decode cX9_loavesFrom 12 = .ok (.aload_n 0, 1) := by decide +kernel
theorem dX9_loavesFrom_13 : decode cX9_loavesFrom 13 = .ok (.getfield 7, 3) := by decide +kernel
theorem dX9_loavesFrom_16 : decode cX9_loavesFrom 16 = .ok (.bipush 115, 2) := by decide +kernel
theorem dX9_loavesFrom_18 : decode cX9_loavesFrom 18 = .ok (.iload 4, 2) := by decide +kernel
theorem dX9_loavesFrom_20 : decode cX9_loavesFrom 20 = .ok (.iadd, 1) := by decide +kernel
theorem dX9_loavesFrom_21 : decode cX9_loavesFrom 21 = .ok (.iaload, 1) := by decide +kernel
theorem dX9_loavesFrom_22 : decode cX9_loavesFrom 22 = .ok (.iadd, 1) := by decide +kernel
theorem dX9_loavesFrom_23 : decode cX9_loavesFrom 23 = .ok (.istore_n 3, 1) := by decide +kernel
theorem dX9_loavesFrom_24 : decode cX9_loavesFrom 24 = .ok (.iinc 4 1, 3) := by decide +kernel
theorem dX9_loavesFrom_27 : decode cX9_loavesFrom 27 = .ok (.goto (-22), 3) := by decide +kernel
theorem dX9_loavesFrom_30 : decode cX9_loavesFrom 30 = .ok (.iload_n 3, 1) := by decide +kernel
theorem dX9_loavesFrom_31 : decode cX9_loavesFrom 31 = .ok (.ireturn, 1) := by decide +kernel
theorem dX9_allLoaves_0 : decode cX9_allLoaves 0 = .ok (.aload_n 0, 1) := by decide +kernel
theorem dX9_allLoaves_1 : decode cX9_allLoaves 1 = .ok (.iconst 0, 1) := by decide +kernel
theorem dX9_allLoaves_2 : decode cX9_allLoaves 2 = .ok (.bipush 20, 2) := by decide +kernel
theorem dX9_allLoaves_4 : decode cX9_allLoaves 4 = .ok (.invokevirtual 41, 3) := by decide +kernel
theorem dX9_allLoaves_7 : decode cX9_allLoaves 7 = .ok (.ireturn, 1) := by decide +kernel
theorem dX9_stale_0 : decode cX9_stale 0 = .ok (.aload_n 0, 1) := by decide +kernel
theorem dX9_stale_1 : decode cX9_stale 1 = .ok (.aload_n 0, 1) := by decide +kernel
theorem dX9_stale_2 : decode cX9_stale 2 = .ok (.getfield 7, 3) := by decide +kernel
theorem dX9_stale_5 : decode cX9_stale 5 = .ok (.bipush 17, 2) := by decide +kernel
theorem dX9_stale_7 : decode cX9_stale 7 = .ok (.iaload, 1) := by decide +kernel
theorem dX9_stale_8 : decode cX9_stale 8 = .ok (.iconst 1, 1) := by decide +kernel
theorem dX9_stale_9 : decode cX9_stale 9 = .ok (.iadd, 1) := by decide +kernel
theorem dX9_stale_10 : decode cX9_stale 10 = .ok (.bipush 20, 2) := by decide +kernel
theorem dX9_stale_12 : decode cX9_stale 12 = .ok (.invokevirtual 41, 3) := by decide +kernel
theorem dX9_stale_15 : decode cX9_stale 15 = .ok (.ireturn, 1) := by decide +kernel
theorem dX9_stores_0 : decode cX9_stores 0 = .ok (.aload_n 0, 1) := by decide +kernel
theorem dX9_stores_1 : decode cX9_stores 1 = .ok (.iload_n 1, 1) := by decide +kernel
theorem dX9_stores_2 : decode cX9_stores 2 = .ok (.iconst 4, 1) := by decide +kernel
theorem dX9_stores_3 : decode cX9_stores 3 = .ok (.invokevirtual 44, 3) := by decide +kernel
theorem dX9_stores_6 : decode cX9_stores 6 = .ok (.istore_n 2, 1) := by decide +kernel
theorem dX9_stores_7 : decode cX9_stores 7 = .ok (.aload_n 0, 1) := by decide +kernel
theorem dX9_stores_8 : decode cX9_stores 8 = .ok (.getfield 7, 3) := by decide +kernel
theorem dX9_stores_11 : decode cX9_stores 11 = .ok (.iconst 3, 1) := by decide +kernel
theorem dX9_stores_12 : decode cX9_stores 12 = .ok (.iaload, 1) := by decide +kernel
theorem dX9_stores_13 : decode cX9_stores 13 = .ok (.aload_n 0, 1) := by decide +kernel
theorem dX9_stores_14 : decode cX9_stores 14 = .ok (.iload_n 1, 1) := by decide +kernel
theorem dX9_stores_15 : decode cX9_stores 15 = .ok (.iconst 5, 1) := by decide +kernel
theorem dX9_stores_16 : decode cX9_stores 16 = .ok (.invokevirtual 44, 3) := by decide +kernel
theorem dX9_stores_19 : decode cX9_stores 19 = .ok (.isub, 1) := by decide +kernel
theorem dX9_stores_20 : decode cX9_stores 20 = .ok (.istore_n 3, 1) := by decide +kernel
theorem dX9_stores_21 : decode cX9_stores 21 = .ok (.aload_n 0, 1) := by decide +kernel
theorem dX9_stores_22 : decode cX9_stores 22 = .ok (.iload_n 1, 1) := by decide +kernel
theorem dX9_stores_23 : decode cX9_stores 23 = .ok (.iconst 4, 1) := by decide +kernel
theorem dX9_stores_24 : decode cX9_stores 24 = .ok (.iconst 0, 1) := by decide +kernel
theorem dX9_stores_25 : decode cX9_stores 25 = .ok (.invokevirtual 47, 3) := by decide +kernel
theorem dX9_stores_28 : decode cX9_stores 28 = .ok (.aload_n 0, 1) := by decide +kernel
theorem dX9_stores_29 : decode cX9_stores 29 = .ok (.iload_n 1, 1) := by decide +kernel
theorem dX9_stores_30 : decode cX9_stores 30 = .ok (.bipush 7, 2) := by decide +kernel
theorem dX9_stores_32 : decode cX9_stores 32 = .ok (.aload_n 0, 1) := by decide +kernel
theorem dX9_stores_33 : decode cX9_stores 33 = .ok (.iload_n 1, 1) := by decide +kernel
theorem dX9_stores_34 : decode cX9_stores 34 = .ok (.bipush 7, 2) := by decide +kernel
theorem dX9_stores_36 : decode cX9_stores 36 = .ok (.invokevirtual 44, 3) := by decide +kernel
theorem dX9_stores_39 : decode cX9_stores 39 = .ok (.iload_n 2, 1) := by decide +kernel
theorem dX9_stores_40 : decode cX9_stores 40 = .ok (.iadd, 1) := by decide +kernel
theorem dX9_stores_41 : decode cX9_stores 41 = .ok (.invokevirtual 47, 3) := by decide +kernel
theorem dX9_stores_44 : decode cX9_stores 44 = .ok (.iload_n 3, 1) := by decide +kernel
theorem dX9_stores_45 : decode cX9_stores 45 = .ok (.bipush 20, 2) := by decide +kernel
theorem dX9_stores_47 : decode cX9_stores 47 = .ok (.if_icmp .le 15, 3) := by decide +kernel
theorem dX9_stores_50 : decode cX9_stores 50 = .ok (.aload_n 0, 1) := by decide +kernel
theorem dX9_stores_51 : decode cX9_stores 51 = .ok (.getfield 7, 3) := by decide +kernel
theorem dX9_stores_54 : decode cX9_stores 54 = .ok (.bipush 9, 2) := by decide +kernel
theorem dX9_stores_56 : decode cX9_stores 56 = .ok (.dup2, 1) := by decide +kernel
theorem dX9_stores_57 : decode cX9_stores 57 = .ok (.iaload, 1) := by decide +kernel
theorem dX9_stores_58 : decode cX9_stores 58 = .ok (.iload_n 2, 1) := by decide +kernel
theorem dX9_stores_59 : decode cX9_stores 59 = .ok (.iadd, 1) := by decide +kernel
theorem dX9_stores_60 : decode cX9_stores 60 = .ok (.iastore, 1) := by decide +kernel
theorem dX9_stores_61 : decode cX9_stores 61 = .ok (.return_, 1) := by decide +kernel
theorem dX9_stores_62 : decode cX9_stores 62 = .ok (.iload_n 2, 1) := by decide +kernel
theorem dX9_stores_63 : decode cX9_stores 63 = .ok (.bipush 80, 2) := by decide +kernel
theorem dX9_stores_65 : decode cX9_stores 65 = .ok (.aload_n 0, 1) := by decide +kernel
theorem dX9_stores_66 : decode cX9_stores 66 = .ok (.invokevirtual 51, 3) := by decide +kernel
theorem dX9_stores_69 : decode cX9_stores 69 = .ok (.isub, 1) := by decide +kernel
theorem dX9_stores_70 : decode cX9_stores 70 = .ok (.invokestatic 55, 3) := by decide +kernel
theorem dX9_stores_73 : decode cX9_stores 73 = .ok (.istore 4, 2) := by decide +kernel
theorem dX9_stores_75 : decode cX9_stores 75 = .ok (.aload_n 0, 1) := by decide +kernel
theorem dX9_stores_76 : decode cX9_stores 76 = .ok (.getfield 7, 3) := by decide +kernel
theorem dX9_stores_79 : decode cX9_stores 79 = .ok (.bipush 115, 2) := by decide +kernel
theorem dX9_stores_81 : decode cX9_stores 81 = .ok (.iload_n 3, 1) := by decide +kernel
theorem dX9_stores_82 : decode cX9_stores 82 = .ok (.iadd, 1) := by decide +kernel
theorem dX9_stores_83 : decode cX9_stores 83 = .ok (.dup2, 1) := by decide +kernel
theorem dX9_stores_84 : decode cX9_stores 84 = .ok (.iaload, 1) := by decide +kernel
theorem dX9_stores_85 : decode cX9_stores 85 = .ok (.iload 4, 2) := by decide +kernel
theorem dX9_stores_87 : decode cX9_stores 87 = .ok (.iadd, 1) := by decide +kernel
theorem dX9_stores_88 : decode cX9_stores 88 = .ok (.iastore, 1) := by decide +kernel
theorem dX9_stores_89 : decode cX9_stores 89 = .ok (.aload_n 0, 1) := by decide +kernel
theorem dX9_stores_90 : decode cX9_stores 90 = .ok (.getfield 7, 3) := by decide +kernel
theorem dX9_stores_93 : decode cX9_stores 93 = .ok (.bipush 10, 2) := by decide +kernel
theorem dX9_stores_95 : decode cX9_stores 95 = .ok (.dup2, 1) := by decide +kernel
theorem dX9_stores_96 : decode cX9_stores 96 = .ok (.iaload, 1) := by decide +kernel
theorem dX9_stores_97 : decode cX9_stores 97 = .ok (.iload_n 2, 1) := by decide +kernel
theorem dX9_stores_98 : decode cX9_stores 98 = .ok (.iload 4, 2) := by decide +kernel
theorem dX9_stores_100 : decode cX9_stores 100 = .ok (.isub, 1) := by decide +kernel
theorem dX9_stores_101 : decode cX9_stores 101 = .ok (.iadd, 1) := by decide +kernel
theorem dX9_stores_102 : decode cX9_stores 102 = .ok (.iastore, 1) := by decide +kernel
theorem dX9_stores_103 : decode cX9_stores 103 = .ok (.return_, 1) := by decide +kernel
theorem dX9_comesHome_0 : decode cX9_comesHome 0 = .ok (.aload_n 0, 1) := by decide +kernel
theorem dX9_comesHome_1 : decode cX9_comesHome 1 = .ok (.iload_n 1, 1) := by decide +kernel
theorem dX9_comesHome_2 : decode cX9_comesHome 2 = .ok (.bipush 6, 2) := by decide +kernel
theorem dX9_comesHome_4 : decode cX9_comesHome 4 = .ok (.invokevirtual 44, 3) := by decide +kernel
theorem dX9_comesHome_7 : decode cX9_comesHome 7 = .ok (.aload_n 0, 1) := by decide +kernel
theorem dX9_comesHome_8 : decode cX9_comesHome 8 = .ok (.iload_n 1, 1) := by decide +kernel
theorem dX9_comesHome_9 : decode cX9_comesHome 9 = .ok (.iconst 1, 1) := by decide +kernel
theorem dX9_comesHome_10 : decode cX9_comesHome 10 = .ok (.invokevirtual 44, 3) := by decide +kernel
theorem dX9_comesHome_13 : decode cX9_comesHome 13 = .ok (.if_icmp .lt 7, 3) := by decide +kernel
theorem dX9_comesHome_16 : decode cX9_comesHome 16 = .ok (.iconst 1, 1) := by decide +kernel
theorem dX9_comesHome_17 : decode cX9_comesHome 17 = .ok (.goto 4, 3) := by decide +kernel
theorem dX9_comesHome_20 : decode cX9_comesHome 20 = .ok (.iconst 0, 1) := by decide +kernel
theorem dX9_comesHome_21 : decode cX9_comesHome 21 = .ok (.istore_n 2, 1) := by decide +kernel
theorem dX9_comesHome_22 : decode cX9_comesHome 22 = .ok (.aload_n 0, 1) := by decide +kernel
theorem dX9_comesHome_23 : decode cX9_comesHome 23 = .ok (.iload_n 1, 1) := by decide +kernel
theorem dX9_comesHome_24 : decode cX9_comesHome 24 = .ok (.iconst 2, 1) := by decide +kernel
theorem dX9_comesHome_25 : decode cX9_comesHome 25 = .ok (.iload_n 2, 1) := by decide +kernel
theorem dX9_comesHome_26 : decode cX9_comesHome 26 = .ok (.ifCond .eq 7, 3) := by decide +kernel
theorem dX9_comesHome_29 : decode cX9_comesHome 29 = .ok (.iconst 3, 1) := by decide +kernel
theorem dX9_comesHome_30 : decode cX9_comesHome 30 = .ok (.goto 4, 3) := by decide +kernel
theorem dX9_comesHome_33 : decode cX9_comesHome 33 = .ok (.iconst 0, 1) := by decide +kernel
theorem dX9_comesHome_34 : decode cX9_comesHome 34 = .ok (.invokevirtual 47, 3) := by decide +kernel
theorem dX9_comesHome_37 : decode cX9_comesHome 37 = .ok (.aload_n 0, 1) := by decide +kernel
theorem dX9_comesHome_38 : decode cX9_comesHome 38 = .ok (.iload_n 1, 1) := by decide +kernel
theorem dX9_comesHome_39 : decode cX9_comesHome 39 = .ok (.iconst 3, 1) := by decide +kernel
theorem dX9_comesHome_40 : decode cX9_comesHome 40 = .ok (.iload_n 2, 1) := by decide +kernel
theorem dX9_comesHome_41 : decode cX9_comesHome 41 = .ok (.ifCond .eq 7, 3) := by decide +kernel
theorem dX9_comesHome_44 : decode cX9_comesHome 44 = .ok (.iconst 5, 1) := by decide +kernel
theorem dX9_comesHome_45 : decode cX9_comesHome 45 = .ok (.goto 4, 3) := by decide +kernel
theorem dX9_comesHome_48 : decode cX9_comesHome 48 = .ok (.iconst 0, 1) := by decide +kernel
theorem dX9_comesHome_49 : decode cX9_comesHome 49 = .ok (.invokevirtual 47, 3) := by decide +kernel
theorem dX9_comesHome_52 : decode cX9_comesHome 52 = .ok (.aload_n 0, 1) := by decide +kernel
theorem dX9_comesHome_53 : decode cX9_comesHome 53 = .ok (.iload_n 1, 1) := by decide +kernel
theorem dX9_comesHome_54 : decode cX9_comesHome 54 = .ok (.bipush 8, 2) := by decide +kernel
theorem dX9_comesHome_56 : decode cX9_comesHome 56 = .ok (.aload_n 0, 1) := by decide +kernel
theorem dX9_comesHome_57 : decode cX9_comesHome 57 = .ok (.iload_n 1, 1) := by decide +kernel
theorem dX9_comesHome_58 : decode cX9_comesHome 58 = .ok (.bipush 8, 2) := by decide +kernel
theorem dX9_comesHome_60 : decode cX9_comesHome 60 = .ok (.invokevirtual 44, 3) := by decide +kernel
theorem dX9_comesHome_63 : decode cX9_comesHome 63 = .ok (.iload_n 2, 1) := by decide +kernel
theorem dX9_comesHome_64 : decode cX9_comesHome 64 = .ok (.ifCond .eq 7, 3) := by decide +kernel
theorem dX9_comesHome_67 : decode cX9_comesHome 67 = .ok (.iconst 1, 1) := by decide +kernel
theorem dX9_comesHome_68 : decode cX9_comesHome 68 = .ok (.goto 4, 3) := by decide +kernel
theorem dX9_comesHome_71 : decode cX9_comesHome 71 = .ok (.iconst 0, 1) := by decide +kernel
theorem dX9_comesHome_72 : decode cX9_comesHome 72 = .ok (.iadd, 1) := by decide +kernel
theorem dX9_comesHome_73 : decode cX9_comesHome 73 = .ok (.invokevirtual 47, 3) := by decide +kernel
theorem dX9_comesHome_76 : decode cX9_comesHome 76 = .ok (.return_, 1) := by decide +kernel
theorem dX9_comesOn_0 : decode cX9_comesOn 0 = .ok (.aload_n 0, 1) := by decide +kernel
theorem dX9_comesOn_1 : decode cX9_comesOn 1 = .ok (.iload_n 1, 1) := by decide +kernel
theorem dX9_comesOn_2 : decode cX9_comesOn 2 = .ok (.iconst 2, 1) := by decide +kernel
theorem dX9_comesOn_3 : decode cX9_comesOn 3 = .ok (.invokevirtual 44, 3) := by decide +kernel
theorem dX9_comesOn_6 : decode cX9_comesOn 6 = .ok (.istore_n 2, 1) := by decide +kernel
theorem dX9_comesOn_7 : decode cX9_comesOn 7 = .ok (.aload_n 0, 1) := by decide +kernel
theorem dX9_comesOn_8 : decode cX9_comesOn 8 = .ok (.iload_n 1, 1) := by decide +kernel
theorem dX9_comesOn_9 : decode cX9_comesOn 9 = .ok (.iconst 3, 1) := by decide +kernel
theorem dX9_comesOn_10 : decode cX9_comesOn 10 = .ok (.aload_n 0, 1) := by decide +kernel
theorem dX9_comesOn_11 : decode cX9_comesOn 11 = .ok (.iload_n 1, 1) := by decide +kernel
theorem dX9_comesOn_12 : decode cX9_comesOn 12 = .ok (.iconst 3, 1) := by decide +kernel
theorem dX9_comesOn_13 : decode cX9_comesOn 13 = .ok (.invokevirtual 44, 3) := by decide +kernel
theorem dX9_comesOn_16 : decode cX9_comesOn 16 = .ok (.iconst 1, 1) := by decide +kernel
theorem dX9_comesOn_17 : decode cX9_comesOn 17 = .ok (.isub, 1) := by decide +kernel
theorem dX9_comesOn_18 : decode cX9_comesOn 18 = .ok (.invokevirtual 47, 3) := by decide +kernel
theorem dX9_comesOn_21 : decode cX9_comesOn 21 = .ok (.aload_n 0, 1) := by decide +kernel
theorem dX9_comesOn_22 : decode cX9_comesOn 22 = .ok (.iload_n 1, 1) := by decide +kernel
theorem dX9_comesOn_23 : decode cX9_comesOn 23 = .ok (.iconst 3, 1) := by decide +kernel
theorem dX9_comesOn_24 : decode cX9_comesOn 24 = .ok (.invokevirtual 44, 3) := by decide +kernel
theorem dX9_comesOn_27 : decode cX9_comesOn 27 = .ok (.ifCond .le 4, 3) := by decide +kernel
theorem dX9_comesOn_30 : decode cX9_comesOn 30 = .ok (.return_, 1) := by decide +kernel
theorem dX9_comesOn_31 : decode cX9_comesOn 31 = .ok (.iload_n 2, 1) := by decide +kernel
theorem dX9_comesOn_32 : decode cX9_comesOn 32 = .ok (.iconst 1, 1) := by decide +kernel
theorem dX9_comesOn_33 : decode cX9_comesOn 33 = .ok (.if_icmp .ne 25, 3) := by decide +kernel
theorem dX9_comesOn_36 : decode cX9_comesOn 36 = .ok (.aload_n 0, 1) := by decide +kernel
theorem dX9_comesOn_37 : decode cX9_comesOn 37 = .ok (.iload_n 1, 1) := by decide +kernel
theorem dX9_comesOn_38 : decode cX9_comesOn 38 = .ok (.invokevirtual 58, 3) := by decide +kernel
theorem dX9_comesOn_41 : decode cX9_comesOn 41 = .ok (.aload_n 0, 1) := by decide +kernel
theorem dX9_comesOn_42 : decode cX9_comesOn 42 = .ok (.iload_n 1, 1) := by decide +kernel
theorem dX9_comesOn_43 : decode cX9_comesOn 43 = .ok (.iconst 2, 1) := by decide +kernel
theorem dX9_comesOn_44 : decode cX9_comesOn 44 = .ok (.iconst 2, 1) := by decide +kernel
theorem dX9_comesOn_45 : decode cX9_comesOn 45 = .ok (.invokevirtual 47, 3) := by decide +kernel
theorem dX9_comesOn_48 : decode cX9_comesOn 48 = .ok (.aload_n 0, 1) := by decide +kernel
theorem dX9_comesOn_49 : decode cX9_comesOn 49 = .ok (.iload_n 1, 1) := by decide +kernel
theorem dX9_comesOn_50 : decode cX9_comesOn 50 = .ok (.iconst 3, 1) := by decide +kernel
theorem dX9_comesOn_51 : decode cX9_comesOn 51 = .ok (.iconst 2, 1) := by decide +kernel
theorem dX9_comesOn_52 : decode cX9_comesOn 52 = .ok (.invokevirtual 47, 3) := by decide +kernel
theorem dX9_comesOn_55 : decode cX9_comesOn 55 = .ok (.goto 31, 3) := by decide +kernel
theorem dX9_comesOn_58 : decode cX9_comesOn 58 = .ok (.iload_n 2, 1) := by decide +kernel
theorem dX9_comesOn_59 : decode cX9_comesOn 59 = .ok (.iconst 2, 1) := by decide +kernel
theorem dX9_comesOn_60 : decode cX9_comesOn 60 = .ok (.if_icmp .ne 11, 3) := by decide +kernel
theorem dX9_comesOn_63 : decode cX9_comesOn 63 = .ok (.aload_n 0, 1) := by decide +kernel
theorem dX9_comesOn_64 : decode cX9_comesOn 64 = .ok (.iload_n 1, 1) := by decide +kernel
theorem dX9_comesOn_65 : decode cX9_comesOn 65 = .ok (.invokevirtual 62, 3) := by decide +kernel
theorem dX9_comesOn_68 : decode cX9_comesOn 68 = .ok (.goto 18, 3) := by decide +kernel
theorem dX9_comesOn_71 : decode cX9_comesOn 71 = .ok (.aload_n 0, 1) := by decide +kernel
theorem dX9_comesOn_72 : decode cX9_comesOn 72 = .ok (.iload_n 1, 1) := by decide +kernel
theorem dX9_comesOn_73 : decode cX9_comesOn 73 = .ok (.iconst 2, 1) := by decide +kernel
theorem dX9_comesOn_74 : decode cX9_comesOn 74 = .ok (.iconst 0, 1) := by decide +kernel
theorem dX9_comesOn_75 : decode cX9_comesOn 75 = .ok (.invokevirtual 47, 3) := by decide +kernel
theorem dX9_comesOn_78 : decode cX9_comesOn 78 = .ok (.aload_n 0, 1) := by decide +kernel
theorem dX9_comesOn_79 : decode cX9_comesOn 79 = .ok (.iload_n 1, 1) := by decide +kernel
theorem dX9_comesOn_80 : decode cX9_comesOn 80 = .ok (.bipush 6, 2) := by decide +kernel
theorem dX9_comesOn_82 : decode cX9_comesOn 82 = .ok (.iconst 0, 1) := by decide +kernel
theorem dX9_comesOn_83 : decode cX9_comesOn 83 = .ok (.invokevirtual 47, 3) := by decide +kernel
theorem dX9_comesOn_86 : decode cX9_comesOn 86 = .ok (.return_, 1) := by decide +kernel
theorem dX9_takes_0 : decode cX9_takes 0 = .ok (.iload_n 1, 1) := by decide +kernel
theorem dX9_takes_1 : decode cX9_takes 1 = .ok (.istore 4, 2) := by decide +kernel
theorem dX9_takes_3 : decode cX9_takes 3 = .ok (.iload_n 2, 1) := by decide +kernel
theorem dX9_takes_4 : decode cX9_takes 4 = .ok (.istore 5, 2) := by decide +kernel
theorem dX9_takes_6 : decode cX9_takes 6 = .ok (.iload 5, 2) := by decide +kernel
theorem dX9_takes_8 : decode cX9_takes 8 = .ok (.iload_n 3, 1) := by decide +kernel
theorem dX9_takes_9 : decode cX9_takes 9 = .ok (.if_icmp .lt 48, 3) := by decide +kernel
theorem dX9_takes_12 : decode cX9_takes 12 = .ok (.iload 4, 2) := by decide +kernel
theorem dX9_takes_14 : decode cX9_takes 14 = .ok (.aload_n 0, 1) := by decide +kernel
theorem dX9_takes_15 : decode cX9_takes 15 = .ok (.getfield 7, 3) := by decide +kernel
theorem dX9_takes_18 : decode cX9_takes 18 = .ok (.bipush 115, 2) := by decide +kernel
theorem dX9_takes_20 : decode cX9_takes 20 = .ok (.iload 5, 2) := by decide +kernel
theorem dX9_takes_22 : decode cX9_takes 22 = .ok (.iadd, 1) := by decide +kernel
theorem dX9_takes_23 : decode cX9_takes 23 = .ok (.iaload, 1) := by decide +kernel
theorem dX9_takes_24 : decode cX9_takes 24 = .ok (.invokestatic 55, 3) := by decide +kernel
theorem dX9_takes_27 : decode cX9_takes 27 = .ok (.istore 6, 2) := by decide +kernel
theorem dX9_takes_29 : decode cX9_takes 29 = .ok (.aload_n 0, 1) := by decide +kernel
theorem dX9_takes_30 : decode cX9_takes 30 = .ok (.getfield 7, 3) := by decide +kernel
theorem dX9_takes_33 : decode cX9_takes 33 = .ok (.bipush 115, 2) := by decide +kernel
theorem dX9_takes_35 : decode cX9_takes 35 = .ok (.iload 5, 2) := by decide +kernel
theorem dX9_takes_37 : decode cX9_takes 37 = .ok (.iadd, 1) := by decide +kernel
theorem dX9_takes_38 : decode cX9_takes 38 = .ok (.dup2, 1) := by decide +kernel
theorem dX9_takes_39 : decode cX9_takes 39 = .ok (.iaload, 1) := by decide +kernel
theorem dX9_takes_40 : decode cX9_takes 40 = .ok (.iload 6, 2) := by decide +kernel
theorem dX9_takes_42 : decode cX9_takes 42 = .ok (.isub, 1) := by decide +kernel
theorem dX9_takes_43 : decode cX9_takes 43 = .ok (.iastore, 1) := by decide +kernel
theorem dX9_takes_44 : decode cX9_takes 44 = .ok (.iload 4, 2) := by decide +kernel
theorem dX9_takes_46 : decode cX9_takes 46 = .ok (.iload 6, 2) := by decide +kernel
theorem dX9_takes_48 : decode cX9_takes 48 = .ok (.isub, 1) := by decide +kernel
theorem dX9_takes_49 : decode cX9_takes 49 = .ok (.istore 4, 2) := by decide +kernel
theorem dX9_takes_51 : decode cX9_takes 51 = .ok (.iinc 5 (-1), 3) := by decide +kernel
theorem dX9_takes_54 : decode cX9_takes 54 = .ok (.goto (-48), 3) := by decide +kernel
theorem dX9_takes_57 : decode cX9_takes 57 = .ok (.aload_n 0, 1) := by decide +kernel
theorem dX9_takes_58 : decode cX9_takes 58 = .ok (.getfield 7, 3) := by decide +kernel
theorem dX9_takes_61 : decode cX9_takes 61 = .ok (.bipush 8, 2) := by decide +kernel
theorem dX9_takes_63 : decode cX9_takes 63 = .ok (.dup2, 1) := by decide +kernel
theorem dX9_takes_64 : decode cX9_takes 64 = .ok (.iaload, 1) := by decide +kernel
theorem dX9_takes_65 : decode cX9_takes 65 = .ok (.iload_n 1, 1) := by decide +kernel
theorem dX9_takes_66 : decode cX9_takes 66 = .ok (.iadd, 1) := by decide +kernel
theorem dX9_takes_67 : decode cX9_takes 67 = .ok (.iastore, 1) := by decide +kernel
theorem dX9_takes_68 : decode cX9_takes 68 = .ok (.return_, 1) := by decide +kernel
theorem dX9_isThere_0 : decode cX9_isThere 0 = .ok (.iload_n 2, 1) := by decide +kernel
theorem dX9_isThere_1 : decode cX9_isThere 1 = .ok (.aload_n 0, 1) := by decide +kernel
theorem dX9_isThere_2 : decode cX9_isThere 2 = .ok (.iload_n 1, 1) := by decide +kernel
theorem dX9_isThere_3 : decode cX9_isThere 3 = .ok (.iconst 2, 1) := by decide +kernel
theorem dX9_isThere_4 : decode cX9_isThere 4 = .ok (.invokevirtual 36, 3) := by decide +kernel
theorem dX9_isThere_7 : decode cX9_isThere 7 = .ok (.isub, 1) := by decide +kernel
theorem dX9_isThere_8 : decode cX9_isThere 8 = .ok (.iconst 0, 1) := by decide +kernel
theorem dX9_isThere_9 : decode cX9_isThere 9 = .ok (.aload_n 0, 1) := by decide +kernel
theorem dX9_isThere_10 : decode cX9_isThere 10 = .ok (.iload_n 1, 1) := by decide +kernel
theorem dX9_isThere_11 : decode cX9_isThere 11 = .ok (.iconst 3, 1) := by decide +kernel
theorem dX9_isThere_12 : decode cX9_isThere 12 = .ok (.invokevirtual 36, 3) := by decide +kernel
theorem dX9_isThere_15 : decode cX9_isThere 15 = .ok (.iconst 1, 1) := by decide +kernel
theorem dX9_isThere_16 : decode cX9_isThere 16 = .ok (.isub, 1) := by decide +kernel
theorem dX9_isThere_17 : decode cX9_isThere 17 = .ok (.invokestatic 65, 3) := by decide +kernel
theorem dX9_isThere_20 : decode cX9_isThere 20 = .ok (.ireturn, 1) := by decide +kernel
theorem dX9_wants_0 : decode cX9_wants 0 = .ok (.iload_n 0, 1) := by decide +kernel
theorem dX9_wants_1 : decode cX9_wants 1 = .ok (.iconst 1, 1) := by decide +kernel
theorem dX9_wants_2 : decode cX9_wants 2 = .ok (.iadd, 1) := by decide +kernel
theorem dX9_wants_3 : decode cX9_wants 3 = .ok (.iconst 2, 1) := by decide +kernel
theorem dX9_wants_4 : decode cX9_wants 4 = .ok (.idiv, 1) := by decide +kernel
theorem dX9_wants_5 : decode cX9_wants 5 = .ok (.ireturn, 1) := by decide +kernel
theorem dX9_eats_0 : decode cX9_eats 0 = .ok (.aload_n 0, 1) := by decide +kernel
theorem dX9_eats_1 : decode cX9_eats 1 = .ok (.iload_n 1, 1) := by decide +kernel
theorem dX9_eats_2 : decode cX9_eats 2 = .ok (.iconst 1, 1) := by decide +kernel
theorem dX9_eats_3 : decode cX9_eats 3 = .ok (.invokevirtual 36, 3) := by decide +kernel
theorem dX9_eats_6 : decode cX9_eats 6 = .ok (.istore_n 2, 1) := by decide +kernel
theorem dX9_eats_7 : decode cX9_eats 7 = .ok (.iload_n 2, 1) := by decide +kernel
theorem dX9_eats_8 : decode cX9_eats 8 = .ok (.invokestatic 69, 3) := by decide +kernel
theorem dX9_eats_11 : decode cX9_eats 11 = .ok (.istore_n 3, 1) := by decide +kernel
theorem dX9_eats_12 : decode cX9_eats 12 = .ok (.iload_n 3, 1) := by decide +kernel
theorem dX9_eats_13 : decode cX9_eats 13 = .ok (.aload_n 0, 1) := by decide +kernel
theorem dX9_eats_14 : decode cX9_eats 14 = .ok (.iconst 0, 1) := by decide +kernel
theorem dX9_eats_15 : decode cX9_eats 15 = .ok (.aload_n 0, 1) := by decide +kernel
theorem dX9_eats_16 : decode cX9_eats 16 = .ok (.getfield 7, 3) := by decide +kernel
theorem dX9_eats_19 : decode cX9_eats 19 = .ok (.bipush 17, 2) := by decide +kernel
theorem dX9_eats_21 : decode cX9_eats 21 = .ok (.iaload, 1) := by decide +kernel
theorem dX9_eats_22 : decode cX9_eats 22 = .ok (.invokevirtual 41, 3) := by decide +kernel
theorem dX9_eats_25 : decode cX9_eats 25 = .ok (.invokestatic 55, 3) := by decide +kernel
theorem dX9_eats_28 : decode cX9_eats 28 = .ok (.istore 4, 2) := by decide +kernel
theorem dX9_eats_30 : decode cX9_eats 30 = .ok (.aload_n 0, 1) := by decide +kernel
theorem dX9_eats_31 : decode cX9_eats 31 = .ok (.iload 4, 2) := by decide +kernel
theorem dX9_eats_33 : decode cX9_eats 33 = .ok (.aload_n 0, 1) := by decide +kernel
theorem dX9_eats_34 : decode cX9_eats 34 = .ok (.getfield 7, 3) := by decide +kernel
theorem dX9_eats_37 : decode cX9_eats 37 = .ok (.bipush 17, 2) := by decide +kernel
theorem dX9_eats_39 : decode cX9_eats 39 = .ok (.iaload, 1) := by decide +kernel
theorem dX9_eats_40 : decode cX9_eats 40 = .ok (.iconst 0, 1) := by decide +kernel
theorem dX9_eats_41 : decode cX9_eats 41 = .ok (.invokevirtual 73, 3) := by decide +kernel
theorem dX9_eats_44 : decode cX9_eats 44 = .ok (.iload_n 3, 1) := by decide +kernel
theorem dX9_eats_45 : decode cX9_eats 45 = .ok (.iload 4, 2) := by decide +kernel
theorem dX9_eats_47 : decode cX9_eats 47 = .ok (.isub, 1) := by decide +kernel
theorem dX9_eats_48 : decode cX9_eats 48 = .ok (.aload_n 0, 1) := by decide +kernel
theorem dX9_eats_49 : decode cX9_eats 49 = .ok (.invokevirtual 76, 3) := by decide +kernel
theorem dX9_eats_52 : decode cX9_eats 52 = .ok (.iconst 2, 1) := by decide +kernel
theorem dX9_eats_53 : decode cX9_eats 53 = .ok (.idiv, 1) := by decide +kernel
theorem dX9_eats_54 : decode cX9_eats 54 = .ok (.invokestatic 55, 3) := by decide +kernel
theorem dX9_eats_57 : decode cX9_eats 57 = .ok (.istore 5, 2) := by decide +kernel
theorem dX9_eats_59 : decode cX9_eats 59 = .ok (.aload_n 0, 1) := by decide +kernel
theorem dX9_eats_60 : decode cX9_eats 60 = .ok (.iconst 2, 1) := by decide +kernel
theorem dX9_eats_61 : decode cX9_eats 61 = .ok (.iload 5, 2) := by decide +kernel
theorem dX9_eats_63 : decode cX9_eats 63 = .ok (.imul, 1) := by decide +kernel
theorem dX9_eats_64 : decode cX9_eats 64 = .ok (.bipush 20, 2) := by decide +kernel
theorem dX9_eats_66 : decode cX9_eats 66 = .ok (.aload_n 0, 1) := by decide +kernel
theorem dX9_eats_67 : decode cX9_eats 67 = .ok (.getfield 7, 3) := by decide +kernel
theorem dX9_eats_70 : decode cX9_eats 70 = .ok (.bipush 17, 2) := by decide +kernel
theorem dX9_eats_72 : decode cX9_eats 72 = .ok (.iaload, 1) := by decide +kernel
theorem dX9_eats_73 : decode cX9_eats 73 = .ok (.iconst 1, 1) := by decide +kernel
theorem dX9_eats_74 : decode cX9_eats 74 = .ok (.iadd, 1) := by decide +kernel
theorem dX9_eats_75 : decode cX9_eats 75 = .ok (.invokevirtual 73, 3) := by decide +kernel
theorem dX9_eats_78 : decode cX9_eats 78 = .ok (.iload 4, 2) := by decide +kernel
theorem dX9_eats_80 : decode cX9_eats 80 = .ok (.iload 5, 2) := by decide +kernel
theorem dX9_eats_82 : decode cX9_eats 82 = .ok (.iadd, 1) := by decide +kernel
theorem dX9_eats_83 : decode cX9_eats 83 = .ok (.iload_n 3, 1) := by decide +kernel
theorem dX9_eats_84 : decode cX9_eats 84 = .ok (.if_icmp .ge 7, 3) := by decide +kernel
theorem dX9_eats_87 : decode cX9_eats 87 = .ok (.iconst 1, 1) := by decide +kernel
theorem dX9_eats_88 : decode cX9_eats 88 = .ok (.goto 4, 3) := by decide +kernel
theorem dX9_eats_91 : decode cX9_eats 91 = .ok (.iconst 0, 1) := by decide +kernel
theorem dX9_eats_92 : decode cX9_eats 92 = .ok (.istore 6, 2) := by decide +kernel
theorem dX9_eats_94 : decode cX9_eats 94 = .ok (.iload_n 2, 1) := by decide +kernel
theorem dX9_eats_95 : decode cX9_eats 95 = .ok (.iload 6, 2) := by decide +kernel
theorem dX9_eats_97 : decode cX9_eats 97 = .ok (.ifCond .eq 7, 3) := by decide +kernel
theorem dX9_eats_100 : decode cX9_eats 100 = .ok (.iconst 1, 1) := by decide +kernel
theorem dX9_eats_101 : decode cX9_eats 101 = .ok (.goto 13, 3) := by decide +kernel
theorem dX9_eats_104 : decode cX9_eats 104 = .ok (.iload 5, 2) := by decide +kernel
theorem dX9_eats_106 : decode cX9_eats 106 = .ok (.ifCond .le 7, 3) := by decide +kernel
theorem dX9_eats_109 : decode cX9_eats 109 = .ok (.iconst 2, 1) := by decide +kernel
theorem dX9_eats_110 : decode cX9_eats 110 = .ok (.goto 4, 3) := by decide +kernel
theorem dX9_eats_113 : decode cX9_eats 113 = .ok (.iconst 3, 1) := by decide +kernel
theorem dX9_eats_114 : decode cX9_eats 114 = .ok (.imul, 1) := by decide +kernel
theorem dX9_eats_115 : decode cX9_eats 115 = .ok (.istore 7, 2) := by decide +kernel
theorem dX9_eats_117 : decode cX9_eats 117 = .ok (.aload_n 0, 1) := by decide +kernel
theorem dX9_eats_118 : decode cX9_eats 118 = .ok (.getfield 7, 3) := by decide +kernel
theorem dX9_eats_121 : decode cX9_eats 121 = .ok (.bipush 55, 2) := by decide +kernel
theorem dX9_eats_123 : decode cX9_eats 123 = .ok (.bipush 6, 2) := by decide +kernel
theorem dX9_eats_125 : decode cX9_eats 125 = .ok (.iload_n 1, 1) := by decide +kernel
theorem dX9_eats_126 : decode cX9_eats 126 = .ok (.imul, 1) := by decide +kernel
theorem dX9_eats_127 : decode cX9_eats 127 = .ok (.iadd, 1) := by decide +kernel
theorem dX9_eats_128 : decode cX9_eats 128 = .ok (.iconst 4, 1) := by decide +kernel
theorem dX9_eats_129 : decode cX9_eats 129 = .ok (.iadd, 1) := by decide +kernel
theorem dX9_eats_130 : decode cX9_eats 130 = .ok (.dup2, 1) := by decide +kernel
theorem dX9_eats_131 : decode cX9_eats 131 = .ok (.iaload, 1) := by decide +kernel
theorem dX9_eats_132 : decode cX9_eats 132 = .ok (.iload 7, 2) := by decide +kernel
theorem dX9_eats_134 : decode cX9_eats 134 = .ok (.iadd, 1) := by decide +kernel
theorem dX9_eats_135 : decode cX9_eats 135 = .ok (.iastore, 1) := by decide +kernel
theorem dX9_eats_136 : decode cX9_eats 136 = .ok (.aload_n 0, 1) := by decide +kernel
theorem dX9_eats_137 : decode cX9_eats 137 = .ok (.getfield 7, 3) := by decide +kernel
theorem dX9_eats_140 : decode cX9_eats 140 = .ok (.bipush 55, 2) := by decide +kernel
theorem dX9_eats_142 : decode cX9_eats 142 = .ok (.bipush 6, 2) := by decide +kernel
theorem dX9_eats_144 : decode cX9_eats 144 = .ok (.iload_n 1, 1) := by decide +kernel
theorem dX9_eats_145 : decode cX9_eats 145 = .ok (.imul, 1) := by decide +kernel
theorem dX9_eats_146 : decode cX9_eats 146 = .ok (.iadd, 1) := by decide +kernel
theorem dX9_eats_147 : decode cX9_eats 147 = .ok (.iconst 5, 1) := by decide +kernel
theorem dX9_eats_148 : decode cX9_eats 148 = .ok (.iadd, 1) := by decide +kernel
theorem dX9_eats_149 : decode cX9_eats 149 = .ok (.dup2, 1) := by decide +kernel
theorem dX9_eats_150 : decode cX9_eats 150 = .ok (.iaload, 1) := by decide +kernel
theorem dX9_eats_151 : decode cX9_eats 151 = .ok (.iload 6, 2) := by decide +kernel
theorem dX9_eats_153 : decode cX9_eats 153 = .ok (.ifCond .eq 7, 3) := by decide +kernel
theorem dX9_eats_156 : decode cX9_eats 156 = .ok (.iconst 1, 1) := by decide +kernel
theorem dX9_eats_157 : decode cX9_eats 157 = .ok (.goto 4, 3) := by decide +kernel
theorem dX9_eats_160 : decode cX9_eats 160 = .ok (.iconst 0, 1) := by decide +kernel
theorem dX9_eats_161 : decode cX9_eats 161 = .ok (.iadd, 1) := by decide +kernel
theorem dX9_eats_162 : decode cX9_eats 162 = .ok (.iastore, 1) := by decide +kernel
theorem dX9_eats_163 : decode cX9_eats 163 = .ok (.aload_n 0, 1) := by decide +kernel
theorem dX9_eats_164 : decode cX9_eats 164 = .ok (.getfield 7, 3) := by decide +kernel
theorem dX9_eats_167 : decode cX9_eats 167 = .ok (.bipush 12, 2) := by decide +kernel
theorem dX9_eats_169 : decode cX9_eats 169 = .ok (.dup2, 1) := by decide +kernel
theorem dX9_eats_170 : decode cX9_eats 170 = .ok (.iaload, 1) := by decide +kernel
theorem dX9_eats_171 : decode cX9_eats 171 = .ok (.iload 6, 2) := by decide +kernel
theorem dX9_eats_173 : decode cX9_eats 173 = .ok (.ifCond .eq 7, 3) := by decide +kernel
theorem dX9_eats_176 : decode cX9_eats 176 = .ok (.iconst 1, 1) := by decide +kernel
theorem dX9_eats_177 : decode cX9_eats 177 = .ok (.goto 4, 3) := by decide +kernel
theorem dX9_eats_180 : decode cX9_eats 180 = .ok (.iconst 0, 1) := by decide +kernel
theorem dX9_eats_181 : decode cX9_eats 181 = .ok (.iadd, 1) := by decide +kernel
theorem dX9_eats_182 : decode cX9_eats 182 = .ok (.iastore, 1) := by decide +kernel
theorem dX9_eats_183 : decode cX9_eats 183 = .ok (.aload_n 0, 1) := by decide +kernel
theorem dX9_eats_184 : decode cX9_eats 184 = .ok (.getfield 7, 3) := by decide +kernel
theorem dX9_eats_187 : decode cX9_eats 187 = .ok (.iconst 5, 1) := by decide +kernel
theorem dX9_eats_188 : decode cX9_eats 188 = .ok (.dup2, 1) := by decide +kernel
theorem dX9_eats_189 : decode cX9_eats 189 = .ok (.iaload, 1) := by decide +kernel
theorem dX9_eats_190 : decode cX9_eats 190 = .ok (.iload 7, 2) := by decide +kernel
theorem dX9_eats_192 : decode cX9_eats 192 = .ok (.iadd, 1) := by decide +kernel
theorem dX9_eats_193 : decode cX9_eats 193 = .ok (.iastore, 1) := by decide +kernel
theorem dX9_eats_194 : decode cX9_eats 194 = .ok (.aload_n 0, 1) := by decide +kernel
theorem dX9_eats_195 : decode cX9_eats 195 = .ok (.getfield 7, 3) := by decide +kernel
theorem dX9_eats_198 : decode cX9_eats 198 = .ok (.bipush 13, 2) := by decide +kernel
theorem dX9_eats_200 : decode cX9_eats 200 = .ok (.dup2, 1) := by decide +kernel
theorem dX9_eats_201 : decode cX9_eats 201 = .ok (.iaload, 1) := by decide +kernel
theorem dX9_eats_202 : decode cX9_eats 202 = .ok (.iload 7, 2) := by decide +kernel
theorem dX9_eats_204 : decode cX9_eats 204 = .ok (.iadd, 1) := by decide +kernel
theorem dX9_eats_205 : decode cX9_eats 205 = .ok (.iastore, 1) := by decide +kernel
theorem dX9_eats_206 : decode cX9_eats 206 = .ok (.return_, 1) := by decide +kernel
theorem dX9_goes_0 : decode cX9_goes 0 = .ok (.aload_n 0, 1) := by decide +kernel
theorem dX9_goes_1 : decode cX9_goes 1 = .ok (.getfield 7, 3) := by decide +kernel
theorem dX9_goes_4 : decode cX9_goes 4 = .ok (.iconst 1, 1) := by decide +kernel
theorem dX9_goes_5 : decode cX9_goes 5 = .ok (.dup2, 1) := by decide +kernel
theorem dX9_goes_6 : decode cX9_goes 6 = .ok (.iaload, 1) := by decide +kernel
theorem dX9_goes_7 : decode cX9_goes 7 = .ok (.iconst 1, 1) := by decide +kernel
theorem dX9_goes_8 : decode cX9_goes 8 = .ok (.isub, 1) := by decide +kernel
theorem dX9_goes_9 : decode cX9_goes 9 = .ok (.iastore, 1) := by decide +kernel
theorem dX9_goes_10 : decode cX9_goes 10 = .ok (.bipush 55, 2) := by decide +kernel
theorem dX9_goes_12 : decode cX9_goes 12 = .ok (.bipush 6, 2) := by decide +kernel
theorem dX9_goes_14 : decode cX9_goes 14 = .ok (.iload_n 1, 1) := by decide +kernel
theorem dX9_goes_15 : decode cX9_goes 15 = .ok (.imul, 1) := by decide +kernel
theorem dX9_goes_16 : decode cX9_goes 16 = .ok (.iadd, 1) := by decide +kernel
theorem dX9_goes_17 : decode cX9_goes 17 = .ok (.istore_n 2, 1) := by decide +kernel
theorem dX9_goes_18 : decode cX9_goes 18 = .ok (.iload_n 2, 1) := by decide +kernel
theorem dX9_goes_19 : decode cX9_goes 19 = .ok (.bipush 55, 2) := by decide +kernel
theorem dX9_goes_21 : decode cX9_goes 21 = .ok (.bipush 6, 2) := by decide +kernel
theorem dX9_goes_23 : decode cX9_goes 23 = .ok (.aload_n 0, 1) := by decide +kernel
theorem dX9_goes_24 : decode cX9_goes 24 = .ok (.getfield 7, 3) := by decide +kernel
theorem dX9_goes_27 : decode cX9_goes 27 = .ok (.iconst 1, 1) := by decide +kernel
theorem dX9_goes_28 : decode cX9_goes 28 = .ok (.iaload, 1) := by decide +kernel
theorem dX9_goes_29 : decode cX9_goes 29 = .ok (.imul, 1) := by decide +kernel
theorem dX9_goes_30 : decode cX9_goes 30 = .ok (.iadd, 1) := by decide +kernel
theorem dX9_goes_31 : decode cX9_goes 31 = .ok (.if_icmp .ge 24, 3) := by decide +kernel
theorem dX9_goes_34 : decode cX9_goes 34 = .ok (.aload_n 0, 1) := by decide +kernel
theorem dX9_goes_35 : decode cX9_goes 35 = .ok (.getfield 7, 3) := by decide +kernel
theorem dX9_goes_38 : decode cX9_goes 38 = .ok (.iload_n 2, 1) := by decide +kernel
theorem dX9_goes_39 : decode cX9_goes 39 = .ok (.aload_n 0, 1) := by decide +kernel
theorem dX9_goes_40 : decode cX9_goes 40 = .ok (.getfield 7, 3) := by decide +kernel
theorem dX9_goes_43 : decode cX9_goes 43 = .ok (.iload_n 2, 1) := by decide +kernel
theorem dX9_goes_44 : decode cX9_goes 44 = .ok (.bipush 6, 2) := by decide +kernel
theorem dX9_goes_46 : decode cX9_goes 46 = .ok (.iadd, 1) := by decide +kernel
theorem dX9_goes_47 : decode cX9_goes 47 = .ok (.iaload, 1) := by decide +kernel
theorem dX9_goes_48 : decode cX9_goes 48 = .ok (.iastore, 1) := by decide +kernel
theorem dX9_goes_49 : decode cX9_goes 49 = .ok (.iinc 2 1, 3) := by decide +kernel
theorem dX9_goes_52 : decode cX9_goes 52 = .ok (.goto (-34), 3) := by decide +kernel
theorem dX9_goes_55 : decode cX9_goes 55 = .ok (.return_, 1) := by decide +kernel
theorem dX9_ends_0 : decode cX9_ends 0 = .ok (.aload_n 0, 1) := by decide +kernel
theorem dX9_ends_1 : decode cX9_ends 1 = .ok (.getfield 7, 3) := by decide +kernel
theorem dX9_ends_4 : decode cX9_ends 4 = .ok (.iconst 4, 1) := by decide +kernel
theorem dX9_ends_5 : decode cX9_ends 5 = .ok (.aload_n 0, 1) := by decide +kernel
theorem dX9_ends_6 : decode cX9_ends 6 = .ok (.getfield 7, 3) := by decide +kernel
theorem dX9_ends_9 : decode cX9_ends 9 = .ok (.iconst 4, 1) := by decide +kernel
theorem dX9_ends_10 : decode cX9_ends 10 = .ok (.iaload, 1) := by decide +kernel
theorem dX9_ends_11 : decode cX9_ends 11 = .ok (.sipush 421, 3) := by decide +kernel
theorem dX9_ends_14 : decode cX9_ends 14 = .ok (.imul, 1) := by decide +kernel
theorem dX9_ends_15 : decode cX9_ends 15 = .ok (.sipush 1663, 3) := by decide +kernel
theorem dX9_ends_18 : decode cX9_ends 18 = .ok (.iadd, 1) := by decide +kernel
theorem dX9_ends_19 : decode cX9_ends 19 = .ok (.sipush 10000, 3) := by decide +kernel
theorem dX9_ends_22 : decode cX9_ends 22 = .ok (.irem, 1) := by decide +kernel
theorem dX9_ends_23 : decode cX9_ends 23 = .ok (.iastore, 1) := by decide +kernel
theorem dX9_ends_24 : decode cX9_ends 24 = .ok (.aload_n 0, 1) := by decide +kernel
theorem dX9_ends_25 : decode cX9_ends 25 = .ok (.getfield 7, 3) := by decide +kernel
theorem dX9_ends_28 : decode cX9_ends 28 = .ok (.iconst 4, 1) := by decide +kernel
theorem dX9_ends_29 : decode cX9_ends 29 = .ok (.iaload, 1) := by decide +kernel
theorem dX9_ends_30 : decode cX9_ends 30 = .ok (.bipush 100, 2) := by decide +kernel
theorem dX9_ends_32 : decode cX9_ends 32 = .ok (.irem, 1) := by decide +kernel
theorem dX9_ends_33 : decode cX9_ends 33 = .ok (.aload_n 0, 1) := by decide +kernel
theorem dX9_ends_34 : decode cX9_ends 34 = .ok (.getfield 7, 3) := by decide +kernel
theorem dX9_ends_37 : decode cX9_ends 37 = .ok (.bipush 18, 2) := by decide +kernel
theorem dX9_ends_39 : decode cX9_ends 39 = .ok (.iaload, 1) := by decide +kernel
theorem dX9_ends_40 : decode cX9_ends 40 = .ok (.if_icmp .ge 7, 3) := by decide +kernel
theorem dX9_ends_43 : decode cX9_ends 43 = .ok (.iconst 1, 1) := by decide +kernel
theorem dX9_ends_44 : decode cX9_ends 44 = .ok (.goto 4, 3) := by decide +kernel
theorem dX9_ends_47 : decode cX9_ends 47 = .ok (.iconst 0, 1) := by decide +kernel
theorem dX9_ends_48 : decode cX9_ends 48 = .ok (.istore_n 1, 1) := by decide +kernel
theorem dX9_ends_49 : decode cX9_ends 49 = .ok (.aload_n 0, 1) := by decide +kernel
theorem dX9_ends_50 : decode cX9_ends 50 = .ok (.getfield 7, 3) := by decide +kernel
theorem dX9_ends_53 : decode cX9_ends 53 = .ok (.bipush 11, 2) := by decide +kernel
theorem dX9_ends_55 : decode cX9_ends 55 = .ok (.dup2, 1) := by decide +kernel
theorem dX9_ends_56 : decode cX9_ends 56 = .ok (.iaload, 1) := by decide +kernel
theorem dX9_ends_57 : decode cX9_ends 57 = .ok (.iload_n 1, 1) := by decide +kernel
theorem dX9_ends_58 : decode cX9_ends 58 = .ok (.ifCond .eq 7, 3) := by decide +kernel
theorem dX9_ends_61 : decode cX9_ends 61 = .ok (.iconst 1, 1) := by decide +kernel
theorem dX9_ends_62 : decode cX9_ends 62 = .ok (.goto 4, 3) := by decide +kernel
theorem dX9_ends_65 : decode cX9_ends 65 = .ok (.iconst 0, 1) := by decide +kernel
theorem dX9_ends_66 : decode cX9_ends 66 = .ok (.iadd, 1) := by decide +kernel
theorem dX9_ends_67 : decode cX9_ends 67 = .ok (.iastore, 1) := by decide +kernel
theorem dX9_ends_68 : decode cX9_ends 68 = .ok (.iconst 0, 1) := by decide +kernel
theorem dX9_ends_69 : decode cX9_ends 69 = .ok (.istore_n 2, 1) := by decide +kernel
theorem dX9_ends_70 : decode cX9_ends 70 = .ok (.iload_n 2, 1) := by decide +kernel
theorem dX9_ends_71 : decode cX9_ends 71 = .ok (.aload_n 0, 1) := by decide +kernel
theorem dX9_ends_72 : decode cX9_ends 72 = .ok (.getfield 7, 3) := by decide +kernel
theorem dX9_ends_75 : decode cX9_ends 75 = .ok (.iconst 0, 1) := by decide +kernel
theorem dX9_ends_76 : decode cX9_ends 76 = .ok (.iaload, 1) := by decide +kernel
theorem dX9_ends_77 : decode cX9_ends 77 = .ok (.if_icmp .ge 34, 3) := by decide +kernel
theorem dX9_ends_80 : decode cX9_ends 80 = .ok (.aload_n 0, 1) := by decide +kernel
theorem dX9_ends_81 : decode cX9_ends 81 = .ok (.iload_n 2, 1) := by decide +kernel
theorem dX9_ends_82 : decode cX9_ends 82 = .ok (.iconst 2, 1) := by decide +kernel
theorem dX9_ends_83 : decode cX9_ends 83 = .ok (.invokevirtual 44, 3) := by decide +kernel
theorem dX9_ends_86 : decode cX9_ends 86 = .ok (.istore_n 3, 1) := by decide +kernel
theorem dX9_ends_87 : decode cX9_ends 87 = .ok (.iload_n 3, 1) := by decide +kernel
theorem dX9_ends_88 : decode cX9_ends 88 = .ok (.iconst 3, 1) := by decide +kernel
theorem dX9_ends_89 : decode cX9_ends 89 = .ok (.if_icmp .eq 11, 3) := by decide +kernel
theorem dX9_ends_92 : decode cX9_ends 92 = .ok (.iload_n 3, 1) := by decide +kernel
theorem dX9_ends_93 : decode cX9_ends 93 = .ok (.ifCond .eq 12, 3) := by decide +kernel
theorem dX9_ends_96 : decode cX9_ends 96 = .ok (.iload_n 1, 1) := by decide +kernel
theorem dX9_ends_97 : decode cX9_ends 97 = .ok (.ifCond .ne 8, 3) := by decide +kernel
theorem dX9_ends_100 : decode cX9_ends 100 = .ok (.aload_n 0, 1) := by decide +kernel
theorem dX9_ends_101 : decode cX9_ends 101 = .ok (.iload_n 2, 1) := by decide +kernel
theorem dX9_ends_102 : decode cX9_ends 102 = .ok (.invokevirtual 79, 3) := by decide +kernel
theorem dX9_ends_105 : decode cX9_ends 105 = .ok (.iinc 2 1, 3) := by decide +kernel
theorem dX9_ends_108 : decode cX9_ends 108 = .ok (.goto (-38), 3) := by decide +kernel
theorem dX9_ends_111 : decode cX9_ends 111 = .ok (.iconst 0, 1) := by decide +kernel
theorem dX9_ends_112 : decode cX9_ends 112 = .ok (.istore_n 2, 1) := by decide +kernel
theorem dX9_ends_113 : decode cX9_ends 113 = .ok (.iload_n 2, 1) := by decide +kernel
theorem dX9_ends_114 : decode cX9_ends 114 = .ok (.aload_n 0, 1) := by decide +kernel
theorem dX9_ends_115 : decode cX9_ends 115 = .ok (.getfield 7, 3) := by decide +kernel
theorem dX9_ends_118 : decode cX9_ends 118 = .ok (.iconst 1, 1) := by decide +kernel
theorem dX9_ends_119 : decode cX9_ends 119 = .ok (.iaload, 1) := by decide +kernel
theorem dX9_ends_120 : decode cX9_ends 120 = .ok (.if_icmp .ge 28, 3) := by decide +kernel
theorem dX9_ends_123 : decode cX9_ends 123 = .ok (.aload_n 0, 1) := by decide +kernel
theorem dX9_ends_124 : decode cX9_ends 124 = .ok (.iload_n 2, 1) := by decide +kernel
theorem dX9_ends_125 : decode cX9_ends 125 = .ok (.aload_n 0, 1) := by decide +kernel
theorem dX9_ends_126 : decode cX9_ends 126 = .ok (.getfield 7, 3) := by decide +kernel
theorem dX9_ends_129 : decode cX9_ends 129 = .ok (.iconst 3, 1) := by decide +kernel
theorem dX9_ends_130 : decode cX9_ends 130 = .ok (.iaload, 1) := by decide +kernel
theorem dX9_ends_131 : decode cX9_ends 131 = .ok (.invokevirtual 82, 3) := by decide +kernel
theorem dX9_ends_134 : decode cX9_ends 134 = .ok (.ifCond .eq 8, 3) := by decide +kernel
theorem dX9_ends_137 : decode cX9_ends 137 = .ok (.aload_n 0, 1) := by decide +kernel
theorem dX9_ends_138 : decode cX9_ends 138 = .ok (.iload_n 2, 1) := by decide +kernel
theorem dX9_ends_139 : decode cX9_ends 139 = .ok (.invokevirtual 86, 3) := by decide +kernel
theorem dX9_ends_142 : decode cX9_ends 142 = .ok (.iinc 2 1, 3) := by decide +kernel
theorem dX9_ends_145 : decode cX9_ends 145 = .ok (.goto (-32), 3) := by decide +kernel
theorem dX9_ends_148 : decode cX9_ends 148 = .ok (.aload_n 0, 1) := by decide +kernel
theorem dX9_ends_149 : decode cX9_ends 149 = .ok (.getfield 7, 3) := by decide +kernel
theorem dX9_ends_152 : decode cX9_ends 152 = .ok (.bipush 9, 2) := by decide +kernel
theorem dX9_ends_154 : decode cX9_ends 154 = .ok (.dup2, 1) := by decide +kernel
theorem dX9_ends_155 : decode cX9_ends 155 = .ok (.iaload, 1) := by decide +kernel
theorem dX9_ends_156 : decode cX9_ends 156 = .ok (.aload_n 0, 1) := by decide +kernel
theorem dX9_ends_157 : decode cX9_ends 157 = .ok (.getfield 7, 3) := by decide +kernel
theorem dX9_ends_160 : decode cX9_ends 160 = .ok (.sipush 135, 3) := by decide +kernel
theorem dX9_ends_163 : decode cX9_ends 163 = .ok (.iaload, 1) := by decide +kernel
theorem dX9_ends_164 : decode cX9_ends 164 = .ok (.iadd, 1) := by decide +kernel
theorem dX9_ends_165 : decode cX9_ends 165 = .ok (.iastore, 1) := by decide +kernel
theorem dX9_ends_166 : decode cX9_ends 166 = .ok (.bipush 20, 2) := by decide +kernel
theorem dX9_ends_168 : decode cX9_ends 168 = .ok (.istore_n 2, 1) := by decide +kernel
theorem dX9_ends_169 : decode cX9_ends 169 = .ok (.iload_n 2, 1) := by decide +kernel
theorem dX9_ends_170 : decode cX9_ends 170 = .ok (.ifCond .le 29, 3) := by decide +kernel
theorem dX9_ends_173 : decode cX9_ends 173 = .ok (.aload_n 0, 1) := by decide +kernel
theorem dX9_ends_174 : decode cX9_ends 174 = .ok (.getfield 7, 3) := by decide +kernel
theorem dX9_ends_177 : decode cX9_ends 177 = .ok (.bipush 115, 2) := by decide +kernel
theorem dX9_ends_179 : decode cX9_ends 179 = .ok (.iload_n 2, 1) := by decide +kernel
theorem dX9_ends_180 : decode cX9_ends 180 = .ok (.iadd, 1) := by decide +kernel
theorem dX9_ends_181 : decode cX9_ends 181 = .ok (.aload_n 0, 1) := by decide +kernel
theorem dX9_ends_182 : decode cX9_ends 182 = .ok (.getfield 7, 3) := by decide +kernel
theorem dX9_ends_185 : decode cX9_ends 185 = .ok (.bipush 115, 2) := by decide +kernel
theorem dX9_ends_187 : decode cX9_ends 187 = .ok (.iload_n 2, 1) := by decide +kernel
theorem dX9_ends_188 : decode cX9_ends 188 = .ok (.iadd, 1) := by decide +kernel
theorem dX9_ends_189 : decode cX9_ends 189 = .ok (.iconst 1, 1) := by decide +kernel
theorem dX9_ends_190 : decode cX9_ends 190 = .ok (.isub, 1) := by decide +kernel
theorem dX9_ends_191 : decode cX9_ends 191 = .ok (.iaload, 1) := by decide +kernel
theorem dX9_ends_192 : decode cX9_ends 192 = .ok (.iastore, 1) := by decide +kernel
theorem dX9_ends_193 : decode cX9_ends 193 = .ok (.iinc 2 (-1), 3) := by decide +kernel
theorem dX9_ends_196 : decode cX9_ends 196 = .ok (.goto (-27), 3) := by decide +kernel
theorem dX9_ends_199 : decode cX9_ends 199 = .ok (.aload_n 0, 1) := by decide +kernel
theorem dX9_ends_200 : decode cX9_ends 200 = .ok (.getfield 7, 3) := by decide +kernel
theorem dX9_ends_203 : decode cX9_ends 203 = .ok (.bipush 115, 2) := by decide +kernel
theorem dX9_ends_205 : decode cX9_ends 205 = .ok (.iconst 0, 1) := by decide +kernel
theorem dX9_ends_206 : decode cX9_ends 206 = .ok (.iastore, 1) := by decide +kernel
theorem dX9_ends_207 : decode cX9_ends 207 = .ok (.aload_n 0, 1) := by decide +kernel
theorem dX9_ends_208 : decode cX9_ends 208 = .ok (.getfield 7, 3) := by decide +kernel
theorem dX9_ends_211 : decode cX9_ends 211 = .ok (.iconst 1, 1) := by decide +kernel
theorem dX9_ends_212 : decode cX9_ends 212 = .ok (.iaload, 1) := by decide +kernel
theorem dX9_ends_213 : decode cX9_ends 213 = .ok (.iconst 1, 1) := by decide +kernel
theorem dX9_ends_214 : decode cX9_ends 214 = .ok (.isub, 1) := by decide +kernel
theorem dX9_ends_215 : decode cX9_ends 215 = .ok (.istore_n 2, 1) := by decide +kernel
theorem dX9_ends_216 : decode cX9_ends 216 = .ok (.iload_n 2, 1) := by decide +kernel
theorem dX9_ends_217 : decode cX9_ends 217 = .ok (.ifCond .lt 38, 3) := by decide +kernel
theorem dX9_ends_220 : decode cX9_ends 220 = .ok (.aload_n 0, 1) := by decide +kernel
theorem dX9_ends_221 : decode cX9_ends 221 = .ok (.iload_n 2, 1) := by decide +kernel
theorem dX9_ends_222 : decode cX9_ends 222 = .ok (.iconst 2, 1) := by decide +kernel
theorem dX9_ends_223 : decode cX9_ends 223 = .ok (.invokevirtual 36, 3) := by decide +kernel
theorem dX9_ends_226 : decode cX9_ends 226 = .ok (.aload_n 0, 1) := by decide +kernel
theorem dX9_ends_227 : decode cX9_ends 227 = .ok (.iload_n 2, 1) := by decide +kernel
theorem dX9_ends_228 : decode cX9_ends 228 = .ok (.iconst 3, 1) := by decide +kernel
theorem dX9_ends_229 : decode cX9_ends 229 = .ok (.invokevirtual 36, 3) := by decide +kernel
theorem dX9_ends_232 : decode cX9_ends 232 = .ok (.iadd, 1) := by decide +kernel
theorem dX9_ends_233 : decode cX9_ends 233 = .ok (.iconst 1, 1) := by decide +kernel
theorem dX9_ends_234 : decode cX9_ends 234 = .ok (.isub, 1) := by decide +kernel
theorem dX9_ends_235 : decode cX9_ends 235 = .ok (.aload_n 0, 1) := by decide +kernel
theorem dX9_ends_236 : decode cX9_ends 236 = .ok (.getfield 7, 3) := by decide +kernel
theorem dX9_ends_239 : decode cX9_ends 239 = .ok (.iconst 3, 1) := by decide +kernel
theorem dX9_ends_240 : decode cX9_ends 240 = .ok (.iaload, 1) := by decide +kernel
theorem dX9_ends_241 : decode cX9_ends 241 = .ok (.if_icmp .ne 8, 3) := by decide +kernel
theorem dX9_ends_244 : decode cX9_ends 244 = .ok (.aload_n 0, 1) := by decide +kernel
theorem dX9_ends_245 : decode cX9_ends 245 = .ok (.iload_n 2, 1) := by decide +kernel
theorem dX9_ends_246 : decode cX9_ends 246 = .ok (.invokevirtual 89, 3) := by decide +kernel
theorem dX9_ends_249 : decode cX9_ends 249 = .ok (.iinc 2 (-1), 3) := by decide +kernel
theorem dX9_ends_252 : decode cX9_ends 252 = .ok (.goto (-36), 3) := by decide +kernel
theorem dX9_ends_255 : decode cX9_ends 255 = .ok (.aload_n 0, 1) := by decide +kernel
theorem dX9_ends_256 : decode cX9_ends 256 = .ok (.getfield 7, 3) := by decide +kernel
theorem dX9_ends_259 : decode cX9_ends 259 = .ok (.iconst 3, 1) := by decide +kernel
theorem dX9_ends_260 : decode cX9_ends 260 = .ok (.dup2, 1) := by decide +kernel
theorem dX9_ends_261 : decode cX9_ends 261 = .ok (.iaload, 1) := by decide +kernel
theorem dX9_ends_262 : decode cX9_ends 262 = .ok (.iconst 1, 1) := by decide +kernel
theorem dX9_ends_263 : decode cX9_ends 263 = .ok (.iadd, 1) := by decide +kernel
theorem dX9_ends_264 : decode cX9_ends 264 = .ok (.iastore, 1) := by decide +kernel
theorem dX9_ends_265 : decode cX9_ends 265 = .ok (.return_, 1) := by decide +kernel
theorem dX9_endsFor_0 : decode cX9_endsFor 0 = .ok (.aload_n 0, 1) := by decide +kernel
theorem dX9_endsFor_1 : decode cX9_endsFor 1 = .ok (.getfield 7, 3) := by decide +kernel
theorem dX9_endsFor_4 : decode cX9_endsFor 4 = .ok (.bipush 8, 2) := by decide +kernel
theorem dX9_endsFor_6 : decode cX9_endsFor 6 = .ok (.iaload, 1) := by decide +kernel
theorem dX9_endsFor_7 : decode cX9_endsFor 7 = .ok (.istore_n 2, 1) := by decide +kernel
theorem dX9_endsFor_8 : decode cX9_endsFor 8 = .ok (.iconst 0, 1) := by decide +kernel
theorem dX9_endsFor_9 : decode cX9_endsFor 9 = .ok (.istore_n 3, 1) := by decide +kernel
theorem dX9_endsFor_10 : decode cX9_endsFor 10 = .ok (.iload_n 3, 1) := by decide +kernel
theorem dX9_endsFor_11 : decode cX9_endsFor 11 = .ok (.iload_n 1, 1) := by decide +kernel
theorem dX9_endsFor_12 : decode cX9_endsFor 12 = .ok (.if_icmp .ge 13, 3) := by decide +kernel
theorem dX9_endsFor_15 : decode cX9_endsFor 15 = .ok (.aload_n 0, 1) := by decide +kernel
theorem dX9_endsFor_16 : decode cX9_endsFor 16 = .ok (.invokevirtual 92, 3) := by decide +kernel
theorem dX9_endsFor_19 : decode cX9_endsFor 19 = .ok (.iinc 3 1, 3) := by decide +kernel
theorem dX9_endsFor_22 : decode cX9_endsFor 22 = .ok (.goto (-12), 3) := by decide +kernel
theorem dX9_endsFor_25 : decode cX9_endsFor 25 = .ok (.aload_n 0, 1) := by decide +kernel
theorem dX9_endsFor_26 : decode cX9_endsFor 26 = .ok (.getfield 7, 3) := by decide +kernel
theorem dX9_endsFor_29 : decode cX9_endsFor 29 = .ok (.bipush 8, 2) := by decide +kernel
theorem dX9_endsFor_31 : decode cX9_endsFor 31 = .ok (.iaload, 1) := by decide +kernel
theorem dX9_endsFor_32 : decode cX9_endsFor 32 = .ok (.iload_n 2, 1) := by decide +kernel
theorem dX9_endsFor_33 : decode cX9_endsFor 33 = .ok (.isub, 1) := by decide +kernel
theorem dX9_endsFor_34 : decode cX9_endsFor 34 = .ok (.ireturn, 1) := by decide +kernel
theorem dX9_mule_0 : decode cX9_mule 0 = .ok (.iload_n 1, 1) := by decide +kernel
theorem dX9_mule_1 : decode cX9_mule 1 = .ok (.iconst 1, 1) := by decide +kernel
theorem dX9_mule_2 : decode cX9_mule 2 = .ok (.bipush 30, 2) := by decide +kernel
theorem dX9_mule_4 : decode cX9_mule 4 = .ok (.invokestatic 65, 3) := by decide +kernel
theorem dX9_mule_7 : decode cX9_mule 7 = .ok (.ifCond .eq 13, 3) := by decide +kernel
theorem dX9_mule_10 : decode cX9_mule 10 = .ok (.iload_n 2, 1) := by decide +kernel
theorem dX9_mule_11 : decode cX9_mule 11 = .ok (.iconst 1, 1) := by decide +kernel
theorem dX9_mule_12 : decode cX9_mule 12 = .ok (.bipush 9, 2) := by decide +kernel
theorem dX9_mule_14 : decode cX9_mule 14 = .ok (.invokestatic 65, 3) := by decide +kernel
theorem dX9_mule_17 : decode cX9_mule 17 = .ok (.ifCond .ne 6, 3) := by decide +kernel
theorem dX9_mule_20 : decode cX9_mule 20 = .ok (.ldc 95, 2) := by decide +kernel
theorem dX9_mule_22 : decode cX9_mule 22 = .ok (.ireturn, 1) := by decide +kernel
theorem dX9_mule_23 : decode cX9_mule 23 = .ok (.aload_n 0, 1) := by decide +kernel
theorem dX9_mule_24 : decode cX9_mule 24 = .ok (.getfield 7, 3) := by decide +kernel
theorem dX9_mule_27 : decode cX9_mule 27 = .ok (.iconst 0, 1) := by decide +kernel
theorem dX9_mule_28 : decode cX9_mule 28 = .ok (.iaload, 1) := by decide +kernel
theorem dX9_mule_29 : decode cX9_mule 29 = .ok (.istore_n 3, 1) := by decide +kernel
theorem dX9_mule_30 : decode cX9_mule 30 = .ok (.iload_n 3, 1) := by decide +kernel
theorem dX9_mule_31 : decode cX9_mule 31 = .ok (.iconst 4, 1) := by decide +kernel
theorem dX9_mule_32 : decode cX9_mule 32 = .ok (.if_icmp .ne 6, 3) := by decide +kernel
theorem dX9_mule_35 : decode cX9_mule 35 = .ok (.ldc 96, 2) := by decide +kernel
theorem dX9_mule_37 : decode cX9_mule 37 = .ok (.ireturn, 1) := by decide +kernel
theorem dX9_mule_38 : decode cX9_mule 38 = .ok (.aload_n 0, 1) := by decide +kernel
theorem dX9_mule_39 : decode cX9_mule 39 = .ok (.invokevirtual 97, 3) := by decide +kernel
theorem dX9_mule_42 : decode cX9_mule 42 = .ok (.iconst 0, 1) := by decide +kernel
theorem dX9_mule_43 : decode cX9_mule 43 = .ok (.istore 4, 2) := by decide +kernel
theorem dX9_mule_45 : decode cX9_mule 45 = .ok (.iload 4, 2) := by decide +kernel
theorem dX9_mule_47 : decode cX9_mule 47 = .ok (.bipush 9, 2) := by decide +kernel
theorem dX9_mule_49 : decode cX9_mule 49 = .ok (.if_icmp .ge 17, 3) := by decide +kernel
theorem dX9_mule_52 : decode cX9_mule 52 = .ok (.aload_n 0, 1) := by decide +kernel
theorem dX9_mule_53 : decode cX9_mule 53 = .ok (.iload_n 3, 1) := by decide +kernel
theorem dX9_mule_54 : decode cX9_mule 54 = .ok (.iload 4, 2) := by decide +kernel
theorem dX9_mule_56 : decode cX9_mule 56 = .ok (.iconst 0, 1) := by decide +kernel
theorem dX9_mule_57 : decode cX9_mule 57 = .ok (.invokevirtual 47, 3) := by decide +kernel
theorem dX9_mule_60 : decode cX9_mule 60 = .ok (.iinc 4 1, 3) := by decide +kernel
theorem dX9_mule_63 : decode cX9_mule 63 = .ok (.goto (-18), 3) := by decide +kernel
theorem dX9_mule_66 : decode cX9_mule 66 = .ok (.aload_n 0, 1) := by decide +kernel
theorem dX9_mule_67 : decode cX9_mule 67 = .ok (.iload_n 3, 1) := by decide +kernel
theorem dX9_mule_68 : decode cX9_mule 68 = .ok (.iconst 0, 1) := by decide +kernel
theorem dX9_mule_69 : decode cX9_mule 69 = .ok (.iload_n 1, 1) := by decide +kernel
theorem dX9_mule_70 : decode cX9_mule 70 = .ok (.invokevirtual 47, 3) := by decide +kernel
theorem dX9_mule_73 : decode cX9_mule 73 = .ok (.aload_n 0, 1) := by decide +kernel
theorem dX9_mule_74 : decode cX9_mule 74 = .ok (.iload_n 3, 1) := by decide +kernel
theorem dX9_mule_75 : decode cX9_mule 75 = .ok (.iconst 1, 1) := by decide +kernel
theorem dX9_mule_76 : decode cX9_mule 76 = .ok (.iload_n 2, 1) := by decide +kernel
theorem dX9_mule_77 : decode cX9_mule 77 = .ok (.invokevirtual 47, 3) := by decide +kernel
theorem dX9_mule_80 : decode cX9_mule 80 = .ok (.aload_n 0, 1) := by decide +kernel
theorem dX9_mule_81 : decode cX9_mule 81 = .ok (.getfield 7, 3) := by decide +kernel
theorem dX9_mule_84 : decode cX9_mule 84 = .ok (.iconst 0, 1) := by decide +kernel
theorem dX9_mule_85 : decode cX9_mule 85 = .ok (.dup2, 1) := by decide +kernel
theorem dX9_mule_86 : decode cX9_mule 86 = .ok (.iaload, 1) := by decide +kernel
theorem dX9_mule_87 : decode cX9_mule 87 = .ok (.iconst 1, 1) := by decide +kernel
theorem dX9_mule_88 : decode cX9_mule 88 = .ok (.iadd, 1) := by decide +kernel
theorem dX9_mule_89 : decode cX9_mule 89 = .ok (.iastore, 1) := by decide +kernel
theorem dX9_mule_90 : decode cX9_mule 90 = .ok (.iload_n 3, 1) := by decide +kernel
theorem dX9_mule_91 : decode cX9_mule 91 = .ok (.ireturn, 1) := by decide +kernel
theorem dX9_whyNot_0 : decode cX9_whyNot 0 = .ok (.aload_n 0, 1) := by decide +kernel
theorem dX9_whyNot_1 : decode cX9_whyNot 1 = .ok (.iload_n 1, 1) := by decide +kernel
theorem dX9_whyNot_2 : decode cX9_whyNot 2 = .ok (.iconst 2, 1) := by decide +kernel
theorem dX9_whyNot_3 : decode cX9_whyNot 3 = .ok (.invokevirtual 44, 3) := by decide +kernel
theorem dX9_whyNot_6 : decode cX9_whyNot 6 = .ok (.ifCond .eq 5, 3) := by decide +kernel
theorem dX9_whyNot_9 : decode cX9_whyNot 9 = .ok (.iconst 1, 1) := by decide +kernel
theorem dX9_whyNot_10 : decode cX9_whyNot 10 = .ok (.ireturn, 1) := by decide +kernel
theorem dX9_whyNot_11 : decode cX9_whyNot 11 = .ok (.iload_n 2, 1) := by decide +kernel
theorem dX9_whyNot_12 : decode cX9_whyNot 12 = .ok (.aload_n 0, 1) := by decide +kernel
theorem dX9_whyNot_13 : decode cX9_whyNot 13 = .ok (.iload_n 1, 1) := by decide +kernel
theorem dX9_whyNot_14 : decode cX9_whyNot 14 = .ok (.iconst 0, 1) := by decide +kernel
theorem dX9_whyNot_15 : decode cX9_whyNot 15 = .ok (.invokevirtual 44, 3) := by decide +kernel
theorem dX9_whyNot_18 : decode cX9_whyNot 18 = .ok (.if_icmp .le 7, 3) := by decide +kernel
theorem dX9_whyNot_21 : decode cX9_whyNot 21 = .ok (.iconst 2, 1) := by decide +kernel
theorem dX9_whyNot_22 : decode cX9_whyNot 22 = .ok (.goto 35, 3) := by decide +kernel
theorem dX9_whyNot_25 : decode cX9_whyNot 25 = .ok (.aload_n 0, 1) := by decide +kernel
theorem dX9_whyNot_26 : decode cX9_whyNot 26 = .ok (.getfield 7, 3) := by decide +kernel
theorem dX9_whyNot_29 : decode cX9_whyNot 29 = .ok (.bipush 6, 2) := by decide +kernel
theorem dX9_whyNot_31 : decode cX9_whyNot 31 = .ok (.iaload, 1) := by decide +kernel
theorem dX9_whyNot_32 : decode cX9_whyNot 32 = .ok (.iload_n 2, 1) := by decide +kernel
theorem dX9_whyNot_33 : decode cX9_whyNot 33 = .ok (.aload_n 0, 1) := by decide +kernel
theorem dX9_whyNot_34 : decode cX9_whyNot 34 = .ok (.getfield 7, 3) := by decide +kernel
theorem dX9_whyNot_37 : decode cX9_whyNot 37 = .ok (.bipush 15, 2) := by decide +kernel
theorem dX9_whyNot_39 : decode cX9_whyNot 39 = .ok (.iaload, 1) := by decide +kernel
theorem dX9_whyNot_40 : decode cX9_whyNot 40 = .ok (.imul, 1) := by decide +kernel
theorem dX9_whyNot_41 : decode cX9_whyNot 41 = .ok (.iadd, 1) := by decide +kernel
theorem dX9_whyNot_42 : decode cX9_whyNot 42 = .ok (.aload_n 0, 1) := by decide +kernel
theorem dX9_whyNot_43 : decode cX9_whyNot 43 = .ok (.getfield 7, 3) := by decide +kernel
theorem dX9_whyNot_46 : decode cX9_whyNot 46 = .ok (.bipush 16, 2) := by decide +kernel
theorem dX9_whyNot_48 : decode cX9_whyNot 48 = .ok (.iaload, 1) := by decide +kernel
theorem dX9_whyNot_49 : decode cX9_whyNot 49 = .ok (.if_icmp .le 7, 3) := by decide +kernel
theorem dX9_whyNot_52 : decode cX9_whyNot 52 = .ok (.iconst 3, 1) := by decide +kernel
theorem dX9_whyNot_53 : decode cX9_whyNot 53 = .ok (.goto 4, 3) := by decide +kernel
theorem dX9_whyNot_56 : decode cX9_whyNot 56 = .ok (.iconst 0, 1) := by decide +kernel
theorem dX9_whyNot_57 : decode cX9_whyNot 57 = .ok (.ireturn, 1) := by decide +kernel
theorem dX9_send_0 : decode cX9_send 0 = .ok (.aload_n 0, 1) := by decide +kernel
theorem dX9_send_1 : decode cX9_send 1 = .ok (.iload_n 1, 1) := by decide +kernel
theorem dX9_send_2 : decode cX9_send 2 = .ok (.invokevirtual 100, 3) := by decide +kernel
theorem dX9_send_5 : decode cX9_send 5 = .ok (.ifCond .eq 13, 3) := by decide +kernel
theorem dX9_send_8 : decode cX9_send 8 = .ok (.iload_n 2, 1) := by decide +kernel
theorem dX9_send_9 : decode cX9_send 9 = .ok (.iconst 1, 1) := by decide +kernel
theorem dX9_send_10 : decode cX9_send 10 = .ok (.bipush 30, 2) := by decide +kernel
theorem dX9_send_12 : decode cX9_send 12 = .ok (.invokestatic 65, 3) := by decide +kernel
theorem dX9_send_15 : decode cX9_send 15 = .ok (.ifCond .ne 6, 3) := by decide +kernel
theorem dX9_send_18 : decode cX9_send 18 = .ok (.ldc 95, 2) := by decide +kernel
theorem dX9_send_20 : decode cX9_send 20 = .ok (.ireturn, 1) := by decide +kernel
theorem dX9_send_21 : decode cX9_send 21 = .ok (.aload_n 0, 1) := by decide +kernel
theorem dX9_send_22 : decode cX9_send 22 = .ok (.iload_n 1, 1) := by decide +kernel
theorem dX9_send_23 : decode cX9_send 23 = .ok (.iload_n 2, 1) := by decide +kernel
theorem dX9_send_24 : decode cX9_send 24 = .ok (.invokevirtual 104, 3) := by decide +kernel
theorem dX9_send_27 : decode cX9_send 27 = .ok (.ifCond .le 6, 3) := by decide +kernel
theorem dX9_send_30 : decode cX9_send 30 = .ok (.ldc 107, 2) := by decide +kernel
theorem dX9_send_32 : decode cX9_send 32 = .ok (.ireturn, 1) := by decide +kernel
theorem dX9_send_33 : decode cX9_send 33 = .ok (.aload_n 0, 1) := by decide +kernel
theorem dX9_send_34 : decode cX9_send 34 = .ok (.invokevirtual 97, 3) := by decide +kernel
theorem dX9_send_37 : decode cX9_send 37 = .ok (.aload_n 0, 1) := by decide +kernel
theorem dX9_send_38 : decode cX9_send 38 = .ok (.iload_n 1, 1) := by decide +kernel
theorem dX9_send_39 : decode cX9_send 39 = .ok (.iconst 2, 1) := by decide +kernel
theorem dX9_send_40 : decode cX9_send 40 = .ok (.iconst 1, 1) := by decide +kernel
theorem dX9_send_41 : decode cX9_send 41 = .ok (.invokevirtual 47, 3) := by decide +kernel
theorem dX9_send_44 : decode cX9_send 44 = .ok (.aload_n 0, 1) := by decide +kernel
theorem dX9_send_45 : decode cX9_send 45 = .ok (.iload_n 1, 1) := by decide +kernel
theorem dX9_send_46 : decode cX9_send 46 = .ok (.iconst 3, 1) := by decide +kernel
theorem dX9_send_47 : decode cX9_send 47 = .ok (.iconst 2, 1) := by decide +kernel
theorem dX9_send_48 : decode cX9_send 48 = .ok (.invokevirtual 47, 3) := by decide +kernel
theorem dX9_send_51 : decode cX9_send 51 = .ok (.aload_n 0, 1) := by decide +kernel
theorem dX9_send_52 : decode cX9_send 52 = .ok (.iload_n 1, 1) := by decide +kernel
theorem dX9_send_53 : decode cX9_send 53 = .ok (.iconst 4, 1) := by decide +kernel
theorem dX9_send_54 : decode cX9_send 54 = .ok (.iload_n 2, 1) := by decide +kernel
theorem dX9_send_55 : decode cX9_send 55 = .ok (.invokevirtual 47, 3) := by decide +kernel
theorem dX9_send_58 : decode cX9_send 58 = .ok (.aload_n 0, 1) := by decide +kernel
theorem dX9_send_59 : decode cX9_send 59 = .ok (.iload_n 1, 1) := by decide +kernel
theorem dX9_send_60 : decode cX9_send 60 = .ok (.iconst 5, 1) := by decide +kernel
theorem dX9_send_61 : decode cX9_send 61 = .ok (.aload_n 0, 1) := by decide +kernel
theorem dX9_send_62 : decode cX9_send 62 = .ok (.getfield 7, 3) := by decide +kernel
theorem dX9_send_65 : decode cX9_send 65 = .ok (.iconst 3, 1) := by decide +kernel
theorem dX9_send_66 : decode cX9_send 66 = .ok (.iaload, 1) := by decide +kernel
theorem dX9_send_67 : decode cX9_send 67 = .ok (.invokevirtual 47, 3) := by decide +kernel
theorem dX9_send_70 : decode cX9_send 70 = .ok (.aload_n 0, 1) := by decide +kernel
theorem dX9_send_71 : decode cX9_send 71 = .ok (.iload_n 1, 1) := by decide +kernel
theorem dX9_send_72 : decode cX9_send 72 = .ok (.bipush 6, 2) := by decide +kernel
theorem dX9_send_74 : decode cX9_send 74 = .ok (.aload_n 0, 1) := by decide +kernel
theorem dX9_send_75 : decode cX9_send 75 = .ok (.iload_n 1, 1) := by decide +kernel
theorem dX9_send_76 : decode cX9_send 76 = .ok (.bipush 6, 2) := by decide +kernel
theorem dX9_send_78 : decode cX9_send 78 = .ok (.invokevirtual 44, 3) := by decide +kernel
theorem dX9_send_81 : decode cX9_send 81 = .ok (.iconst 1, 1) := by decide +kernel
theorem dX9_send_82 : decode cX9_send 82 = .ok (.iadd, 1) := by decide +kernel
theorem dX9_send_83 : decode cX9_send 83 = .ok (.invokevirtual 47, 3) := by decide +kernel
theorem dX9_send_86 : decode cX9_send 86 = .ok (.aload_n 0, 1) := by decide +kernel
theorem dX9_send_87 : decode cX9_send 87 = .ok (.getfield 7, 3) := by decide +kernel
theorem dX9_send_90 : decode cX9_send 90 = .ok (.bipush 7, 2) := by decide +kernel
theorem dX9_send_92 : decode cX9_send 92 = .ok (.dup2, 1) := by decide +kernel
theorem dX9_send_93 : decode cX9_send 93 = .ok (.iaload, 1) := by decide +kernel
theorem dX9_send_94 : decode cX9_send 94 = .ok (.iload_n 2, 1) := by decide +kernel
theorem dX9_send_95 : decode cX9_send 95 = .ok (.iadd, 1) := by decide +kernel
theorem dX9_send_96 : decode cX9_send 96 = .ok (.iastore, 1) := by decide +kernel
theorem dX9_send_97 : decode cX9_send 97 = .ok (.aload_n 0, 1) := by decide +kernel
theorem dX9_send_98 : decode cX9_send 98 = .ok (.getfield 7, 3) := by decide +kernel
theorem dX9_send_101 : decode cX9_send 101 = .ok (.bipush 6, 2) := by decide +kernel
theorem dX9_send_103 : decode cX9_send 103 = .ok (.dup2, 1) := by decide +kernel
theorem dX9_send_104 : decode cX9_send 104 = .ok (.iaload, 1) := by decide +kernel
theorem dX9_send_105 : decode cX9_send 105 = .ok (.iload_n 2, 1) := by decide +kernel
theorem dX9_send_106 : decode cX9_send 106 = .ok (.aload_n 0, 1) := by decide +kernel
theorem dX9_send_107 : decode cX9_send 107 = .ok (.getfield 7, 3) := by decide +kernel
theorem dX9_send_110 : decode cX9_send 110 = .ok (.bipush 15, 2) := by decide +kernel
theorem dX9_send_112 : decode cX9_send 112 = .ok (.iaload, 1) := by decide +kernel
theorem dX9_send_113 : decode cX9_send 113 = .ok (.imul, 1) := by decide +kernel
theorem dX9_send_114 : decode cX9_send 114 = .ok (.iadd, 1) := by decide +kernel
theorem dX9_send_115 : decode cX9_send 115 = .ok (.iastore, 1) := by decide +kernel
theorem dX9_send_116 : decode cX9_send 116 = .ok (.aload_n 0, 1) := by decide +kernel
theorem dX9_send_117 : decode cX9_send 117 = .ok (.getfield 7, 3) := by decide +kernel
theorem dX9_send_120 : decode cX9_send 120 = .ok (.bipush 6, 2) := by decide +kernel
theorem dX9_send_122 : decode cX9_send 122 = .ok (.iaload, 1) := by decide +kernel
theorem dX9_send_123 : decode cX9_send 123 = .ok (.ireturn, 1) := by decide +kernel
theorem dX9_rest_0 : decode cX9_rest 0 = .ok (.aload_n 0, 1) := by decide +kernel
theorem dX9_rest_1 : decode cX9_rest 1 = .ok (.iload_n 1, 1) := by decide +kernel
theorem dX9_rest_2 : decode cX9_rest 2 = .ok (.invokevirtual 100, 3) := by decide +kernel
theorem dX9_rest_5 : decode cX9_rest 5 = .ok (.ifCond .ne 6, 3) := by decide +kernel
theorem dX9_rest_8 : decode cX9_rest 8 = .ok (.ldc 95, 2) := by decide +kernel
theorem dX9_rest_10 : decode cX9_rest 10 = .ok (.ireturn, 1) := by decide +kernel
theorem dX9_rest_11 : decode cX9_rest 11 = .ok (.aload_n 0, 1) := by decide +kernel
theorem dX9_rest_12 : decode cX9_rest 12 = .ok (.iload_n 1, 1) := by decide +kernel
theorem dX9_rest_13 : decode cX9_rest 13 = .ok (.iconst 2, 1) := by decide +kernel
theorem dX9_rest_14 : decode cX9_rest 14 = .ok (.invokevirtual 44, 3) := by decide +kernel
theorem dX9_rest_17 : decode cX9_rest 17 = .ok (.ifCond .eq 6, 3) := by decide +kernel
theorem dX9_rest_20 : decode cX9_rest 20 = .ok (.ldc 107, 2) := by decide +kernel
theorem dX9_rest_22 : decode cX9_rest 22 = .ok (.ireturn, 1) := by decide +kernel
theorem dX9_rest_23 : decode cX9_rest 23 = .ok (.aload_n 0, 1) := by decide +kernel
theorem dX9_rest_24 : decode cX9_rest 24 = .ok (.invokevirtual 97, 3) := by decide +kernel
theorem dX9_rest_27 : decode cX9_rest 27 = .ok (.aload_n 0, 1) := by decide +kernel
theorem dX9_rest_28 : decode cX9_rest 28 = .ok (.iload_n 1, 1) := by decide +kernel
theorem dX9_rest_29 : decode cX9_rest 29 = .ok (.bipush 6, 2) := by decide +kernel
theorem dX9_rest_31 : decode cX9_rest 31 = .ok (.invokevirtual 44, 3) := by decide +kernel
theorem dX9_rest_34 : decode cX9_rest 34 = .ok (.istore_n 2, 1) := by decide +kernel
theorem dX9_rest_35 : decode cX9_rest 35 = .ok (.aload_n 0, 1) := by decide +kernel
theorem dX9_rest_36 : decode cX9_rest 36 = .ok (.iload_n 1, 1) := by decide +kernel
theorem dX9_rest_37 : decode cX9_rest 37 = .ok (.bipush 6, 2) := by decide +kernel
theorem dX9_rest_39 : decode cX9_rest 39 = .ok (.iconst 0, 1) := by decide +kernel
theorem dX9_rest_40 : decode cX9_rest 40 = .ok (.invokevirtual 47, 3) := by decide +kernel
theorem dX9_rest_43 : decode cX9_rest 43 = .ok (.iload_n 2, 1) := by decide +kernel
theorem dX9_rest_44 : decode cX9_rest 44 = .ok (.ireturn, 1) := by decide +kernel
theorem dX9_pay_0 : decode cX9_pay 0 = .ok (.iload_n 1, 1) := by decide +kernel
theorem dX9_pay_1 : decode cX9_pay 1 = .ok (.iconst 1, 1) := by decide +kernel
theorem dX9_pay_2 : decode cX9_pay 2 = .ok (.sipush 500, 3) := by decide +kernel
theorem dX9_pay_5 : decode cX9_pay 5 = .ok (.invokestatic 65, 3) := by decide +kernel
theorem dX9_pay_8 : decode cX9_pay 8 = .ok (.ifCond .ne 6, 3) := by decide +kernel
theorem dX9_pay_11 : decode cX9_pay 11 = .ok (.ldc 95, 2) := by decide +kernel
theorem dX9_pay_13 : decode cX9_pay 13 = .ok (.ireturn, 1) := by decide +kernel
theorem dX9_pay_14 : decode cX9_pay 14 = .ok (.iload_n 1, 1) := by decide +kernel
theorem dX9_pay_15 : decode cX9_pay 15 = .ok (.aload_n 0, 1) := by decide +kernel
theorem dX9_pay_16 : decode cX9_pay 16 = .ok (.getfield 7, 3) := by decide +kernel
theorem dX9_pay_19 : decode cX9_pay 19 = .ok (.iconst 5, 1) := by decide +kernel
theorem dX9_pay_20 : decode cX9_pay 20 = .ok (.iaload, 1) := by decide +kernel
theorem dX9_pay_21 : decode cX9_pay 21 = .ok (.if_icmp .gt 14, 3) := by decide +kernel
theorem dX9_pay_24 : decode cX9_pay 24 = .ok (.iload_n 1, 1) := by decide +kernel
theorem dX9_pay_25 : decode cX9_pay 25 = .ok (.aload_n 0, 1) := by decide +kernel
theorem dX9_pay_26 : decode cX9_pay 26 = .ok (.getfield 7, 3) := by decide +kernel
theorem dX9_pay_29 : decode cX9_pay 29 = .ok (.bipush 6, 2) := by decide +kernel
theorem dX9_pay_31 : decode cX9_pay 31 = .ok (.iaload, 1) := by decide +kernel
theorem dX9_pay_32 : decode cX9_pay 32 = .ok (.if_icmp .le 6, 3) := by decide +kernel
theorem dX9_pay_35 : decode cX9_pay 35 = .ok (.ldc 107, 2) := by decide +kernel
