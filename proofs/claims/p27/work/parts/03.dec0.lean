theorem dX0_init_0 : decode cX0_init 0 = .ok (.aload_n 0, 1) := by decide +kernel
theorem dX0_init_1 : decode cX0_init 1 = .ok (.invokespecial 3, 3) := by decide +kernel
theorem dX0_init_4 : decode cX0_init 4 = .ok (.return_, 1) := by decide +kernel
theorem dX0_copyFrom_0 : decode cX0_copyFrom 0 = .ok (.aload_n 0, 1) := by decide +kernel
theorem dX0_copyFrom_1 : decode cX0_copyFrom 1 = .ok (.aload_n 1, 1) := by decide +kernel
theorem dX0_copyFrom_2 : decode cX0_copyFrom 2 = .ok (.getfield 9, 3) := by decide +kernel
theorem dX0_copyFrom_5 : decode cX0_copyFrom 5 = .ok (.putfield 9, 3) := by decide +kernel
theorem dX0_copyFrom_8 : decode cX0_copyFrom 8 = .ok (.aload_n 0, 1) := by decide +kernel
theorem dX0_copyFrom_9 : decode cX0_copyFrom 9 = .ok (.aload_n 1, 1) := by decide +kernel
theorem dX0_copyFrom_10 : decode cX0_copyFrom 10 = .ok (.getfield 15, 3) := by decide +kernel
theorem dX0_copyFrom_13 : decode cX0_copyFrom 13 = .ok (.putfield 15, 3) := by decide +kernel
theorem dX0_copyFrom_16 : decode cX0_copyFrom 16 = .ok (.aload_n 0, 1) := by decide +kernel
theorem dX0_copyFrom_17 : decode cX0_copyFrom 17 = .ok (.aload_n 1, 1) := by decide +kernel
theorem dX0_copyFrom_18 : decode cX0_copyFrom 18 = .ok (.getfield 18, 3) := by decide +kernel
theorem dX0_copyFrom_21 : decode cX0_copyFrom 21 = .ok (.putfield 18, 3) := by decide +kernel
theorem dX0_copyFrom_24 : decode cX0_copyFrom 24 = .ok (.aload_n 0, 1) := by decide +kernel
theorem dX0_copyFrom_25 : decode cX0_copyFrom 25 = .ok (.aload_n 1, 1) := by decide +kernel
theorem dX0_copyFrom_26 : decode cX0_copyFrom 26 = .ok (.getfield 21, 3) := by decide +kernel
theorem dX0_copyFrom_29 : decode cX0_copyFrom 29 = .ok (.putfield 21, 3) := by decide +kernel
theorem dX0_copyFrom_32 : decode cX0_copyFrom 32 = .ok (.aload_n 0, 1) := by decide +kernel
theorem dX0_copyFrom_33 : decode cX0_copyFrom 33 = .ok (.aload_n 1, 1) := by decide +kernel
theorem dX0_copyFrom_34 : decode cX0_copyFrom 34 = .ok (.getfield 24, 3) := by decide +kernel
theorem dX0_copyFrom_37 : decode cX0_copyFrom 37 = .ok (.putfield 24, 3) := by decide +kernel
theorem dX0_copyFrom_40 : decode cX0_copyFrom 40 = .ok (.aload_n 0, 1) := by decide +kernel
theorem dX0_copyFrom_41 : decode cX0_copyFrom 41 = .ok (.aload_n 1, 1) := by decide +kernel
theorem dX0_copyFrom_42 : decode cX0_copyFrom 42 = .ok (.getfield 27, 3) := by decide +kernel
theorem dX0_copyFrom_45 : decode cX0_copyFrom 45 = .ok (.putfield 27, 3) := by decide +kernel
theorem dX0_copyFrom_48 : decode cX0_copyFrom 48 = .ok (.return_, 1) := by decide +kernel
theorem dX0_begin_0 : decode cX0_begin 0 = .ok (.aload_n 0, 1) := by decide +kernel
theorem dX0_begin_1 : decode cX0_begin 1 = .ok (.iload_n 1, 1) := by decide +kernel
theorem dX0_begin_2 : decode cX0_begin 2 = .ok (.putfield 9, 3) := by decide +kernel
theorem dX0_begin_5 : decode cX0_begin 5 = .ok (.aload_n 0, 1) := by decide +kernel
theorem dX0_begin_6 : decode cX0_begin 6 = .ok (.iload_n 2, 1) := by decide +kernel
theorem dX0_begin_7 : decode cX0_begin 7 = .ok (.putfield 15, 3) := by decide +kernel
theorem dX0_begin_10 : decode cX0_begin 10 = .ok (.aload_n 0, 1) := by decide +kernel
theorem dX0_begin_11 : decode cX0_begin 11 = .ok (.iload_n 3, 1) := by decide +kernel
theorem dX0_begin_12 : decode cX0_begin 12 = .ok (.putfield 18, 3) := by decide +kernel
theorem dX0_begin_15 : decode cX0_begin 15 = .ok (.aload_n 0, 1) := by decide +kernel
theorem dX0_begin_16 : decode cX0_begin 16 = .ok (.iload 4, 2) := by decide +kernel
theorem dX0_begin_18 : decode cX0_begin 18 = .ok (.putfield 21, 3) := by decide +kernel
theorem dX0_begin_21 : decode cX0_begin 21 = .ok (.aload_n 0, 1) := by decide +kernel
theorem dX0_begin_22 : decode cX0_begin 22 = .ok (.iconst 0, 1) := by decide +kernel
theorem dX0_begin_23 : decode cX0_begin 23 = .ok (.putfield 24, 3) := by decide +kernel
theorem dX0_begin_26 : decode cX0_begin 26 = .ok (.aload_n 0, 1) := by decide +kernel
theorem dX0_begin_27 : decode cX0_begin 27 = .ok (.iconst 0, 1) := by decide +kernel
theorem dX0_begin_28 : decode cX0_begin 28 = .ok (.putfield 27, 3) := by decide +kernel
theorem dX0_begin_31 : decode cX0_begin 31 = .ok (.return_, 1) := by decide +kernel
theorem dX0_loavesADay_0 : decode cX0_loavesADay 0 = .ok (.aload_n 0, 1) := by decide +kernel
theorem dX0_loavesADay_1 : decode cX0_loavesADay 1 = .ok (.getfield 15, 3) := by decide +kernel
theorem dX0_loavesADay_4 : decode cX0_loavesADay 4 = .ok (.iconst 1, 1) := by decide +kernel
theorem dX0_loavesADay_5 : decode cX0_loavesADay 5 = .ok (.iadd, 1) := by decide +kernel
theorem dX0_loavesADay_6 : decode cX0_loavesADay 6 = .ok (.iconst 2, 1) := by decide +kernel
theorem dX0_loavesADay_7 : decode cX0_loavesADay 7 = .ok (.idiv, 1) := by decide +kernel
theorem dX0_loavesADay_8 : decode cX0_loavesADay 8 = .ok (.ireturn, 1) := by decide +kernel
theorem dX0_isThereOn_0 : decode cX0_isThereOn 0 = .ok (.iload_n 1, 1) := by decide +kernel
theorem dX0_isThereOn_1 : decode cX0_isThereOn 1 = .ok (.aload_n 0, 1) := by decide +kernel
theorem dX0_isThereOn_2 : decode cX0_isThereOn 2 = .ok (.getfield 18, 3) := by decide +kernel
theorem dX0_isThereOn_5 : decode cX0_isThereOn 5 = .ok (.if_icmp .lt 20, 3) := by decide +kernel
theorem dX0_isThereOn_8 : decode cX0_isThereOn 8 = .ok (.iload_n 1, 1) := by decide +kernel
theorem dX0_isThereOn_9 : decode cX0_isThereOn 9 = .ok (.aload_n 0, 1) := by decide +kernel
theorem dX0_isThereOn_10 : decode cX0_isThereOn 10 = .ok (.getfield 18, 3) := by decide +kernel
theorem dX0_isThereOn_13 : decode cX0_isThereOn 13 = .ok (.aload_n 0, 1) := by decide +kernel
theorem dX0_isThereOn_14 : decode cX0_isThereOn 14 = .ok (.getfield 21, 3) := by decide +kernel
theorem dX0_isThereOn_17 : decode cX0_isThereOn 17 = .ok (.iadd, 1) := by decide +kernel
theorem dX0_isThereOn_18 : decode cX0_isThereOn 18 = .ok (.if_icmp .ge 7, 3) := by decide +kernel
theorem dX0_isThereOn_21 : decode cX0_isThereOn 21 = .ok (.iconst 1, 1) := by decide +kernel
theorem dX0_isThereOn_22 : decode cX0_isThereOn 22 = .ok (.goto 4, 3) := by decide +kernel
theorem dX0_isThereOn_25 : decode cX0_isThereOn 25 = .ok (.iconst 0, 1) := by decide +kernel
theorem dX0_isThereOn_26 : decode cX0_isThereOn 26 = .ok (.ireturn, 1) := by decide +kernel
theorem dX0_isGoneBy_0 : decode cX0_isGoneBy 0 = .ok (.iload_n 1, 1) := by decide +kernel
theorem dX0_isGoneBy_1 : decode cX0_isGoneBy 1 = .ok (.aload_n 0, 1) := by decide +kernel
theorem dX0_isGoneBy_2 : decode cX0_isGoneBy 2 = .ok (.getfield 18, 3) := by decide +kernel
theorem dX0_isGoneBy_5 : decode cX0_isGoneBy 5 = .ok (.aload_n 0, 1) := by decide +kernel
theorem dX0_isGoneBy_6 : decode cX0_isGoneBy 6 = .ok (.getfield 21, 3) := by decide +kernel
theorem dX0_isGoneBy_9 : decode cX0_isGoneBy 9 = .ok (.iadd, 1) := by decide +kernel
theorem dX0_isGoneBy_10 : decode cX0_isGoneBy 10 = .ok (.if_icmp .lt 7, 3) := by decide +kernel
theorem dX0_isGoneBy_13 : decode cX0_isGoneBy 13 = .ok (.iconst 1, 1) := by decide +kernel
theorem dX0_isGoneBy_14 : decode cX0_isGoneBy 14 = .ok (.goto 4, 3) := by decide +kernel
theorem dX0_isGoneBy_17 : decode cX0_isGoneBy 17 = .ok (.iconst 0, 1) := by decide +kernel
theorem dX0_isGoneBy_18 : decode cX0_isGoneBy 18 = .ok (.ireturn, 1) := by decide +kernel
theorem dX0_tell_0 : decode cX0_tell 0 = .ok (.iload_n 1, 1) := by decide +kernel
theorem dX0_tell_1 : decode cX0_tell 1 = .ok (.tableswitch 87 0 6 #[43, 48, 53, 58, 63, 77, 82], 43) := by decide +kernel
theorem dX0_tell_44 : decode cX0_tell 44 = .ok (.aload_n 0, 1) := by decide +kernel
theorem dX0_tell_45 : decode cX0_tell 45 = .ok (.getfield 15, 3) := by decide +kernel
theorem dX0_tell_48 : decode cX0_tell 48 = .ok (.ireturn, 1) := by decide +kernel
theorem dX0_tell_49 : decode cX0_tell 49 = .ok (.aload_n 0, 1) := by decide +kernel
theorem dX0_tell_50 : decode cX0_tell 50 = .ok (.getfield 18, 3) := by decide +kernel
theorem dX0_tell_53 : decode cX0_tell 53 = .ok (.ireturn, 1) := by decide +kernel
theorem dX0_tell_54 : decode cX0_tell 54 = .ok (.aload_n 0, 1) := by decide +kernel
theorem dX0_tell_55 : decode cX0_tell 55 = .ok (.getfield 21, 3) := by decide +kernel
theorem dX0_tell_58 : decode cX0_tell 58 = .ok (.ireturn, 1) := by decide +kernel
theorem dX0_tell_59 : decode cX0_tell 59 = .ok (.aload_n 0, 1) := by decide +kernel
theorem dX0_tell_60 : decode cX0_tell 60 = .ok (.invokevirtual 30, 3) := by decide +kernel
theorem dX0_tell_63 : decode cX0_tell 63 = .ok (.ireturn, 1) := by decide +kernel
theorem dX0_tell_64 : decode cX0_tell 64 = .ok (.aload_n 0, 1) := by decide +kernel
theorem dX0_tell_65 : decode cX0_tell 65 = .ok (.iload_n 2, 1) := by decide +kernel
theorem dX0_tell_66 : decode cX0_tell 66 = .ok (.invokevirtual 34, 3) := by decide +kernel
theorem dX0_tell_69 : decode cX0_tell 69 = .ok (.ifCond .eq 7, 3) := by decide +kernel
theorem dX0_tell_72 : decode cX0_tell 72 = .ok (.iconst 1, 1) := by decide +kernel
theorem dX0_tell_73 : decode cX0_tell 73 = .ok (.goto 4, 3) := by decide +kernel
theorem dX0_tell_76 : decode cX0_tell 76 = .ok (.iconst 0, 1) := by decide +kernel
theorem dX0_tell_77 : decode cX0_tell 77 = .ok (.ireturn, 1) := by decide +kernel
theorem dX0_tell_78 : decode cX0_tell 78 = .ok (.aload_n 0, 1) := by decide +kernel
theorem dX0_tell_79 : decode cX0_tell 79 = .ok (.getfield 24, 3) := by decide +kernel
theorem dX0_tell_82 : decode cX0_tell 82 = .ok (.ireturn, 1) := by decide +kernel
theorem dX0_tell_83 : decode cX0_tell 83 = .ok (.aload_n 0, 1) := by decide +kernel
theorem dX0_tell_84 : decode cX0_tell 84 = .ok (.getfield 27, 3) := by decide +kernel
theorem dX0_tell_87 : decode cX0_tell 87 = .ok (.ireturn, 1) := by decide +kernel
theorem dX0_tell_88 : decode cX0_tell 88 = .ok (.ldc 38, 2) := by decide +kernel
theorem dX0_tell_90 : decode cX0_tell 90 = .ok (.ireturn, 1) := by decide +kernel
theorem dX1_init_0 : decode cX1_init 0 = .ok (.aload_n 0, 1) := by decide +kernel
theorem dX1_init_1 : decode cX1_init 1 = .ok (.invokespecial 3, 3) := by decide +kernel
theorem dX1_init_4 : decode cX1_init 4 = .ok (.aload_n 0, 1) := by decide +kernel
theorem dX1_init_5 : decode cX1_init 5 = .ok (.iconst 4, 1) := by decide +kernel
theorem dX1_init_6 : decode cX1_init 6 = .ok (.anewarray 9, 3) := by decide +kernel
theorem dX1_init_9 : decode cX1_init 9 = .ok (.putfield 11, 3) := by decide +kernel
theorem dX1_init_12 : decode cX1_init 12 = .ok (.iconst 0, 1) := by decide +kernel
theorem dX1_init_13 : decode cX1_init 13 = .ok (.istore_n 1, 1) := by decide +kernel
theorem dX1_init_14 : decode cX1_init 14 = .ok (.iload_n 1, 1) := by decide +kernel
theorem dX1_init_15 : decode cX1_init 15 = .ok (.aload_n 0, 1) := by decide +kernel
theorem dX1_init_16 : decode cX1_init 16 = .ok (.getfield 11, 3) := by decide +kernel
theorem dX1_init_19 : decode cX1_init 19 = .ok (.arraylength, 1) := by decide +kernel
theorem dX1_init_20 : decode cX1_init 20 = .ok (.if_icmp .ge 22, 3) := by decide +kernel
theorem dX1_init_23 : decode cX1_init 23 = .ok (.aload_n 0, 1) := by decide +kernel
theorem dX1_init_24 : decode cX1_init 24 = .ok (.getfield 11, 3) := by decide +kernel
theorem dX1_init_27 : decode cX1_init 27 = .ok (.iload_n 1, 1) := by decide +kernel
theorem dX1_init_28 : decode cX1_init 28 = .ok (.new 9, 3) := by decide +kernel
theorem dX1_init_31 : decode cX1_init 31 = .ok (.dup, 1) := by decide +kernel
theorem dX1_init_32 : decode cX1_init 32 = .ok (.invokespecial 17, 3) := by decide +kernel
theorem dX1_init_35 : decode cX1_init 35 = .ok (.aastore, 1) := by decide +kernel
theorem dX1_init_36 : decode cX1_init 36 = .ok (.iinc 1 1, 3) := by decide +kernel
theorem dX1_init_39 : decode cX1_init 39 = .ok (.goto (-25), 3) := by decide +kernel
theorem dX1_init_42 : decode cX1_init 42 = .ok (.return_, 1) := by decide +kernel
theorem dX1_keep_0 : decode cX1_keep 0 = .ok (.aload_n 0, 1) := by decide +kernel
theorem dX1_keep_1 : decode cX1_keep 1 = .ok (.getfield 18, 3) := by decide +kernel
theorem dX1_keep_4 : decode cX1_keep 4 = .ok (.aload_n 0, 1) := by decide +kernel
theorem dX1_keep_5 : decode cX1_keep 5 = .ok (.getfield 11, 3) := by decide +kernel
theorem dX1_keep_8 : decode cX1_keep 8 = .ok (.arraylength, 1) := by decide +kernel
theorem dX1_keep_9 : decode cX1_keep 9 = .ok (.if_icmp .lt 7, 3) := by decide +kernel
theorem dX1_keep_12 : decode cX1_keep 12 = .ok (.aload_n 0, 1) := by decide +kernel
theorem dX1_keep_13 : decode cX1_keep 13 = .ok (.invokevirtual 22, 3) := by decide +kernel
theorem dX1_keep_16 : decode cX1_keep 16 = .ok (.aload_n 0, 1) := by decide +kernel
theorem dX1_keep_17 : decode cX1_keep 17 = .ok (.getfield 18, 3) := by decide +kernel
theorem dX1_keep_20 : decode cX1_keep 20 = .ok (.ifCond .lt 15, 3) := by decide +kernel
theorem dX1_keep_23 : decode cX1_keep 23 = .ok (.aload_n 0, 1) := by decide +kernel
theorem dX1_keep_24 : decode cX1_keep 24 = .ok (.getfield 18, 3) := by decide +kernel
theorem dX1_keep_27 : decode cX1_keep 27 = .ok (.aload_n 0, 1) := by decide +kernel
theorem dX1_keep_28 : decode cX1_keep 28 = .ok (.getfield 11, 3) := by decide +kernel
theorem dX1_keep_31 : decode cX1_keep 31 = .ok (.arraylength, 1) := by decide +kernel
theorem dX1_keep_32 : decode cX1_keep 32 = .ok (.if_icmp .lt 4, 3) := by decide +kernel
theorem dX1_keep_35 : decode cX1_keep 35 = .ok (.return_, 1) := by decide +kernel
theorem dX1_keep_36 : decode cX1_keep 36 = .ok (.aload_n 0, 1) := by decide +kernel
theorem dX1_keep_37 : decode cX1_keep 37 = .ok (.getfield 11, 3) := by decide +kernel
theorem dX1_keep_40 : decode cX1_keep 40 = .ok (.aload_n 0, 1) := by decide +kernel
theorem dX1_keep_41 : decode cX1_keep 41 = .ok (.getfield 18, 3) := by decide +kernel
theorem dX1_keep_44 : decode cX1_keep 44 = .ok (.aaload, 1) := by decide +kernel
theorem dX1_keep_45 : decode cX1_keep 45 = .ok (.astore_n 2, 1) := by decide +kernel
theorem dX1_keep_46 : decode cX1_keep 46 = .ok (.aload_n 2, 1) := by decide +kernel
theorem dX1_keep_47 : decode cX1_keep 47 = .ok (.ifnull 18, 3) := by decide +kernel
theorem dX1_keep_50 : decode cX1_keep 50 = .ok (.aload_n 2, 1) := by decide +kernel
theorem dX1_keep_51 : decode cX1_keep 51 = .ok (.aload_n 1, 1) := by decide +kernel
theorem dX1_keep_52 : decode cX1_keep 52 = .ok (.invokevirtual 25, 3) := by decide +kernel
theorem dX1_keep_55 : decode cX1_keep 55 = .ok (.aload_n 0, 1) := by decide +kernel
theorem dX1_keep_56 : decode cX1_keep 56 = .ok (.dup, 1) := by decide +kernel
theorem dX1_keep_57 : decode cX1_keep 57 = .ok (.getfield 18, 3) := by decide +kernel
theorem dX1_keep_60 : decode cX1_keep 60 = .ok (.iconst 1, 1) := by decide +kernel
theorem dX1_keep_61 : decode cX1_keep 61 = .ok (.iadd, 1) := by decide +kernel
theorem dX1_keep_62 : decode cX1_keep 62 = .ok (.putfield 18, 3) := by decide +kernel
theorem dX1_keep_65 : decode cX1_keep 65 = .ok (.return_, 1) := by decide +kernel
theorem dX1_dropOldest_0 : decode cX1_dropOldest 0 = .ok (.iconst 1, 1) := by decide +kernel
theorem dX1_dropOldest_1 : decode cX1_dropOldest 1 = .ok (.istore_n 1, 1) := by decide +kernel
theorem dX1_dropOldest_2 : decode cX1_dropOldest 2 = .ok (.iload_n 1, 1) := by decide +kernel
theorem dX1_dropOldest_3 : decode cX1_dropOldest 3 = .ok (.aload_n 0, 1) := by decide +kernel
theorem dX1_dropOldest_4 : decode cX1_dropOldest 4 = .ok (.getfield 11, 3) := by decide +kernel
theorem dX1_dropOldest_7 : decode cX1_dropOldest 7 = .ok (.arraylength, 1) := by decide +kernel
theorem dX1_dropOldest_8 : decode cX1_dropOldest 8 = .ok (.if_icmp .ge 39, 3) := by decide +kernel
theorem dX1_dropOldest_11 : decode cX1_dropOldest 11 = .ok (.aload_n 0, 1) := by decide +kernel
theorem dX1_dropOldest_12 : decode cX1_dropOldest 12 = .ok (.getfield 11, 3) := by decide +kernel
theorem dX1_dropOldest_15 : decode cX1_dropOldest 15 = .ok (.iload_n 1, 1) := by decide +kernel
theorem dX1_dropOldest_16 : decode cX1_dropOldest 16 = .ok (.aaload, 1) := by decide +kernel
theorem dX1_dropOldest_17 : decode cX1_dropOldest 17 = .ok (.astore_n 2, 1) := by decide +kernel
theorem dX1_dropOldest_18 : decode cX1_dropOldest 18 = .ok (.aload_n 0, 1) := by decide +kernel
theorem dX1_dropOldest_19 : decode cX1_dropOldest 19 = .ok (.getfield 11, 3) := by decide +kernel
theorem dX1_dropOldest_22 : decode cX1_dropOldest 22 = .ok (.iload_n 1, 1) := by decide +kernel
theorem dX1_dropOldest_23 : decode cX1_dropOldest 23 = .ok (.aload_n 0, 1) := by decide +kernel
theorem dX1_dropOldest_24 : decode cX1_dropOldest 24 = .ok (.getfield 11, 3) := by decide +kernel
theorem dX1_dropOldest_27 : decode cX1_dropOldest 27 = .ok (.iload_n 1, 1) := by decide +kernel
theorem dX1_dropOldest_28 : decode cX1_dropOldest 28 = .ok (.iconst 1, 1) := by decide +kernel
theorem dX1_dropOldest_29 : decode cX1_dropOldest 29 = .ok (.isub, 1) := by decide +kernel
theorem dX1_dropOldest_30 : decode cX1_dropOldest 30 = .ok (.aaload, 1) := by decide +kernel
theorem dX1_dropOldest_31 : decode cX1_dropOldest 31 = .ok (.aastore, 1) := by decide +kernel
theorem dX1_dropOldest_32 : decode cX1_dropOldest 32 = .ok (.aload_n 0, 1) := by decide +kernel
theorem dX1_dropOldest_33 : decode cX1_dropOldest 33 = .ok (.getfield 11, 3) := by decide +kernel
theorem dX1_dropOldest_36 : decode cX1_dropOldest 36 = .ok (.iload_n 1, 1) := by decide +kernel
theorem dX1_dropOldest_37 : decode cX1_dropOldest 37 = .ok (.iconst 1, 1) := by decide +kernel
theorem dX1_dropOldest_38 : decode cX1_dropOldest 38 = .ok (.isub, 1) := by decide +kernel
theorem dX1_dropOldest_39 : decode cX1_dropOldest 39 = .ok (.aload_n 2, 1) := by decide +kernel
theorem dX1_dropOldest_40 : decode cX1_dropOldest 40 = .ok (.aastore, 1) := by decide +kernel
theorem dX1_dropOldest_41 : decode cX1_dropOldest 41 = .ok (.iinc 1 1, 3) := by decide +kernel
theorem dX1_dropOldest_44 : decode cX1_dropOldest 44 = .ok (.goto (-42), 3) := by decide +kernel
theorem dX1_dropOldest_47 : decode cX1_dropOldest 47 = .ok (.aload_n 0, 1) := by decide +kernel
theorem dX1_dropOldest_48 : decode cX1_dropOldest 48 = .ok (.dup, 1) := by decide +kernel
theorem dX1_dropOldest_49 : decode cX1_dropOldest 49 = .ok (.getfield 18, 3) := by decide +kernel
theorem dX1_dropOldest_52 : decode cX1_dropOldest 52 = .ok (.iconst 1, 1) := by decide +kernel
theorem dX1_dropOldest_53 : decode cX1_dropOldest 53 = .ok (.isub, 1) := by decide +kernel
theorem dX1_dropOldest_54 : decode cX1_dropOldest 54 = .ok (.putfield 18, 3) := by decide +kernel
theorem dX1_dropOldest_57 : decode cX1_dropOldest 57 = .ok (.return_, 1) := by decide +kernel
theorem dX2_init_0 : decode cX2_init 0 = .ok (.aload_n 0, 1) := by decide +kernel
theorem dX2_init_1 : decode cX2_init 1 = .ok (.invokespecial 3, 3) := by decide +kernel
theorem dX2_init_4 : decode cX2_init 4 = .ok (.aload_n 0, 1) := by decide +kernel
theorem dX2_init_5 : decode cX2_init 5 = .ok (.iconst 4, 1) := by decide +kernel
theorem dX2_init_6 : decode cX2_init 6 = .ok (.anewarray 9, 3) := by decide +kernel
theorem dX2_init_9 : decode cX2_init 9 = .ok (.putfield 11, 3) := by decide +kernel
theorem dX2_init_12 : decode cX2_init 12 = .ok (.aload_n 0, 1) := by decide +kernel
theorem dX2_init_13 : decode cX2_init 13 = .ok (.bipush 10, 2) := by decide +kernel
theorem dX2_init_15 : decode cX2_init 15 = .ok (.anewarray 17, 3) := by decide +kernel
theorem dX2_init_18 : decode cX2_init 18 = .ok (.putfield 19, 3) := by decide +kernel
theorem dX2_init_21 : decode cX2_init 21 = .ok (.aload_n 0, 1) := by decide +kernel
theorem dX2_init_22 : decode cX2_init 22 = .ok (.new 23, 3) := by decide +kernel
theorem dX2_init_25 : decode cX2_init 25 = .ok (.dup, 1) := by decide +kernel
theorem dX2_init_26 : decode cX2_init 26 = .ok (.invokespecial 25, 3) := by decide +kernel
theorem dX2_init_29 : decode cX2_init 29 = .ok (.putfield 26, 3) := by decide +kernel
theorem dX2_init_32 : decode cX2_init 32 = .ok (.aload_n 0, 1) := by decide +kernel
theorem dX2_init_33 : decode cX2_init 33 = .ok (.new 30, 3) := by decide +kernel
theorem dX2_init_36 : decode cX2_init 36 = .ok (.dup, 1) := by decide +kernel
theorem dX2_init_37 : decode cX2_init 37 = .ok (.invokespecial 32, 3) := by decide +kernel
theorem dX2_init_40 : decode cX2_init 40 = .ok (.putfield 33, 3) := by decide +kernel
theorem dX2_init_43 : decode cX2_init 43 = .ok (.aload_n 0, 1) := by decide +kernel
theorem dX2_init_44 : decode cX2_init 44 = .ok (.new 37, 3) := by decide +kernel
theorem dX2_init_47 : decode cX2_init 47 = .ok (.dup, 1) := by decide +kernel
theorem dX2_init_48 : decode cX2_init 48 = .ok (.invokespecial 39, 3) := by decide +kernel
theorem dX2_init_51 : decode cX2_init 51 = .ok (.putfield 40, 3) := by decide +kernel
theorem dX2_init_54 : decode cX2_init 54 = .ok (.aload_n 0, 1) := by decide +kernel
theorem dX2_init_55 : decode cX2_init 55 = .ok (.iconst 1, 1) := by decide +kernel
theorem dX2_init_56 : decode cX2_init 56 = .ok (.putfield 44, 3) := by decide +kernel
theorem dX2_init_59 : decode cX2_init 59 = .ok (.iconst 0, 1) := by decide +kernel
theorem dX2_init_60 : decode cX2_init 60 = .ok (.istore_n 1, 1) := by decide +kernel
theorem dX2_init_61 : decode cX2_init 61 = .ok (.iload_n 1, 1) := by decide +kernel
theorem dX2_init_62 : decode cX2_init 62 = .ok (.aload_n 0, 1) := by decide +kernel
theorem dX2_init_63 : decode cX2_init 63 = .ok (.getfield 11, 3) := by decide +kernel
theorem dX2_init_66 : decode cX2_init 66 = .ok (.arraylength, 1) := by decide +kernel
theorem dX2_init_67 : decode cX2_init 67 = .ok (.if_icmp .ge 22, 3) := by decide +kernel
theorem dX2_init_70 : decode cX2_init 70 = .ok (.aload_n 0, 1) := by decide +kernel
theorem dX2_init_71 : decode cX2_init 71 = .ok (.getfield 11, 3) := by decide +kernel
theorem dX2_init_74 : decode cX2_init 74 = .ok (.iload_n 1, 1) := by decide +kernel
theorem dX2_init_75 : decode cX2_init 75 = .ok (.new 9, 3) := by decide +kernel
theorem dX2_init_78 : decode cX2_init 78 = .ok (.dup, 1) := by decide +kernel
theorem dX2_init_79 : decode cX2_init 79 = .ok (.invokespecial 48, 3) := by decide +kernel
theorem dX2_init_82 : decode cX2_init 82 = .ok (.aastore, 1) := by decide +kernel
theorem dX2_init_83 : decode cX2_init 83 = .ok (.iinc 1 1, 3) := by decide +kernel
theorem dX2_init_86 : decode cX2_init 86 = .ok (.goto (-25), 3) := by decide +kernel
theorem dX2_init_89 : decode cX2_init 89 = .ok (.iconst 0, 1) := by decide +kernel
theorem dX2_init_90 : decode cX2_init 90 = .ok (.istore_n 1, 1) := by decide +kernel
theorem dX2_init_91 : decode cX2_init 91 = .ok (.iload_n 1, 1) := by decide +kernel
theorem dX2_init_92 : decode cX2_init 92 = .ok (.aload_n 0, 1) := by decide +kernel
theorem dX2_init_93 : decode cX2_init 93 = .ok (.getfield 19, 3) := by decide +kernel
theorem dX2_init_96 : decode cX2_init 96 = .ok (.arraylength, 1) := by decide +kernel
theorem dX2_init_97 : decode cX2_init 97 = .ok (.if_icmp .ge 22, 3) := by decide +kernel
theorem dX2_init_100 : decode cX2_init 100 = .ok (.aload_n 0, 1) := by decide +kernel
theorem dX2_init_101 : decode cX2_init 101 = .ok (.getfield 19, 3) := by decide +kernel
theorem dX2_init_104 : decode cX2_init 104 = .ok (.iload_n 1, 1) := by decide +kernel
theorem dX2_init_105 : decode cX2_init 105 = .ok (.new 17, 3) := by decide +kernel
theorem dX2_init_108 : decode cX2_init 108 = .ok (.dup, 1) := by decide +kernel
theorem dX2_init_109 : decode cX2_init 109 = .ok (.invokespecial 49, 3) := by decide +kernel
theorem dX2_init_112 : decode cX2_init 112 = .ok (.aastore, 1) := by decide +kernel
theorem dX2_init_113 : decode cX2_init 113 = .ok (.iinc 1 1, 3) := by decide +kernel
theorem dX2_init_116 : decode cX2_init 116 = .ok (.goto (-25), 3) := by decide +kernel
theorem dX2_init_119 : decode cX2_init 119 = .ok (.return_, 1) := by decide +kernel
theorem dX2_copyFrom_0 : decode cX2_copyFrom 0 = .ok (.aload_n 0, 1) := by decide +kernel
theorem dX2_copyFrom_1 : decode cX2_copyFrom 1 = .ok (.aload_n 1, 1) := by decide +kernel
theorem dX2_copyFrom_2 : decode cX2_copyFrom 2 = .ok (.getfield 50, 3) := by decide +kernel
theorem dX2_copyFrom_5 : decode cX2_copyFrom 5 = .ok (.putfield 50, 3) := by decide +kernel
theorem dX2_copyFrom_8 : decode cX2_copyFrom 8 = .ok (.aload_n 0, 1) := by decide +kernel
theorem dX2_copyFrom_9 : decode cX2_copyFrom 9 = .ok (.aload_n 1, 1) := by decide +kernel
theorem dX2_copyFrom_10 : decode cX2_copyFrom 10 = .ok (.getfield 53, 3) := by decide +kernel
theorem dX2_copyFrom_13 : decode cX2_copyFrom 13 = .ok (.putfield 53, 3) := by decide +kernel
theorem dX2_copyFrom_16 : decode cX2_copyFrom 16 = .ok (.aload_n 0, 1) := by decide +kernel
theorem dX2_copyFrom_17 : decode cX2_copyFrom 17 = .ok (.aload_n 1, 1) := by decide +kernel
theorem dX2_copyFrom_18 : decode cX2_copyFrom 18 = .ok (.getfield 56, 3) := by decide +kernel
theorem dX2_copyFrom_21 : decode cX2_copyFrom 21 = .ok (.putfield 56, 3) := by decide +kernel
theorem dX2_copyFrom_24 : decode cX2_copyFrom 24 = .ok (.aload_n 0, 1) := by decide +kernel
theorem dX2_copyFrom_25 : decode cX2_copyFrom 25 = .ok (.aload_n 1, 1) := by decide +kernel
theorem dX2_copyFrom_26 : decode cX2_copyFrom 26 = .ok (.getfield 59, 3) := by decide +kernel
theorem dX2_copyFrom_29 : decode cX2_copyFrom 29 = .ok (.putfield 59, 3) := by decide +kernel
theorem dX2_copyFrom_32 : decode cX2_copyFrom 32 = .ok (.aload_n 0, 1) := by decide +kernel
theorem dX2_copyFrom_33 : decode cX2_copyFrom 33 = .ok (.aload_n 1, 1) := by decide +kernel
theorem dX2_copyFrom_34 : decode cX2_copyFrom 34 = .ok (.getfield 44, 3) := by decide +kernel
theorem dX2_copyFrom_37 : decode cX2_copyFrom 37 = .ok (.putfield 44, 3) := by decide +kernel
theorem dX2_copyFrom_40 : decode cX2_copyFrom 40 = .ok (.aload_n 0, 1) := by decide +kernel
theorem dX2_copyFrom_41 : decode cX2_copyFrom 41 = .ok (.getfield 26, 3) := by decide +kernel
theorem dX2_copyFrom_44 : decode cX2_copyFrom 44 = .ok (.aload_n 1, 1) := by decide +kernel
theorem dX2_copyFrom_45 : decode cX2_copyFrom 45 = .ok (.getfield 26, 3) := by decide +kernel
theorem dX2_copyFrom_48 : decode cX2_copyFrom 48 = .ok (.invokevirtual 62, 3) := by decide +kernel
theorem dX2_copyFrom_51 : decode cX2_copyFrom 51 = .ok (.aload_n 0, 1) := by decide +kernel
theorem dX2_copyFrom_52 : decode cX2_copyFrom 52 = .ok (.getfield 33, 3) := by decide +kernel
theorem dX2_copyFrom_55 : decode cX2_copyFrom 55 = .ok (.aload_n 1, 1) := by decide +kernel
theorem dX2_copyFrom_56 : decode cX2_copyFrom 56 = .ok (.getfield 33, 3) := by decide +kernel
theorem dX2_copyFrom_59 : decode cX2_copyFrom 59 = .ok (.invokevirtual 66, 3) := by decide +kernel
theorem dX2_copyFrom_62 : decode cX2_copyFrom 62 = .ok (.aload_n 0, 1) := by decide +kernel
theorem dX2_copyFrom_63 : decode cX2_copyFrom 63 = .ok (.getfield 40, 3) := by decide +kernel
theorem dX2_copyFrom_66 : decode cX2_copyFrom 66 = .ok (.aload_n 1, 1) := by decide +kernel
theorem dX2_copyFrom_67 : decode cX2_copyFrom 67 = .ok (.getfield 40, 3) := by decide +kernel
theorem dX2_copyFrom_70 : decode cX2_copyFrom 70 = .ok (.invokevirtual 69, 3) := by decide +kernel
theorem dX2_copyFrom_73 : decode cX2_copyFrom 73 = .ok (.iconst 0, 1) := by decide +kernel
theorem dX2_copyFrom_74 : decode cX2_copyFrom 74 = .ok (.istore_n 2, 1) := by decide +kernel
theorem dX2_copyFrom_75 : decode cX2_copyFrom 75 = .ok (.iload_n 2, 1) := by decide +kernel
theorem dX2_copyFrom_76 : decode cX2_copyFrom 76 = .ok (.aload_n 0, 1) := by decide +kernel
theorem dX2_copyFrom_77 : decode cX2_copyFrom 77 = .ok (.getfield 50, 3) := by decide +kernel
theorem dX2_copyFrom_80 : decode cX2_copyFrom 80 = .ok (.if_icmp .ge 37, 3) := by decide +kernel
theorem dX2_copyFrom_83 : decode cX2_copyFrom 83 = .ok (.aload_n 0, 1) := by decide +kernel
theorem dX2_copyFrom_84 : decode cX2_copyFrom 84 = .ok (.iload_n 2, 1) := by decide +kernel
theorem dX2_copyFrom_85 : decode cX2_copyFrom 85 = .ok (.invokevirtual 72, 3) := by decide +kernel
theorem dX2_copyFrom_88 : decode cX2_copyFrom 88 = .ok (.astore_n 3, 1) := by decide +kernel
theorem dX2_copyFrom_89 : decode cX2_copyFrom 89 = .ok (.aload_n 1, 1) := by decide +kernel
theorem dX2_copyFrom_90 : decode cX2_copyFrom 90 = .ok (.iload_n 2, 1) := by decide +kernel
theorem dX2_copyFrom_91 : decode cX2_copyFrom 91 = .ok (.invokevirtual 72, 3) := by decide +kernel
theorem dX2_copyFrom_94 : decode cX2_copyFrom 94 = .ok (.astore 4, 2) := by decide +kernel
theorem dX2_copyFrom_96 : decode cX2_copyFrom 96 = .ok (.aload_n 3, 1) := by decide +kernel
theorem dX2_copyFrom_97 : decode cX2_copyFrom 97 = .ok (.ifnull 14, 3) := by decide +kernel
theorem dX2_copyFrom_100 : decode cX2_copyFrom 100 = .ok (.aload 4, 2) := by decide +kernel
theorem dX2_copyFrom_102 : decode cX2_copyFrom 102 = .ok (.ifnull 9, 3) := by decide +kernel
theorem dX2_copyFrom_105 : decode cX2_copyFrom 105 = .ok (.aload_n 3, 1) := by decide +kernel
theorem dX2_copyFrom_106 : decode cX2_copyFrom 106 = .ok (.aload 4, 2) := by decide +kernel
theorem dX2_copyFrom_108 : decode cX2_copyFrom 108 = .ok (.invokevirtual 76, 3) := by decide +kernel
theorem dX2_copyFrom_111 : decode cX2_copyFrom 111 = .ok (.iinc 2 1, 3) := by decide +kernel
theorem dX2_copyFrom_114 : decode cX2_copyFrom 114 = .ok (.goto (-39), 3) := by decide +kernel
theorem dX2_copyFrom_117 : decode cX2_copyFrom 117 = .ok (.iconst 0, 1) := by decide +kernel
theorem dX2_copyFrom_118 : decode cX2_copyFrom 118 = .ok (.istore_n 2, 1) := by decide +kernel
theorem dX2_copyFrom_119 : decode cX2_copyFrom 119 = .ok (.iload_n 2, 1) := by decide +kernel
theorem dX2_copyFrom_120 : decode cX2_copyFrom 120 = .ok (.aload_n 0, 1) := by decide +kernel
theorem dX2_copyFrom_121 : decode cX2_copyFrom 121 = .ok (.getfield 53, 3) := by decide +kernel
theorem dX2_copyFrom_124 : decode cX2_copyFrom 124 = .ok (.if_icmp .ge 37, 3) := by decide +kernel
theorem dX2_copyFrom_127 : decode cX2_copyFrom 127 = .ok (.aload_n 0, 1) := by decide +kernel
theorem dX2_copyFrom_128 : decode cX2_copyFrom 128 = .ok (.iload_n 2, 1) := by decide +kernel
theorem dX2_copyFrom_129 : decode cX2_copyFrom 129 = .ok (.invokevirtual 79, 3) := by decide +kernel
theorem dX2_copyFrom_132 : decode cX2_copyFrom 132 = .ok (.astore_n 3, 1) := by decide +kernel
theorem dX2_copyFrom_133 : decode cX2_copyFrom 133 = .ok (.aload_n 1, 1) := by decide +kernel
theorem dX2_copyFrom_134 : decode cX2_copyFrom 134 = .ok (.iload_n 2, 1) := by decide +kernel
theorem dX2_copyFrom_135 : decode cX2_copyFrom 135 = .ok (.invokevirtual 79, 3) := by decide +kernel
theorem dX2_copyFrom_138 : decode cX2_copyFrom 138 = .ok (.astore 4, 2) := by decide +kernel
theorem dX2_copyFrom_140 : decode cX2_copyFrom 140 = .ok (.aload_n 3, 1) := by decide +kernel
theorem dX2_copyFrom_141 : decode cX2_copyFrom 141 = .ok (.ifnull 14, 3) := by decide +kernel
theorem dX2_copyFrom_144 : decode cX2_copyFrom 144 = .ok (.aload 4, 2) := by decide +kernel
theorem dX2_copyFrom_146 : decode cX2_copyFrom 146 = .ok (.ifnull 9, 3) := by decide +kernel
theorem dX2_copyFrom_149 : decode cX2_copyFrom 149 = .ok (.aload_n 3, 1) := by decide +kernel
theorem dX2_copyFrom_150 : decode cX2_copyFrom 150 = .ok (.aload 4, 2) := by decide +kernel
theorem dX2_copyFrom_152 : decode cX2_copyFrom 152 = .ok (.invokevirtual 83, 3) := by decide +kernel
theorem dX2_copyFrom_155 : decode cX2_copyFrom 155 = .ok (.iinc 2 1, 3) := by decide +kernel
theorem dX2_copyFrom_158 : decode cX2_copyFrom 158 = .ok (.goto (-39), 3) := by decide +kernel
theorem dX2_copyFrom_161 : decode cX2_copyFrom 161 = .ok (.return_, 1) := by decide +kernel
theorem dX2_muleAt_0 : decode cX2_muleAt 0 = .ok (.iload_n 1, 1) := by decide +kernel
theorem dX2_muleAt_1 : decode cX2_muleAt 1 = .ok (.ifCond .lt 29, 3) := by decide +kernel
theorem dX2_muleAt_4 : decode cX2_muleAt 4 = .ok (.iload_n 1, 1) := by decide +kernel
theorem dX2_muleAt_5 : decode cX2_muleAt 5 = .ok (.aload_n 0, 1) := by decide +kernel
theorem dX2_muleAt_6 : decode cX2_muleAt 6 = .ok (.getfield 50, 3) := by decide +kernel
theorem dX2_muleAt_9 : decode cX2_muleAt 9 = .ok (.if_icmp .ge 21, 3) := by decide +kernel
theorem dX2_muleAt_12 : decode cX2_muleAt 12 = .ok (.iload_n 1, 1) := by decide +kernel
theorem dX2_muleAt_13 : decode cX2_muleAt 13 = .ok (.aload_n 0, 1) := by decide +kernel
theorem dX2_muleAt_14 : decode cX2_muleAt 14 = .ok (.getfield 11, 3) := by decide +kernel
theorem dX2_muleAt_17 : decode cX2_muleAt 17 = .ok (.arraylength, 1) := by decide +kernel
theorem dX2_muleAt_18 : decode cX2_muleAt 18 = .ok (.if_icmp .ge 12, 3) := by decide +kernel
theorem dX2_muleAt_21 : decode cX2_muleAt 21 = .ok (.aload_n 0, 1) := by decide +kernel
theorem dX2_muleAt_22 : decode cX2_muleAt 22 = .ok (.getfield 11, 3) := by decide +kernel
theorem dX2_muleAt_25 : decode cX2_muleAt 25 = .ok (.iload_n 1, 1) := by decide +kernel
theorem dX2_muleAt_26 : decode cX2_muleAt 26 = .ok (.aaload, 1) := by decide +kernel
theorem dX2_muleAt_27 : decode cX2_muleAt 27 = .ok (.goto 4, 3) := by decide +kernel
theorem dX2_muleAt_30 : decode cX2_muleAt 30 = .ok (.aconst_null, 1) := by decide +kernel
theorem dX2_muleAt_31 : decode cX2_muleAt 31 = .ok (.areturn, 1) := by decide +kernel
theorem dX2_groupAt_0 : decode cX2_groupAt 0 = .ok (.iload_n 1, 1) := by decide +kernel
theorem dX2_groupAt_1 : decode cX2_groupAt 1 = .ok (.ifCond .lt 29, 3) := by decide +kernel
theorem dX2_groupAt_4 : decode cX2_groupAt 4 = .ok (.iload_n 1, 1) := by decide +kernel
theorem dX2_groupAt_5 : decode cX2_groupAt 5 = .ok (.aload_n 0, 1) := by decide +kernel
theorem dX2_groupAt_6 : decode cX2_groupAt 6 = .ok (.getfield 53, 3) := by decide +kernel
theorem dX2_groupAt_9 : decode cX2_groupAt 9 = .ok (.if_icmp .ge 21, 3) := by decide +kernel
theorem dX2_groupAt_12 : decode cX2_groupAt 12 = .ok (.iload_n 1, 1) := by decide +kernel
theorem dX2_groupAt_13 : decode cX2_groupAt 13 = .ok (.aload_n 0, 1) := by decide +kernel
theorem dX2_groupAt_14 : decode cX2_groupAt 14 = .ok (.getfield 19, 3) := by decide +kernel
theorem dX2_groupAt_17 : decode cX2_groupAt 17 = .ok (.arraylength, 1) := by decide +kernel
theorem dX2_groupAt_18 : decode cX2_groupAt 18 = .ok (.if_icmp .ge 12, 3) := by decide +kernel
theorem dX2_groupAt_21 : decode cX2_groupAt 21 = .ok (.aload_n 0, 1) := by decide +kernel
theorem dX2_groupAt_22 : decode cX2_groupAt 22 = .ok (.getfield 19, 3) := by decide +kernel
theorem dX2_groupAt_25 : decode cX2_groupAt 25 = .ok (.iload_n 1, 1) := by decide +kernel
theorem dX2_groupAt_26 : decode cX2_groupAt 26 = .ok (.aaload, 1) := by decide +kernel
theorem dX2_groupAt_27 : decode cX2_groupAt 27 = .ok (.goto 4, 3) := by decide +kernel
theorem dX2_groupAt_30 : decode cX2_groupAt 30 = .ok (.aconst_null, 1) := by decide +kernel
theorem dX2_groupAt_31 : decode cX2_groupAt 31 = .ok (.areturn, 1) := by decide +kernel
theorem dX2_placeOfGroup_0 : decode cX2_placeOfGroup 0 = .ok (.iconst 0, 1) := by decide +kernel
theorem dX2_placeOfGroup_1 : decode cX2_placeOfGroup 1 = .ok (.istore_n 2, 1) := by decide +kernel
theorem dX2_placeOfGroup_2 : decode cX2_placeOfGroup 2 = .ok (.iload_n 2, 1) := by decide +kernel
theorem dX2_placeOfGroup_3 : decode cX2_placeOfGroup 3 = .ok (.aload_n 0, 1) := by decide +kernel
theorem dX2_placeOfGroup_4 : decode cX2_placeOfGroup 4 = .ok (.getfield 53, 3) := by decide +kernel
theorem dX2_placeOfGroup_7 : decode cX2_placeOfGroup 7 = .ok (.if_icmp .ge 29, 3) := by decide +kernel
theorem dX2_placeOfGroup_10 : decode cX2_placeOfGroup 10 = .ok (.aload_n 0, 1) := by decide +kernel
theorem dX2_placeOfGroup_11 : decode cX2_placeOfGroup 11 = .ok (.iload_n 2, 1) := by decide +kernel
theorem dX2_placeOfGroup_12 : decode cX2_placeOfGroup 12 = .ok (.invokevirtual 79, 3) := by decide +kernel
theorem dX2_placeOfGroup_15 : decode cX2_placeOfGroup 15 = .ok (.astore_n 3, 1) := by decide +kernel
theorem dX2_placeOfGroup_16 : decode cX2_placeOfGroup 16 = .ok (.aload_n 3, 1) := by decide +kernel
theorem dX2_placeOfGroup_17 : decode cX2_placeOfGroup 17 = .ok (.ifnull 13, 3) := by decide +kernel
theorem dX2_placeOfGroup_20 : decode cX2_placeOfGroup 20 = .ok (.aload_n 3, 1) := by decide +kernel
theorem dX2_placeOfGroup_21 : decode cX2_placeOfGroup 21 = .ok (.getfield 86, 3) := by decide +kernel
theorem dX2_placeOfGroup_24 : decode cX2_placeOfGroup 24 = .ok (.iload_n 1, 1) := by decide +kernel
theorem dX2_placeOfGroup_25 : decode cX2_placeOfGroup 25 = .ok (.if_icmp .ne 5, 3) := by decide +kernel
theorem dX2_placeOfGroup_28 : decode cX2_placeOfGroup 28 = .ok (.iload_n 2, 1) := by decide +kernel
theorem dX2_placeOfGroup_29 : decode cX2_placeOfGroup 29 = .ok (.ireturn, 1) := by decide +kernel
theorem dX2_placeOfGroup_30 : decode cX2_placeOfGroup 30 = .ok (.iinc 2 1, 3) := by decide +kernel
theorem dX2_placeOfGroup_33 : decode cX2_placeOfGroup 33 = .ok (.goto (-31), 3) := by decide +kernel
theorem dX2_placeOfGroup_36 : decode cX2_placeOfGroup 36 = .ok (.iconst (-1), 1) := by decide +kernel
theorem dX2_placeOfGroup_37 : decode cX2_placeOfGroup 37 = .ok (.ireturn, 1) := by decide +kernel
theorem dX2_addMule_0 : decode cX2_addMule 0 = .ok (.iload_n 1, 1) := by decide +kernel
theorem dX2_addMule_1 : decode cX2_addMule 1 = .ok (.iconst 1, 1) := by decide +kernel
theorem dX2_addMule_2 : decode cX2_addMule 2 = .ok (.bipush 30, 2) := by decide +kernel
theorem dX2_addMule_4 : decode cX2_addMule 4 = .ok (.invokestatic 89, 3) := by decide +kernel
theorem dX2_addMule_7 : decode cX2_addMule 7 = .ok (.ifCond .eq 13, 3) := by decide +kernel
theorem dX2_addMule_10 : decode cX2_addMule 10 = .ok (.iload_n 2, 1) := by decide +kernel
theorem dX2_addMule_11 : decode cX2_addMule 11 = .ok (.iconst 1, 1) := by decide +kernel
theorem dX2_addMule_12 : decode cX2_addMule 12 = .ok (.bipush 9, 2) := by decide +kernel
theorem dX2_addMule_14 : decode cX2_addMule 14 = .ok (.invokestatic 89, 3) := by decide +kernel
theorem dX2_addMule_17 : decode cX2_addMule 17 = .ok (.ifCond .ne 6, 3) := by decide +kernel
theorem dX2_addMule_20 : decode cX2_addMule 20 = .ok (.ldc 93, 2) := by decide +kernel
theorem dX2_addMule_22 : decode cX2_addMule 22 = .ok (.ireturn, 1) := by decide +kernel
theorem dX2_addMule_23 : decode cX2_addMule 23 = .ok (.aload_n 0, 1) := by decide +kernel
theorem dX2_addMule_24 : decode cX2_addMule 24 = .ok (.getfield 50, 3) := by decide +kernel
theorem dX2_addMule_27 : decode cX2_addMule 27 = .ok (.iconst 4, 1) := by decide +kernel
theorem dX2_addMule_28 : decode cX2_addMule 28 = .ok (.if_icmp .lt 6, 3) := by decide +kernel
theorem dX2_addMule_31 : decode cX2_addMule 31 = .ok (.ldc 94, 2) := by decide +kernel
theorem dX2_addMule_33 : decode cX2_addMule 33 = .ok (.ireturn, 1) := by decide +kernel
theorem dX2_addMule_34 : decode cX2_addMule 34 = .ok (.aload_n 0, 1) := by decide +kernel
theorem dX2_addMule_35 : decode cX2_addMule 35 = .ok (.getfield 50, 3) := by decide +kernel
theorem dX2_addMule_38 : decode cX2_addMule 38 = .ok (.istore_n 3, 1) := by decide +kernel
theorem dX2_addMule_39 : decode cX2_addMule 39 = .ok (.aload_n 0, 1) := by decide +kernel
theorem dX2_addMule_40 : decode cX2_addMule 40 = .ok (.dup, 1) := by decide +kernel
theorem dX2_addMule_41 : decode cX2_addMule 41 = .ok (.getfield 50, 3) := by decide +kernel
theorem dX2_addMule_44 : decode cX2_addMule 44 = .ok (.iconst 1, 1) := by decide +kernel
theorem dX2_addMule_45 : decode cX2_addMule 45 = .ok (.iadd, 1) := by decide +kernel
theorem dX2_addMule_46 : decode cX2_addMule 46 = .ok (.putfield 50, 3) := by decide +kernel
theorem dX2_addMule_49 : decode cX2_addMule 49 = .ok (.aload_n 0, 1) := by decide +kernel
theorem dX2_addMule_50 : decode cX2_addMule 50 = .ok (.iload_n 3, 1) := by decide +kernel
theorem dX2_addMule_51 : decode cX2_addMule 51 = .ok (.invokevirtual 72, 3) := by decide +kernel
theorem dX2_addMule_54 : decode cX2_addMule 54 = .ok (.astore 4, 2) := by decide +kernel
theorem dX2_addMule_56 : decode cX2_addMule 56 = .ok (.aload 4, 2) := by decide +kernel
theorem dX2_addMule_58 : decode cX2_addMule 58 = .ok (.ifnull 10, 3) := by decide +kernel
theorem dX2_addMule_61 : decode cX2_addMule 61 = .ok (.aload 4, 2) := by decide +kernel
theorem dX2_addMule_63 : decode cX2_addMule 63 = .ok (.iload_n 1, 1) := by decide +kernel
theorem dX2_addMule_64 : decode cX2_addMule 64 = .ok (.iload_n 2, 1) := by decide +kernel
theorem dX2_addMule_65 : decode cX2_addMule 65 = .ok (.invokevirtual 95, 3) := by decide +kernel
theorem dX2_addMule_68 : decode cX2_addMule 68 = .ok (.iload_n 3, 1) := by decide +kernel
theorem dX2_addMule_69 : decode cX2_addMule 69 = .ok (.ireturn, 1) := by decide +kernel
theorem dX2_whyNot_0 : decode cX2_whyNot 0 = .ok (.aload_n 0, 1) := by decide +kernel
theorem dX2_whyNot_1 : decode cX2_whyNot 1 = .ok (.iload_n 1, 1) := by decide +kernel
theorem dX2_whyNot_2 : decode cX2_whyNot 2 = .ok (.invokevirtual 72, 3) := by decide +kernel
theorem dX2_whyNot_5 : decode cX2_whyNot 5 = .ok (.astore_n 3, 1) := by decide +kernel
theorem dX2_whyNot_6 : decode cX2_whyNot 6 = .ok (.aload_n 3, 1) := by decide +kernel
theorem dX2_whyNot_7 : decode cX2_whyNot 7 = .ok (.ifnull 13, 3) := by decide +kernel
theorem dX2_whyNot_10 : decode cX2_whyNot 10 = .ok (.iload_n 2, 1) := by decide +kernel
theorem dX2_whyNot_11 : decode cX2_whyNot 11 = .ok (.iconst 1, 1) := by decide +kernel
theorem dX2_whyNot_12 : decode cX2_whyNot 12 = .ok (.bipush 30, 2) := by decide +kernel
theorem dX2_whyNot_14 : decode cX2_whyNot 14 = .ok (.invokestatic 89, 3) := by decide +kernel
theorem dX2_whyNot_17 : decode cX2_whyNot 17 = .ok (.ifCond .ne 6, 3) := by decide +kernel
theorem dX2_whyNot_20 : decode cX2_whyNot 20 = .ok (.ldc 93, 2) := by decide +kernel
theorem dX2_whyNot_22 : decode cX2_whyNot 22 = .ok (.ireturn, 1) := by decide +kernel
theorem dX2_whyNot_23 : decode cX2_whyNot 23 = .ok (.aload_n 3, 1) := by decide +kernel
theorem dX2_whyNot_24 : decode cX2_whyNot 24 = .ok (.getfield 99, 3) := by decide +kernel
theorem dX2_whyNot_27 : decode cX2_whyNot 27 = .ok (.ifCond .eq 5, 3) := by decide +kernel
theorem dX2_whyNot_30 : decode cX2_whyNot 30 = .ok (.iconst 1, 1) := by decide +kernel
theorem dX2_whyNot_31 : decode cX2_whyNot 31 = .ok (.ireturn, 1) := by decide +kernel
theorem dX2_whyNot_32 : decode cX2_whyNot 32 = .ok (.iload_n 2, 1) := by decide +kernel
theorem dX2_whyNot_33 : decode cX2_whyNot 33 = .ok (.aload_n 3, 1) := by decide +kernel
theorem dX2_whyNot_34 : decode cX2_whyNot 34 = .ok (.getfield 102, 3) := by decide +kernel
theorem dX2_whyNot_37 : decode cX2_whyNot 37 = .ok (.if_icmp .le 5, 3) := by decide +kernel
theorem dX2_whyNot_40 : decode cX2_whyNot 40 = .ok (.iconst 2, 1) := by decide +kernel
theorem dX2_whyNot_41 : decode cX2_whyNot 41 = .ok (.ireturn, 1) := by decide +kernel
theorem dX2_whyNot_42 : decode cX2_whyNot 42 = .ok (.aload_n 0, 1) := by decide +kernel
theorem dX2_whyNot_43 : decode cX2_whyNot 43 = .ok (.getfield 33, 3) := by decide +kernel
theorem dX2_whyNot_46 : decode cX2_whyNot 46 = .ok (.getfield 105, 3) := by decide +kernel
theorem dX2_whyNot_49 : decode cX2_whyNot 49 = .ok (.iload_n 2, 1) := by decide +kernel
theorem dX2_whyNot_50 : decode cX2_whyNot 50 = .ok (.aload_n 0, 1) := by decide +kernel
theorem dX2_whyNot_51 : decode cX2_whyNot 51 = .ok (.getfield 40, 3) := by decide +kernel
theorem dX2_whyNot_54 : decode cX2_whyNot 54 = .ok (.getfield 108, 3) := by decide +kernel
theorem dX2_whyNot_57 : decode cX2_whyNot 57 = .ok (.imul, 1) := by decide +kernel
theorem dX2_whyNot_58 : decode cX2_whyNot 58 = .ok (.iadd, 1) := by decide +kernel
theorem dX2_whyNot_59 : decode cX2_whyNot 59 = .ok (.aload_n 0, 1) := by decide +kernel
theorem dX2_whyNot_60 : decode cX2_whyNot 60 = .ok (.getfield 40, 3) := by decide +kernel
theorem dX2_whyNot_63 : decode cX2_whyNot 63 = .ok (.getfield 111, 3) := by decide +kernel
theorem dX2_whyNot_66 : decode cX2_whyNot 66 = .ok (.if_icmp .le 7, 3) := by decide +kernel
theorem dX2_whyNot_69 : decode cX2_whyNot 69 = .ok (.iconst 3, 1) := by decide +kernel
theorem dX2_whyNot_70 : decode cX2_whyNot 70 = .ok (.goto 4, 3) := by decide +kernel
theorem dX2_whyNot_73 : decode cX2_whyNot 73 = .ok (.iconst 0, 1) := by decide +kernel
theorem dX2_whyNot_74 : decode cX2_whyNot 74 = .ok (.ireturn, 1) := by decide +kernel
theorem dX2_sendMule_0 : decode cX2_sendMule 0 = .ok (.aload_n 0, 1) := by decide +kernel
theorem dX2_sendMule_1 : decode cX2_sendMule 1 = .ok (.iload_n 1, 1) := by decide +kernel
theorem dX2_sendMule_2 : decode cX2_sendMule 2 = .ok (.iload_n 2, 1) := by decide +kernel
theorem dX2_sendMule_3 : decode cX2_sendMule 3 = .ok (.invokevirtual 114, 3) := by decide +kernel
theorem dX2_sendMule_6 : decode cX2_sendMule 6 = .ok (.istore_n 3, 1) := by decide +kernel
theorem dX2_sendMule_7 : decode cX2_sendMule 7 = .ok (.iload_n 3, 1) := by decide +kernel
theorem dX2_sendMule_8 : decode cX2_sendMule 8 = .ok (.ldc 93, 2) := by decide +kernel
theorem dX2_sendMule_10 : decode cX2_sendMule 10 = .ok (.if_icmp .ne 6, 3) := by decide +kernel
theorem dX2_sendMule_13 : decode cX2_sendMule 13 = .ok (.ldc 93, 2) := by decide +kernel
theorem dX2_sendMule_15 : decode cX2_sendMule 15 = .ok (.ireturn, 1) := by decide +kernel
theorem dX2_sendMule_16 : decode cX2_sendMule 16 = .ok (.aload_n 0, 1) := by decide +kernel
theorem dX2_sendMule_17 : decode cX2_sendMule 17 = .ok (.iload_n 1, 1) := by decide +kernel
theorem dX2_sendMule_18 : decode cX2_sendMule 18 = .ok (.invokevirtual 72, 3) := by decide +kernel
theorem dX2_sendMule_21 : decode cX2_sendMule 21 = .ok (.astore 4, 2) := by decide +kernel
theorem dX2_sendMule_23 : decode cX2_sendMule 23 = .ok (.iload_n 3, 1) := by decide +kernel
theorem dX2_sendMule_24 : decode cX2_sendMule 24 = .ok (.ifCond .ne 8, 3) := by decide +kernel
theorem dX2_sendMule_27 : decode cX2_sendMule 27 = .ok (.aload 4, 2) := by decide +kernel
theorem dX2_sendMule_29 : decode cX2_sendMule 29 = .ok (.ifnonnull 6, 3) := by decide +kernel
theorem dX2_sendMule_32 : decode cX2_sendMule 32 = .ok (.ldc 118, 2) := by decide +kernel
theorem dX2_sendMule_34 : decode cX2_sendMule 34 = .ok (.ireturn, 1) := by decide +kernel
theorem dX2_sendMule_35 : decode cX2_sendMule 35 = .ok (.aload 4, 2) := by decide +kernel
theorem dX2_sendMule_37 : decode cX2_sendMule 37 = .ok (.iload_n 2, 1) := by decide +kernel
theorem dX2_sendMule_38 : decode cX2_sendMule 38 = .ok (.aload_n 0, 1) := by decide +kernel
theorem dX2_sendMule_39 : decode cX2_sendMule 39 = .ok (.getfield 59, 3) := by decide +kernel
theorem dX2_sendMule_42 : decode cX2_sendMule 42 = .ok (.invokevirtual 119, 3) := by decide +kernel
theorem dX2_sendMule_45 : decode cX2_sendMule 45 = .ok (.aload_n 0, 1) := by decide +kernel
theorem dX2_sendMule_46 : decode cX2_sendMule 46 = .ok (.getfield 33, 3) := by decide +kernel
theorem dX2_sendMule_49 : decode cX2_sendMule 49 = .ok (.dup, 1) := by decide +kernel
theorem dX2_sendMule_50 : decode cX2_sendMule 50 = .ok (.getfield 122, 3) := by decide +kernel
theorem dX2_sendMule_53 : decode cX2_sendMule 53 = .ok (.iload_n 2, 1) := by decide +kernel
theorem dX2_sendMule_54 : decode cX2_sendMule 54 = .ok (.iadd, 1) := by decide +kernel
theorem dX2_sendMule_55 : decode cX2_sendMule 55 = .ok (.putfield 122, 3) := by decide +kernel
theorem dX2_sendMule_58 : decode cX2_sendMule 58 = .ok (.aload_n 0, 1) := by decide +kernel
theorem dX2_sendMule_59 : decode cX2_sendMule 59 = .ok (.getfield 33, 3) := by decide +kernel
theorem dX2_sendMule_62 : decode cX2_sendMule 62 = .ok (.dup, 1) := by decide +kernel
theorem dX2_sendMule_63 : decode cX2_sendMule 63 = .ok (.getfield 105, 3) := by decide +kernel
theorem dX2_sendMule_66 : decode cX2_sendMule 66 = .ok (.iload_n 2, 1) := by decide +kernel
theorem dX2_sendMule_67 : decode cX2_sendMule 67 = .ok (.aload_n 0, 1) := by decide +kernel
theorem dX2_sendMule_68 : decode cX2_sendMule 68 = .ok (.getfield 40, 3) := by decide +kernel
theorem dX2_sendMule_71 : decode cX2_sendMule 71 = .ok (.getfield 108, 3) := by decide +kernel
theorem dX2_sendMule_74 : decode cX2_sendMule 74 = .ok (.imul, 1) := by decide +kernel
theorem dX2_sendMule_75 : decode cX2_sendMule 75 = .ok (.iadd, 1) := by decide +kernel
theorem dX2_sendMule_76 : decode cX2_sendMule 76 = .ok (.putfield 105, 3) := by decide +kernel
theorem dX2_sendMule_79 : decode cX2_sendMule 79 = .ok (.aload_n 0, 1) := by decide +kernel
theorem dX2_sendMule_80 : decode cX2_sendMule 80 = .ok (.getfield 33, 3) := by decide +kernel
theorem dX2_sendMule_83 : decode cX2_sendMule 83 = .ok (.getfield 105, 3) := by decide +kernel
theorem dX2_sendMule_86 : decode cX2_sendMule 86 = .ok (.ireturn, 1) := by decide +kernel
theorem dX2_restMule_0 : decode cX2_restMule 0 = .ok (.aload_n 0, 1) := by decide +kernel
theorem dX2_restMule_1 : decode cX2_restMule 1 = .ok (.iload_n 1, 1) := by decide +kernel
theorem dX2_restMule_2 : decode cX2_restMule 2 = .ok (.invokevirtual 72, 3) := by decide +kernel
theorem dX2_restMule_5 : decode cX2_restMule 5 = .ok (.astore_n 2, 1) := by decide +kernel
theorem dX2_restMule_6 : decode cX2_restMule 6 = .ok (.aload_n 2, 1) := by decide +kernel
theorem dX2_restMule_7 : decode cX2_restMule 7 = .ok (.ifnonnull 6, 3) := by decide +kernel
theorem dX2_restMule_10 : decode cX2_restMule 10 = .ok (.ldc 93, 2) := by decide +kernel
theorem dX2_restMule_12 : decode cX2_restMule 12 = .ok (.ireturn, 1) := by decide +kernel
theorem dX2_restMule_13 : decode cX2_restMule 13 = .ok (.aload_n 2, 1) := by decide +kernel
theorem dX2_restMule_14 : decode cX2_restMule 14 = .ok (.getfield 99, 3) := by decide +kernel
theorem dX2_restMule_17 : decode cX2_restMule 17 = .ok (.ifCond .eq 6, 3) := by decide +kernel
theorem dX2_restMule_20 : decode cX2_restMule 20 = .ok (.ldc 118, 2) := by decide +kernel
theorem dX2_restMule_22 : decode cX2_restMule 22 = .ok (.ireturn, 1) := by decide +kernel
theorem dX2_restMule_23 : decode cX2_restMule 23 = .ok (.aload_n 2, 1) := by decide +kernel
theorem dX2_restMule_24 : decode cX2_restMule 24 = .ok (.getfield 125, 3) := by decide +kernel
theorem dX2_restMule_27 : decode cX2_restMule 27 = .ok (.istore_n 3, 1) := by decide +kernel
theorem dX2_restMule_28 : decode cX2_restMule 28 = .ok (.aload_n 2, 1) := by decide +kernel
theorem dX2_restMule_29 : decode cX2_restMule 29 = .ok (.iconst 0, 1) := by decide +kernel
theorem dX2_restMule_30 : decode cX2_restMule 30 = .ok (.putfield 125, 3) := by decide +kernel
theorem dX2_restMule_33 : decode cX2_restMule 33 = .ok (.iload_n 3, 1) := by decide +kernel
theorem dX2_restMule_34 : decode cX2_restMule 34 = .ok (.ireturn, 1) := by decide +kernel
theorem dX2_payBaker_0 : decode cX2_payBaker 0 = .ok (.iload_n 1, 1) := by decide +kernel
theorem dX2_payBaker_1 : decode cX2_payBaker 1 = .ok (.iconst 1, 1) := by decide +kernel
theorem dX2_payBaker_2 : decode cX2_payBaker 2 = .ok (.sipush 500, 3) := by decide +kernel
theorem dX2_payBaker_5 : decode cX2_payBaker 5 = .ok (.invokestatic 89, 3) := by decide +kernel
theorem dX2_payBaker_8 : decode cX2_payBaker 8 = .ok (.ifCond .ne 6, 3) := by decide +kernel
theorem dX2_payBaker_11 : decode cX2_payBaker 11 = .ok (.ldc 93, 2) := by decide +kernel
theorem dX2_payBaker_13 : decode cX2_payBaker 13 = .ok (.ireturn, 1) := by decide +kernel
theorem dX2_payBaker_14 : decode cX2_payBaker 14 = .ok (.aload_n 0, 1) := by decide +kernel
theorem dX2_payBaker_15 : decode cX2_payBaker 15 = .ok (.getfield 33, 3) := by decide +kernel
theorem dX2_payBaker_18 : decode cX2_payBaker 18 = .ok (.getfield 128, 3) := by decide +kernel
theorem dX2_payBaker_21 : decode cX2_payBaker 21 = .ok (.iload_n 1, 1) := by decide +kernel
theorem dX2_payBaker_22 : decode cX2_payBaker 22 = .ok (.if_icmp .lt 14, 3) := by decide +kernel
theorem dX2_payBaker_25 : decode cX2_payBaker 25 = .ok (.aload_n 0, 1) := by decide +kernel
theorem dX2_payBaker_26 : decode cX2_payBaker 26 = .ok (.getfield 33, 3) := by decide +kernel
theorem dX2_payBaker_29 : decode cX2_payBaker 29 = .ok (.getfield 105, 3) := by decide +kernel
theorem dX2_payBaker_32 : decode cX2_payBaker 32 = .ok (.iload_n 1, 1) := by decide +kernel
theorem dX2_payBaker_33 : decode cX2_payBaker 33 = .ok (.if_icmp .ge 6, 3) := by decide +kernel
theorem dX2_payBaker_36 : decode cX2_payBaker 36 = .ok (.ldc 118, 2) := by decide +kernel
theorem dX2_payBaker_38 : decode cX2_payBaker 38 = .ok (.ireturn, 1) := by decide +kernel
theorem dX2_payBaker_39 : decode cX2_payBaker 39 = .ok (.aload_n 0, 1) := by decide +kernel
theorem dX2_payBaker_40 : decode cX2_payBaker 40 = .ok (.getfield 33, 3) := by decide +kernel
theorem dX2_payBaker_43 : decode cX2_payBaker 43 = .ok (.dup, 1) := by decide +kernel
theorem dX2_payBaker_44 : decode cX2_payBaker 44 = .ok (.getfield 128, 3) := by decide +kernel
theorem dX2_payBaker_47 : decode cX2_payBaker 47 = .ok (.iload_n 1, 1) := by decide +kernel
theorem dX2_payBaker_48 : decode cX2_payBaker 48 = .ok (.isub, 1) := by decide +kernel
theorem dX2_payBaker_49 : decode cX2_payBaker 49 = .ok (.putfield 128, 3) := by decide +kernel
theorem dX2_payBaker_52 : decode cX2_payBaker 52 = .ok (.aload_n 0, 1) := by decide +kernel
theorem dX2_payBaker_53 : decode cX2_payBaker 53 = .ok (.getfield 33, 3) := by decide +kernel
theorem dX2_payBaker_56 : decode cX2_payBaker 56 = .ok (.dup, 1) := by decide +kernel
theorem dX2_payBaker_57 : decode cX2_payBaker 57 = .ok (.getfield 105, 3) := by decide +kernel
theorem dX2_payBaker_60 : decode cX2_payBaker 60 = .ok (.iload_n 1, 1) := by decide +kernel
theorem dX2_payBaker_61 : decode cX2_payBaker 61 = .ok (.isub, 1) := by decide +kernel
theorem dX2_payBaker_62 : decode cX2_payBaker 62 = .ok (.putfield 105, 3) := by decide +kernel
theorem dX2_payBaker_65 : decode cX2_payBaker 65 = .ok (.aload_n 0, 1) := by decide +kernel
theorem dX2_payBaker_66 : decode cX2_payBaker 66 = .ok (.getfield 33, 3) := by decide +kernel
theorem dX2_payBaker_69 : decode cX2_payBaker 69 = .ok (.dup, 1) := by decide +kernel
theorem dX2_payBaker_70 : decode cX2_payBaker 70 = .ok (.getfield 131, 3) := by decide +kernel
theorem dX2_payBaker_73 : decode cX2_payBaker 73 = .ok (.iload_n 1, 1) := by decide +kernel
theorem dX2_payBaker_74 : decode cX2_payBaker 74 = .ok (.iadd, 1) := by decide +kernel
theorem dX2_payBaker_75 : decode cX2_payBaker 75 = .ok (.putfield 131, 3) := by decide +kernel
theorem dX2_payBaker_78 : decode cX2_payBaker 78 = .ok (.aload_n 0, 1) := by decide +kernel
theorem dX2_payBaker_79 : decode cX2_payBaker 79 = .ok (.getfield 33, 3) := by decide +kernel
theorem dX2_payBaker_82 : decode cX2_payBaker 82 = .ok (.getfield 105, 3) := by decide +kernel
theorem dX2_payBaker_85 : decode cX2_payBaker 85 = .ok (.ireturn, 1) := by decide +kernel
theorem dX2_bookGroup_0 : decode cX2_bookGroup 0 = .ok (.iload_n 1, 1) := by decide +kernel
theorem dX2_bookGroup_1 : decode cX2_bookGroup 1 = .ok (.iconst 1, 1) := by decide +kernel
theorem dX2_bookGroup_2 : decode cX2_bookGroup 2 = .ok (.bipush 12, 2) := by decide +kernel
theorem dX2_bookGroup_4 : decode cX2_bookGroup 4 = .ok (.invokestatic 89, 3) := by decide +kernel
theorem dX2_bookGroup_7 : decode cX2_bookGroup 7 = .ok (.ifCond .eq 23, 3) := by decide +kernel
theorem dX2_bookGroup_10 : decode cX2_bookGroup 10 = .ok (.iload_n 2, 1) := by decide +kernel
theorem dX2_bookGroup_11 : decode cX2_bookGroup 11 = .ok (.iconst 0, 1) := by decide +kernel
theorem dX2_bookGroup_12 : decode cX2_bookGroup 12 = .ok (.bipush 60, 2) := by decide +kernel
theorem dX2_bookGroup_14 : decode cX2_bookGroup 14 = .ok (.invokestatic 89, 3) := by decide +kernel
theorem dX2_bookGroup_17 : decode cX2_bookGroup 17 = .ok (.ifCond .eq 13, 3) := by decide +kernel
theorem dX2_bookGroup_20 : decode cX2_bookGroup 20 = .ok (.iload_n 3, 1) := by decide +kernel
theorem dX2_bookGroup_21 : decode cX2_bookGroup 21 = .ok (.iconst 1, 1) := by decide +kernel
theorem dX2_bookGroup_22 : decode cX2_bookGroup 22 = .ok (.bipush 9, 2) := by decide +kernel
theorem dX2_bookGroup_24 : decode cX2_bookGroup 24 = .ok (.invokestatic 89, 3) := by decide +kernel
theorem dX2_bookGroup_27 : decode cX2_bookGroup 27 = .ok (.ifCond .ne 6, 3) := by decide +kernel
theorem dX2_bookGroup_30 : decode cX2_bookGroup 30 = .ok (.ldc 93, 2) := by decide +kernel
theorem dX2_bookGroup_32 : decode cX2_bookGroup 32 = .ok (.ireturn, 1) := by decide +kernel
theorem dX2_bookGroup_33 : decode cX2_bookGroup 33 = .ok (.aload_n 0, 1) := by decide +kernel
theorem dX2_bookGroup_34 : decode cX2_bookGroup 34 = .ok (.getfield 53, 3) := by decide +kernel
theorem dX2_bookGroup_37 : decode cX2_bookGroup 37 = .ok (.bipush 10, 2) := by decide +kernel
theorem dX2_bookGroup_39 : decode cX2_bookGroup 39 = .ok (.if_icmp .lt 6, 3) := by decide +kernel
theorem dX2_bookGroup_42 : decode cX2_bookGroup 42 = .ok (.ldc 94, 2) := by decide +kernel
theorem dX2_bookGroup_44 : decode cX2_bookGroup 44 = .ok (.ireturn, 1) := by decide +kernel
theorem dX2_bookGroup_45 : decode cX2_bookGroup 45 = .ok (.aload_n 0, 1) := by decide +kernel
theorem dX2_bookGroup_46 : decode cX2_bookGroup 46 = .ok (.dup, 1) := by decide +kernel
theorem dX2_bookGroup_47 : decode cX2_bookGroup 47 = .ok (.getfield 53, 3) := by decide +kernel
theorem dX2_bookGroup_50 : decode cX2_bookGroup 50 = .ok (.iconst 1, 1) := by decide +kernel
theorem dX2_bookGroup_51 : decode cX2_bookGroup 51 = .ok (.iadd, 1) := by decide +kernel
theorem dX2_bookGroup_52 : decode cX2_bookGroup 52 = .ok (.putfield 53, 3) := by decide +kernel
theorem dX2_bookGroup_55 : decode cX2_bookGroup 55 = .ok (.aload_n 0, 1) := by decide +kernel
theorem dX2_bookGroup_56 : decode cX2_bookGroup 56 = .ok (.aload_n 0, 1) := by decide +kernel
theorem dX2_bookGroup_57 : decode cX2_bookGroup 57 = .ok (.getfield 53, 3) := by decide +kernel
theorem dX2_bookGroup_60 : decode cX2_bookGroup 60 = .ok (.iconst 1, 1) := by decide +kernel
theorem dX2_bookGroup_61 : decode cX2_bookGroup 61 = .ok (.isub, 1) := by decide +kernel
theorem dX2_bookGroup_62 : decode cX2_bookGroup 62 = .ok (.invokevirtual 79, 3) := by decide +kernel
theorem dX2_bookGroup_65 : decode cX2_bookGroup 65 = .ok (.astore 4, 2) := by decide +kernel
theorem dX2_bookGroup_67 : decode cX2_bookGroup 67 = .ok (.aload_n 0, 1) := by decide +kernel
theorem dX2_bookGroup_68 : decode cX2_bookGroup 68 = .ok (.getfield 56, 3) := by decide +kernel
theorem dX2_bookGroup_71 : decode cX2_bookGroup 71 = .ok (.istore 5, 2) := by decide +kernel
theorem dX2_bookGroup_73 : decode cX2_bookGroup 73 = .ok (.aload_n 0, 1) := by decide +kernel
theorem dX2_bookGroup_74 : decode cX2_bookGroup 74 = .ok (.dup, 1) := by decide +kernel
theorem dX2_bookGroup_75 : decode cX2_bookGroup 75 = .ok (.getfield 56, 3) := by decide +kernel
theorem dX2_bookGroup_78 : decode cX2_bookGroup 78 = .ok (.iconst 1, 1) := by decide +kernel
theorem dX2_bookGroup_79 : decode cX2_bookGroup 79 = .ok (.iadd, 1) := by decide +kernel
theorem dX2_bookGroup_80 : decode cX2_bookGroup 80 = .ok (.putfield 56, 3) := by decide +kernel
theorem dX2_bookGroup_83 : decode cX2_bookGroup 83 = .ok (.aload 4, 2) := by decide +kernel
theorem dX2_bookGroup_85 : decode cX2_bookGroup 85 = .ok (.ifnull 18, 3) := by decide +kernel
theorem dX2_bookGroup_88 : decode cX2_bookGroup 88 = .ok (.aload 4, 2) := by decide +kernel
theorem dX2_bookGroup_90 : decode cX2_bookGroup 90 = .ok (.iload 5, 2) := by decide +kernel
theorem dX2_bookGroup_92 : decode cX2_bookGroup 92 = .ok (.iload_n 1, 1) := by decide +kernel
theorem dX2_bookGroup_93 : decode cX2_bookGroup 93 = .ok (.aload_n 0, 1) := by decide +kernel
theorem dX2_bookGroup_94 : decode cX2_bookGroup 94 = .ok (.getfield 59, 3) := by decide +kernel
theorem dX2_bookGroup_97 : decode cX2_bookGroup 97 = .ok (.iload_n 2, 1) := by decide +kernel
theorem dX2_bookGroup_98 : decode cX2_bookGroup 98 = .ok (.iadd, 1) := by decide +kernel
theorem dX2_bookGroup_99 : decode cX2_bookGroup 99 = .ok (.iload_n 3, 1) := by decide +kernel
theorem dX2_bookGroup_100 : decode cX2_bookGroup 100 = .ok (.invokevirtual 134, 3) := by decide +kernel
theorem dX2_bookGroup_103 : decode cX2_bookGroup 103 = .ok (.iload 5, 2) := by decide +kernel
theorem dX2_bookGroup_105 : decode cX2_bookGroup 105 = .ok (.ireturn, 1) := by decide +kernel
theorem dX2_callOff_0 : decode cX2_callOff 0 = .ok (.aload_n 0, 1) := by decide +kernel
theorem dX2_callOff_1 : decode cX2_callOff 1 = .ok (.iload_n 1, 1) := by decide +kernel
theorem dX2_callOff_2 : decode cX2_callOff 2 = .ok (.invokevirtual 137, 3) := by decide +kernel
theorem dX2_callOff_5 : decode cX2_callOff 5 = .ok (.istore_n 2, 1) := by decide +kernel
theorem dX2_callOff_6 : decode cX2_callOff 6 = .ok (.iload_n 2, 1) := by decide +kernel
theorem dX2_callOff_7 : decode cX2_callOff 7 = .ok (.ifCond .ge 6, 3) := by decide +kernel
theorem dX2_callOff_10 : decode cX2_callOff 10 = .ok (.ldc 93, 2) := by decide +kernel
theorem dX2_callOff_12 : decode cX2_callOff 12 = .ok (.ireturn, 1) := by decide +kernel
theorem dX2_callOff_13 : decode cX2_callOff 13 = .ok (.aload_n 0, 1) := by decide +kernel
theorem dX2_callOff_14 : decode cX2_callOff 14 = .ok (.iload_n 2, 1) := by decide +kernel
theorem dX2_callOff_15 : decode cX2_callOff 15 = .ok (.invokevirtual 141, 3) := by decide +kernel
theorem dX2_callOff_18 : decode cX2_callOff 18 = .ok (.aload_n 0, 1) := by decide +kernel
theorem dX2_callOff_19 : decode cX2_callOff 19 = .ok (.getfield 53, 3) := by decide +kernel
theorem dX2_callOff_22 : decode cX2_callOff 22 = .ok (.ireturn, 1) := by decide +kernel
theorem dX2_removeGroup_0 : decode cX2_removeGroup 0 = .ok (.iconst 1, 1) := by decide +kernel
theorem dX2_removeGroup_1 : decode cX2_removeGroup 1 = .ok (.istore_n 2, 1) := by decide +kernel
theorem dX2_removeGroup_2 : decode cX2_removeGroup 2 = .ok (.iload_n 2, 1) := by decide +kernel
theorem dX2_removeGroup_3 : decode cX2_removeGroup 3 = .ok (.aload_n 0, 1) := by decide +kernel
theorem dX2_removeGroup_4 : decode cX2_removeGroup 4 = .ok (.getfield 19, 3) := by decide +kernel
theorem dX2_removeGroup_7 : decode cX2_removeGroup 7 = .ok (.arraylength, 1) := by decide +kernel
theorem dX2_removeGroup_8 : decode cX2_removeGroup 8 = .ok (.if_icmp .ge 44, 3) := by decide +kernel
theorem dX2_removeGroup_11 : decode cX2_removeGroup 11 = .ok (.iload_n 2, 1) := by decide +kernel
theorem dX2_removeGroup_12 : decode cX2_removeGroup 12 = .ok (.iload_n 1, 1) := by decide +kernel
theorem dX2_removeGroup_13 : decode cX2_removeGroup 13 = .ok (.if_icmp .le 33, 3) := by decide +kernel
theorem dX2_removeGroup_16 : decode cX2_removeGroup 16 = .ok (.aload_n 0, 1) := by decide +kernel
theorem dX2_removeGroup_17 : decode cX2_removeGroup 17 = .ok (.getfield 19, 3) := by decide +kernel
theorem dX2_removeGroup_20 : decode cX2_removeGroup 20 = .ok (.iload_n 2, 1) := by decide +kernel
theorem dX2_removeGroup_21 : decode cX2_removeGroup 21 = .ok (.aaload, 1) := by decide +kernel
theorem dX2_removeGroup_22 : decode cX2_removeGroup 22 = .ok (.astore_n 3, 1) := by decide +kernel
theorem dX2_removeGroup_23 : decode cX2_removeGroup 23 = .ok (.aload_n 0, 1) := by decide +kernel
theorem dX2_removeGroup_24 : decode cX2_removeGroup 24 = .ok (.getfield 19, 3) := by decide +kernel
theorem dX2_removeGroup_27 : decode cX2_removeGroup 27 = .ok (.iload_n 2, 1) := by decide +kernel
theorem dX2_removeGroup_28 : decode cX2_removeGroup 28 = .ok (.aload_n 0, 1) := by decide +kernel
theorem dX2_removeGroup_29 : decode cX2_removeGroup 29 = .ok (.getfield 19, 3) := by decide +kernel
theorem dX2_removeGroup_32 : decode cX2_removeGroup 32 = .ok (.iload_n 2, 1) := by decide +kernel
theorem dX2_removeGroup_33 : decode cX2_removeGroup 33 = .ok (.iconst 1, 1) := by decide +kernel
theorem dX2_removeGroup_34 : decode cX2_removeGroup 34 = .ok (.isub, 1) := by decide +kernel
theorem dX2_removeGroup_35 : decode cX2_removeGroup 35 = .ok (.aaload, 1) := by decide +kernel
theorem dX2_removeGroup_36 : decode cX2_removeGroup 36 = .ok (.aastore, 1) := by decide +kernel
theorem dX2_removeGroup_37 : decode cX2_removeGroup 37 = .ok (.aload_n 0, 1) := by decide +kernel
theorem dX2_removeGroup_38 : decode cX2_removeGroup 38 = .ok (.getfield 19, 3) := by decide +kernel
theorem dX2_removeGroup_41 : decode cX2_removeGroup 41 = .ok (.iload_n 2, 1) := by decide +kernel
theorem dX2_removeGroup_42 : decode cX2_removeGroup 42 = .ok (.iconst 1, 1) := by decide +kernel
theorem dX2_removeGroup_43 : decode cX2_removeGroup 43 = .ok (.isub, 1) := by decide +kernel
theorem dX2_removeGroup_44 : decode cX2_removeGroup 44 = .ok (.aload_n 3, 1) := by decide +kernel
theorem dX2_removeGroup_45 : decode cX2_removeGroup 45 = .ok (.aastore, 1) := by decide +kernel
theorem dX2_removeGroup_46 : decode cX2_removeGroup 46 = .ok (.iinc 2 1, 3) := by decide +kernel
theorem dX2_removeGroup_49 : decode cX2_removeGroup 49 = .ok (.goto (-47), 3) := by decide +kernel
theorem dX2_removeGroup_52 : decode cX2_removeGroup 52 = .ok (.aload_n 0, 1) := by decide +kernel
theorem dX2_removeGroup_53 : decode cX2_removeGroup 53 = .ok (.dup, 1) := by decide +kernel
theorem dX2_removeGroup_54 : decode cX2_removeGroup 54 = .ok (.getfield 53, 3) := by decide +kernel
theorem dX2_removeGroup_57 : decode cX2_removeGroup 57 = .ok (.iconst 1, 1) := by decide +kernel
theorem dX2_removeGroup_58 : decode cX2_removeGroup 58 = .ok (.isub, 1) := by decide +kernel
theorem dX2_removeGroup_59 : decode cX2_removeGroup 59 = .ok (.putfield 53, 3) := by decide +kernel
theorem dX2_removeGroup_62 : decode cX2_removeGroup 62 = .ok (.return_, 1) := by decide +kernel
theorem dX2_endDays_0 : decode cX2_endDays 0 = .ok (.iload_n 1, 1) := by decide +kernel
theorem dX2_endDays_1 : decode cX2_endDays 1 = .ok (.iconst 1, 1) := by decide +kernel
theorem dX2_endDays_2 : decode cX2_endDays 2 = .ok (.bipush 60, 2) := by decide +kernel
theorem dX2_endDays_4 : decode cX2_endDays 4 = .ok (.invokestatic 89, 3) := by decide +kernel
theorem dX2_endDays_7 : decode cX2_endDays 7 = .ok (.ifCond .ne 6, 3) := by decide +kernel
theorem dX2_endDays_10 : decode cX2_endDays 10 = .ok (.ldc 93, 2) := by decide +kernel
theorem dX2_endDays_12 : decode cX2_endDays 12 = .ok (.ireturn, 1) := by decide +kernel
theorem dX2_endDays_13 : decode cX2_endDays 13 = .ok (.aload_n 0, 1) := by decide +kernel
theorem dX2_endDays_14 : decode cX2_endDays 14 = .ok (.getfield 59, 3) := by decide +kernel
theorem dX2_endDays_17 : decode cX2_endDays 17 = .ok (.iload_n 1, 1) := by decide +kernel
theorem dX2_endDays_18 : decode cX2_endDays 18 = .ok (.iadd, 1) := by decide +kernel
theorem dX2_endDays_19 : decode cX2_endDays 19 = .ok (.sipush 9999, 3) := by decide +kernel
theorem dX2_endDays_22 : decode cX2_endDays 22 = .ok (.if_icmp .le 6, 3) := by decide +kernel
theorem dX2_endDays_25 : decode cX2_endDays 25 = .ok (.ldc 94, 2) := by decide +kernel
theorem dX2_endDays_27 : decode cX2_endDays 27 = .ok (.ireturn, 1) := by decide +kernel
theorem dX2_endDays_28 : decode cX2_endDays 28 = .ok (.aload_n 0, 1) := by decide +kernel
theorem dX2_endDays_29 : decode cX2_endDays 29 = .ok (.getfield 33, 3) := by decide +kernel
theorem dX2_endDays_32 : decode cX2_endDays 32 = .ok (.getfield 145, 3) := by decide +kernel
theorem dX2_endDays_35 : decode cX2_endDays 35 = .ok (.istore_n 2, 1) := by decide +kernel
theorem dX2_endDays_36 : decode cX2_endDays 36 = .ok (.iconst 0, 1) := by decide +kernel
theorem dX2_endDays_37 : decode cX2_endDays 37 = .ok (.istore_n 3, 1) := by decide +kernel
theorem dX2_endDays_38 : decode cX2_endDays 38 = .ok (.iload_n 3, 1) := by decide +kernel
theorem dX2_endDays_39 : decode cX2_endDays 39 = .ok (.iload_n 1, 1) := by decide +kernel
theorem dX2_endDays_40 : decode cX2_endDays 40 = .ok (.if_icmp .ge 13, 3) := by decide +kernel
theorem dX2_endDays_43 : decode cX2_endDays 43 = .ok (.aload_n 0, 1) := by decide +kernel
theorem dX2_endDays_44 : decode cX2_endDays 44 = .ok (.invokevirtual 148, 3) := by decide +kernel
theorem dX2_endDays_47 : decode cX2_endDays 47 = .ok (.iinc 3 1, 3) := by decide +kernel
theorem dX2_endDays_50 : decode cX2_endDays 50 = .ok (.goto (-12), 3) := by decide +kernel
theorem dX2_endDays_53 : decode cX2_endDays 53 = .ok (.aload_n 0, 1) := by decide +kernel
theorem dX2_endDays_54 : decode cX2_endDays 54 = .ok (.getfield 33, 3) := by decide +kernel
theorem dX2_endDays_57 : decode cX2_endDays 57 = .ok (.getfield 145, 3) := by decide +kernel
theorem dX2_endDays_60 : decode cX2_endDays 60 = .ok (.iload_n 2, 1) := by decide +kernel
theorem dX2_endDays_61 : decode cX2_endDays 61 = .ok (.isub, 1) := by decide +kernel
theorem dX2_endDays_62 : decode cX2_endDays 62 = .ok (.ireturn, 1) := by decide +kernel
theorem dX2_endDay_0 : decode cX2_endDay 0 = .ok (.aload_n 0, 1) := by decide +kernel
theorem dX2_endDay_1 : decode cX2_endDay 1 = .ok (.aload_n 0, 1) := by decide +kernel
theorem dX2_endDay_2 : decode cX2_endDay 2 = .ok (.getfield 44, 3) := by decide +kernel
theorem dX2_endDay_5 : decode cX2_endDay 5 = .ok (.sipush 421, 3) := by decide +kernel
theorem dX2_endDay_8 : decode cX2_endDay 8 = .ok (.imul, 1) := by decide +kernel
theorem dX2_endDay_9 : decode cX2_endDay 9 = .ok (.sipush 1663, 3) := by decide +kernel
theorem dX2_endDay_12 : decode cX2_endDay 12 = .ok (.iadd, 1) := by decide +kernel
theorem dX2_endDay_13 : decode cX2_endDay 13 = .ok (.sipush 10000, 3) := by decide +kernel
theorem dX2_endDay_16 : decode cX2_endDay 16 = .ok (.irem, 1) := by decide +kernel
theorem dX2_endDay_17 : decode cX2_endDay 17 = .ok (.putfield 44, 3) := by decide +kernel
theorem dX2_endDay_20 : decode cX2_endDay 20 = .ok (.aload_n 0, 1) := by decide +kernel
theorem dX2_endDay_21 : decode cX2_endDay 21 = .ok (.getfield 44, 3) := by decide +kernel
theorem dX2_endDay_24 : decode cX2_endDay 24 = .ok (.bipush 100, 2) := by decide +kernel
theorem dX2_endDay_26 : decode cX2_endDay 26 = .ok (.irem, 1) := by decide +kernel
theorem dX2_endDay_27 : decode cX2_endDay 27 = .ok (.aload_n 0, 1) := by decide +kernel
theorem dX2_endDay_28 : decode cX2_endDay 28 = .ok (.getfield 40, 3) := by decide +kernel
theorem dX2_endDay_31 : decode cX2_endDay 31 = .ok (.getfield 151, 3) := by decide +kernel
theorem dX2_endDay_34 : decode cX2_endDay 34 = .ok (.if_icmp .ge 7, 3) := by decide +kernel
theorem dX2_endDay_37 : decode cX2_endDay 37 = .ok (.iconst 1, 1) := by decide +kernel
theorem dX2_endDay_38 : decode cX2_endDay 38 = .ok (.goto 4, 3) := by decide +kernel
theorem dX2_endDay_41 : decode cX2_endDay 41 = .ok (.iconst 0, 1) := by decide +kernel
theorem dX2_endDay_42 : decode cX2_endDay 42 = .ok (.istore_n 1, 1) := by decide +kernel
theorem dX2_endDay_43 : decode cX2_endDay 43 = .ok (.iload_n 1, 1) := by decide +kernel
theorem dX2_endDay_44 : decode cX2_endDay 44 = .ok (.ifCond .eq 16, 3) := by decide +kernel
theorem dX2_endDay_47 : decode cX2_endDay 47 = .ok (.aload_n 0, 1) := by decide +kernel
theorem dX2_endDay_48 : decode cX2_endDay 48 = .ok (.getfield 33, 3) := by decide +kernel
theorem dX2_endDay_51 : decode cX2_endDay 51 = .ok (.dup, 1) := by decide +kernel
theorem dX2_endDay_52 : decode cX2_endDay 52 = .ok (.getfield 154, 3) := by decide +kernel
theorem dX2_endDay_55 : decode cX2_endDay 55 = .ok (.iconst 1, 1) := by decide +kernel
theorem dX2_endDay_56 : decode cX2_endDay 56 = .ok (.iadd, 1) := by decide +kernel
theorem dX2_endDay_57 : decode cX2_endDay 57 = .ok (.putfield 154, 3) := by decide +kernel
theorem dX2_endDay_60 : decode cX2_endDay 60 = .ok (.iconst 0, 1) := by decide +kernel
theorem dX2_endDay_61 : decode cX2_endDay 61 = .ok (.istore_n 2, 1) := by decide +kernel
theorem dX2_endDay_62 : decode cX2_endDay 62 = .ok (.iload_n 2, 1) := by decide +kernel
theorem dX2_endDay_63 : decode cX2_endDay 63 = .ok (.aload_n 0, 1) := by decide +kernel
theorem dX2_endDay_64 : decode cX2_endDay 64 = .ok (.getfield 50, 3) := by decide +kernel
theorem dX2_endDay_67 : decode cX2_endDay 67 = .ok (.if_icmp .ge 32, 3) := by decide +kernel
theorem dX2_endDay_70 : decode cX2_endDay 70 = .ok (.aload_n 0, 1) := by decide +kernel
theorem dX2_endDay_71 : decode cX2_endDay 71 = .ok (.iload_n 2, 1) := by decide +kernel
theorem dX2_endDay_72 : decode cX2_endDay 72 = .ok (.invokevirtual 72, 3) := by decide +kernel
theorem dX2_endDay_75 : decode cX2_endDay 75 = .ok (.astore_n 3, 1) := by decide +kernel
theorem dX2_endDay_76 : decode cX2_endDay 76 = .ok (.aload_n 3, 1) := by decide +kernel
theorem dX2_endDay_77 : decode cX2_endDay 77 = .ok (.ifnull 16, 3) := by decide +kernel
theorem dX2_endDay_80 : decode cX2_endDay 80 = .ok (.aload_n 3, 1) := by decide +kernel
theorem dX2_endDay_81 : decode cX2_endDay 81 = .ok (.iload_n 1, 1) := by decide +kernel
theorem dX2_endDay_82 : decode cX2_endDay 82 = .ok (.invokevirtual 157, 3) := by decide +kernel
theorem dX2_endDay_85 : decode cX2_endDay 85 = .ok (.ifCond .eq 8, 3) := by decide +kernel
theorem dX2_endDay_88 : decode cX2_endDay 88 = .ok (.aload_n 0, 1) := by decide +kernel
theorem dX2_endDay_89 : decode cX2_endDay 89 = .ok (.aload_n 3, 1) := by decide +kernel
theorem dX2_endDay_90 : decode cX2_endDay 90 = .ok (.invokevirtual 161, 3) := by decide +kernel
theorem dX2_endDay_93 : decode cX2_endDay 93 = .ok (.iinc 2 1, 3) := by decide +kernel
theorem dX2_endDay_96 : decode cX2_endDay 96 = .ok (.goto (-34), 3) := by decide +kernel
theorem dX2_endDay_99 : decode cX2_endDay 99 = .ok (.iconst 0, 1) := by decide +kernel
theorem dX2_endDay_100 : decode cX2_endDay 100 = .ok (.istore_n 2, 1) := by decide +kernel
theorem dX2_endDay_101 : decode cX2_endDay 101 = .ok (.iload_n 2, 1) := by decide +kernel
theorem dX2_endDay_102 : decode cX2_endDay 102 = .ok (.aload_n 0, 1) := by decide +kernel
theorem dX2_endDay_103 : decode cX2_endDay 103 = .ok (.getfield 53, 3) := by decide +kernel
theorem dX2_endDay_106 : decode cX2_endDay 106 = .ok (.if_icmp .ge 35, 3) := by decide +kernel
theorem dX2_endDay_109 : decode cX2_endDay 109 = .ok (.aload_n 0, 1) := by decide +kernel
theorem dX2_endDay_110 : decode cX2_endDay 110 = .ok (.iload_n 2, 1) := by decide +kernel
theorem dX2_endDay_111 : decode cX2_endDay 111 = .ok (.invokevirtual 79, 3) := by decide +kernel
theorem dX2_endDay_114 : decode cX2_endDay 114 = .ok (.astore_n 3, 1) := by decide +kernel
theorem dX2_endDay_115 : decode cX2_endDay 115 = .ok (.aload_n 3, 1) := by decide +kernel
theorem dX2_endDay_116 : decode cX2_endDay 116 = .ok (.ifnull 19, 3) := by decide +kernel
theorem dX2_endDay_119 : decode cX2_endDay 119 = .ok (.aload_n 3, 1) := by decide +kernel
theorem dX2_endDay_120 : decode cX2_endDay 120 = .ok (.aload_n 0, 1) := by decide +kernel
theorem dX2_endDay_121 : decode cX2_endDay 121 = .ok (.getfield 59, 3) := by decide +kernel
theorem dX2_endDay_124 : decode cX2_endDay 124 = .ok (.invokevirtual 164, 3) := by decide +kernel
theorem dX2_endDay_127 : decode cX2_endDay 127 = .ok (.ifCond .eq 8, 3) := by decide +kernel
theorem dX2_endDay_130 : decode cX2_endDay 130 = .ok (.aload_n 0, 1) := by decide +kernel
theorem dX2_endDay_131 : decode cX2_endDay 131 = .ok (.aload_n 3, 1) := by decide +kernel
theorem dX2_endDay_132 : decode cX2_endDay 132 = .ok (.invokevirtual 168, 3) := by decide +kernel
theorem dX2_endDay_135 : decode cX2_endDay 135 = .ok (.iinc 2 1, 3) := by decide +kernel
theorem dX2_endDay_138 : decode cX2_endDay 138 = .ok (.goto (-37), 3) := by decide +kernel
theorem dX2_endDay_141 : decode cX2_endDay 141 = .ok (.aload_n 0, 1) := by decide +kernel
theorem dX2_endDay_142 : decode cX2_endDay 142 = .ok (.getfield 33, 3) := by decide +kernel
theorem dX2_endDay_145 : decode cX2_endDay 145 = .ok (.dup, 1) := by decide +kernel
theorem dX2_endDay_146 : decode cX2_endDay 146 = .ok (.getfield 171, 3) := by decide +kernel
theorem dX2_endDay_149 : decode cX2_endDay 149 = .ok (.aload_n 0, 1) := by decide +kernel
theorem dX2_endDay_150 : decode cX2_endDay 150 = .ok (.getfield 26, 3) := by decide +kernel
theorem dX2_endDay_153 : decode cX2_endDay 153 = .ok (.invokevirtual 174, 3) := by decide +kernel
theorem dX2_endDay_156 : decode cX2_endDay 156 = .ok (.iadd, 1) := by decide +kernel
theorem dX2_endDay_157 : decode cX2_endDay 157 = .ok (.putfield 171, 3) := by decide +kernel
theorem dX2_endDay_160 : decode cX2_endDay 160 = .ok (.aload_n 0, 1) := by decide +kernel
theorem dX2_endDay_161 : decode cX2_endDay 161 = .ok (.dup, 1) := by decide +kernel
theorem dX2_endDay_162 : decode cX2_endDay 162 = .ok (.getfield 59, 3) := by decide +kernel
theorem dX2_endDay_165 : decode cX2_endDay 165 = .ok (.iconst 1, 1) := by decide +kernel
theorem dX2_endDay_166 : decode cX2_endDay 166 = .ok (.iadd, 1) := by decide +kernel
theorem dX2_endDay_167 : decode cX2_endDay 167 = .ok (.putfield 59, 3) := by decide +kernel
theorem dX2_endDay_170 : decode cX2_endDay 170 = .ok (.aload_n 0, 1) := by decide +kernel
theorem dX2_endDay_171 : decode cX2_endDay 171 = .ok (.getfield 53, 3) := by decide +kernel
theorem dX2_endDay_174 : decode cX2_endDay 174 = .ok (.iconst 1, 1) := by decide +kernel
theorem dX2_endDay_175 : decode cX2_endDay 175 = .ok (.isub, 1) := by decide +kernel
theorem dX2_endDay_176 : decode cX2_endDay 176 = .ok (.istore_n 2, 1) := by decide +kernel
theorem dX2_endDay_177 : decode cX2_endDay 177 = .ok (.iload_n 2, 1) := by decide +kernel
theorem dX2_endDay_178 : decode cX2_endDay 178 = .ok (.ifCond .lt 35, 3) := by decide +kernel
theorem dX2_endDay_181 : decode cX2_endDay 181 = .ok (.aload_n 0, 1) := by decide +kernel
theorem dX2_endDay_182 : decode cX2_endDay 182 = .ok (.iload_n 2, 1) := by decide +kernel
theorem dX2_endDay_183 : decode cX2_endDay 183 = .ok (.invokevirtual 79, 3) := by decide +kernel
theorem dX2_endDay_186 : decode cX2_endDay 186 = .ok (.astore_n 3, 1) := by decide +kernel
theorem dX2_endDay_187 : decode cX2_endDay 187 = .ok (.aload_n 3, 1) := by decide +kernel
theorem dX2_endDay_188 : decode cX2_endDay 188 = .ok (.ifnull 19, 3) := by decide +kernel
theorem dX2_endDay_191 : decode cX2_endDay 191 = .ok (.aload_n 3, 1) := by decide +kernel
theorem dX2_endDay_192 : decode cX2_endDay 192 = .ok (.aload_n 0, 1) := by decide +kernel
theorem dX2_endDay_193 : decode cX2_endDay 193 = .ok (.getfield 59, 3) := by decide +kernel
theorem dX2_endDay_196 : decode cX2_endDay 196 = .ok (.invokevirtual 178, 3) := by decide +kernel
theorem dX2_endDay_199 : decode cX2_endDay 199 = .ok (.ifCond .eq 8, 3) := by decide +kernel
theorem dX2_endDay_202 : decode cX2_endDay 202 = .ok (.aload_n 0, 1) := by decide +kernel
theorem dX2_endDay_203 : decode cX2_endDay 203 = .ok (.iload_n 2, 1) := by decide +kernel
theorem dX2_endDay_204 : decode cX2_endDay 204 = .ok (.invokevirtual 141, 3) := by decide +kernel
theorem dX2_endDay_207 : decode cX2_endDay 207 = .ok (.iinc 2 (-1), 3) := by decide +kernel
theorem dX2_endDay_210 : decode cX2_endDay 210 = .ok (.goto (-33), 3) := by decide +kernel
theorem dX2_endDay_213 : decode cX2_endDay 213 = .ok (.return_, 1) := by decide +kernel
theorem dX2_unload_0 : decode cX2_unload 0 = .ok (.aload_n 1, 1) := by decide +kernel
theorem dX2_unload_1 : decode cX2_unload 1 = .ok (.invokevirtual 181, 3) := by decide +kernel
theorem dX2_unload_4 : decode cX2_unload 4 = .ok (.istore_n 2, 1) := by decide +kernel
theorem dX2_unload_5 : decode cX2_unload 5 = .ok (.aload_n 0, 1) := by decide +kernel
theorem dX2_unload_6 : decode cX2_unload 6 = .ok (.getfield 59, 3) := by decide +kernel
theorem dX2_unload_9 : decode cX2_unload 9 = .ok (.aload_n 1, 1) := by decide +kernel
theorem dX2_unload_10 : decode cX2_unload 10 = .ok (.getfield 183, 3) := by decide +kernel
theorem dX2_unload_13 : decode cX2_unload 13 = .ok (.isub, 1) := by decide +kernel
theorem dX2_unload_14 : decode cX2_unload 14 = .ok (.istore_n 3, 1) := by decide +kernel
theorem dX2_unload_15 : decode cX2_unload 15 = .ok (.iload_n 3, 1) := by decide +kernel
theorem dX2_unload_16 : decode cX2_unload 16 = .ok (.bipush 20, 2) := by decide +kernel
theorem dX2_unload_18 : decode cX2_unload 18 = .ok (.if_icmp .le 17, 3) := by decide +kernel
theorem dX2_unload_21 : decode cX2_unload 21 = .ok (.aload_n 0, 1) := by decide +kernel
theorem dX2_unload_22 : decode cX2_unload 22 = .ok (.getfield 33, 3) := by decide +kernel
theorem dX2_unload_25 : decode cX2_unload 25 = .ok (.dup, 1) := by decide +kernel
theorem dX2_unload_26 : decode cX2_unload 26 = .ok (.getfield 171, 3) := by decide +kernel
theorem dX2_unload_29 : decode cX2_unload 29 = .ok (.iload_n 2, 1) := by decide +kernel
theorem dX2_unload_30 : decode cX2_unload 30 = .ok (.iadd, 1) := by decide +kernel
theorem dX2_unload_31 : decode cX2_unload 31 = .ok (.putfield 171, 3) := by decide +kernel
theorem dX2_unload_34 : decode cX2_unload 34 = .ok (.return_, 1) := by decide +kernel
theorem dX2_unload_35 : decode cX2_unload 35 = .ok (.iload_n 2, 1) := by decide +kernel
theorem dX2_unload_36 : decode cX2_unload 36 = .ok (.bipush 80, 2) := by decide +kernel
theorem dX2_unload_38 : decode cX2_unload 38 = .ok (.aload_n 0, 1) := by decide +kernel
theorem dX2_unload_39 : decode cX2_unload 39 = .ok (.getfield 26, 3) := by decide +kernel
theorem dX2_unload_42 : decode cX2_unload 42 = .ok (.iconst 0, 1) := by decide +kernel
theorem dX2_unload_43 : decode cX2_unload 43 = .ok (.bipush 20, 2) := by decide +kernel
theorem dX2_unload_45 : decode cX2_unload 45 = .ok (.invokevirtual 186, 3) := by decide +kernel
theorem dX2_unload_48 : decode cX2_unload 48 = .ok (.isub, 1) := by decide +kernel
theorem dX2_unload_49 : decode cX2_unload 49 = .ok (.invokestatic 189, 3) := by decide +kernel
theorem dX2_unload_52 : decode cX2_unload 52 = .ok (.istore 4, 2) := by decide +kernel
theorem dX2_unload_54 : decode cX2_unload 54 = .ok (.aload_n 0, 1) := by decide +kernel
theorem dX2_unload_55 : decode cX2_unload 55 = .ok (.getfield 26, 3) := by decide +kernel
theorem dX2_unload_58 : decode cX2_unload 58 = .ok (.iload_n 3, 1) := by decide +kernel
theorem dX2_unload_59 : decode cX2_unload 59 = .ok (.iload 4, 2) := by decide +kernel
theorem dX2_unload_61 : decode cX2_unload 61 = .ok (.invokevirtual 194, 3) := by decide +kernel
theorem dX2_unload_64 : decode cX2_unload 64 = .ok (.aload_n 0, 1) := by decide +kernel
theorem dX2_unload_65 : decode cX2_unload 65 = .ok (.getfield 33, 3) := by decide +kernel
theorem dX2_unload_68 : decode cX2_unload 68 = .ok (.dup, 1) := by decide +kernel
theorem dX2_unload_69 : decode cX2_unload 69 = .ok (.getfield 197, 3) := by decide +kernel
theorem dX2_unload_72 : decode cX2_unload 72 = .ok (.iload_n 2, 1) := by decide +kernel
theorem dX2_unload_73 : decode cX2_unload 73 = .ok (.iload 4, 2) := by decide +kernel
theorem dX2_unload_75 : decode cX2_unload 75 = .ok (.isub, 1) := by decide +kernel
theorem dX2_unload_76 : decode cX2_unload 76 = .ok (.iadd, 1) := by decide +kernel
theorem dX2_unload_77 : decode cX2_unload 77 = .ok (.putfield 197, 3) := by decide +kernel
theorem dX2_unload_80 : decode cX2_unload 80 = .ok (.return_, 1) := by decide +kernel
theorem dX2_feed_0 : decode cX2_feed 0 = .ok (.aload_n 1, 1) := by decide +kernel
theorem dX2_feed_1 : decode cX2_feed 1 = .ok (.invokevirtual 200, 3) := by decide +kernel
theorem dX2_feed_4 : decode cX2_feed 4 = .ok (.istore_n 2, 1) := by decide +kernel
theorem dX2_feed_5 : decode cX2_feed 5 = .ok (.aload_n 0, 1) := by decide +kernel
theorem dX2_feed_6 : decode cX2_feed 6 = .ok (.getfield 26, 3) := by decide +kernel
theorem dX2_feed_9 : decode cX2_feed 9 = .ok (.iconst 0, 1) := by decide +kernel
theorem dX2_feed_10 : decode cX2_feed 10 = .ok (.aload_n 0, 1) := by decide +kernel
theorem dX2_feed_11 : decode cX2_feed 11 = .ok (.getfield 40, 3) := by decide +kernel
theorem dX2_feed_14 : decode cX2_feed 14 = .ok (.getfield 203, 3) := by decide +kernel
theorem dX2_feed_17 : decode cX2_feed 17 = .ok (.iload_n 2, 1) := by decide +kernel
theorem dX2_feed_18 : decode cX2_feed 18 = .ok (.invokevirtual 206, 3) := by decide +kernel
theorem dX2_feed_21 : decode cX2_feed 21 = .ok (.istore_n 3, 1) := by decide +kernel
theorem dX2_feed_22 : decode cX2_feed 22 = .ok (.iload_n 2, 1) := by decide +kernel
theorem dX2_feed_23 : decode cX2_feed 23 = .ok (.iload_n 3, 1) := by decide +kernel
theorem dX2_feed_24 : decode cX2_feed 24 = .ok (.isub, 1) := by decide +kernel
theorem dX2_feed_25 : decode cX2_feed 25 = .ok (.istore 4, 2) := by decide +kernel
theorem dX2_feed_27 : decode cX2_feed 27 = .ok (.aload_n 0, 1) := by decide +kernel
theorem dX2_feed_28 : decode cX2_feed 28 = .ok (.getfield 40, 3) := by decide +kernel
theorem dX2_feed_31 : decode cX2_feed 31 = .ok (.getfield 203, 3) := by decide +kernel
theorem dX2_feed_34 : decode cX2_feed 34 = .ok (.iconst 1, 1) := by decide +kernel
theorem dX2_feed_35 : decode cX2_feed 35 = .ok (.iadd, 1) := by decide +kernel
theorem dX2_feed_36 : decode cX2_feed 36 = .ok (.istore 5, 2) := by decide +kernel
theorem dX2_feed_38 : decode cX2_feed 38 = .ok (.iload 4, 2) := by decide +kernel
theorem dX2_feed_40 : decode cX2_feed 40 = .ok (.aload_n 0, 1) := by decide +kernel
theorem dX2_feed_41 : decode cX2_feed 41 = .ok (.getfield 26, 3) := by decide +kernel
theorem dX2_feed_44 : decode cX2_feed 44 = .ok (.iload 5, 2) := by decide +kernel
theorem dX2_feed_46 : decode cX2_feed 46 = .ok (.bipush 20, 2) := by decide +kernel
theorem dX2_feed_48 : decode cX2_feed 48 = .ok (.invokevirtual 186, 3) := by decide +kernel
theorem dX2_feed_51 : decode cX2_feed 51 = .ok (.iconst 2, 1) := by decide +kernel
theorem dX2_feed_52 : decode cX2_feed 52 = .ok (.idiv, 1) := by decide +kernel
theorem dX2_feed_53 : decode cX2_feed 53 = .ok (.invokestatic 189, 3) := by decide +kernel
theorem dX2_feed_56 : decode cX2_feed 56 = .ok (.istore 6, 2) := by decide +kernel
theorem dX2_feed_58 : decode cX2_feed 58 = .ok (.aload_n 0, 1) := by decide +kernel
theorem dX2_feed_59 : decode cX2_feed 59 = .ok (.getfield 33, 3) := by decide +kernel
theorem dX2_feed_62 : decode cX2_feed 62 = .ok (.dup, 1) := by decide +kernel
theorem dX2_feed_63 : decode cX2_feed 63 = .ok (.getfield 145, 3) := by decide +kernel
theorem dX2_feed_66 : decode cX2_feed 66 = .ok (.iload_n 3, 1) := by decide +kernel
theorem dX2_feed_67 : decode cX2_feed 67 = .ok (.aload_n 0, 1) := by decide +kernel
theorem dX2_feed_68 : decode cX2_feed 68 = .ok (.getfield 26, 3) := by decide +kernel
theorem dX2_feed_71 : decode cX2_feed 71 = .ok (.iload 5, 2) := by decide +kernel
theorem dX2_feed_73 : decode cX2_feed 73 = .ok (.bipush 20, 2) := by decide +kernel
theorem dX2_feed_75 : decode cX2_feed 75 = .ok (.iload 6, 2) := by decide +kernel
theorem dX2_feed_77 : decode cX2_feed 77 = .ok (.iconst 2, 1) := by decide +kernel
theorem dX2_feed_78 : decode cX2_feed 78 = .ok (.imul, 1) := by decide +kernel
theorem dX2_feed_79 : decode cX2_feed 79 = .ok (.invokevirtual 206, 3) := by decide +kernel
theorem dX2_feed_82 : decode cX2_feed 82 = .ok (.iadd, 1) := by decide +kernel
theorem dX2_feed_83 : decode cX2_feed 83 = .ok (.iadd, 1) := by decide +kernel
theorem dX2_feed_84 : decode cX2_feed 84 = .ok (.putfield 145, 3) := by decide +kernel
theorem dX2_feed_87 : decode cX2_feed 87 = .ok (.iload 4, 2) := by decide +kernel
theorem dX2_feed_89 : decode cX2_feed 89 = .ok (.ifCond .ne 7, 3) := by decide +kernel
theorem dX2_feed_92 : decode cX2_feed 92 = .ok (.iconst 3, 1) := by decide +kernel
theorem dX2_feed_93 : decode cX2_feed 93 = .ok (.goto 4, 3) := by decide +kernel
theorem dX2_feed_96 : decode cX2_feed 96 = .ok (.iconst 2, 1) := by decide +kernel
theorem dX2_feed_97 : decode cX2_feed 97 = .ok (.istore 7, 2) := by decide +kernel
theorem dX2_feed_99 : decode cX2_feed 99 = .ok (.iload 6, 2) := by decide +kernel
theorem dX2_feed_101 : decode cX2_feed 101 = .ok (.iload 4, 2) := by decide +kernel
theorem dX2_feed_103 : decode cX2_feed 103 = .ok (.if_icmp .ge 29, 3) := by decide +kernel
theorem dX2_feed_106 : decode cX2_feed 106 = .ok (.iconst 1, 1) := by decide +kernel
theorem dX2_feed_107 : decode cX2_feed 107 = .ok (.istore 7, 2) := by decide +kernel
theorem dX2_feed_109 : decode cX2_feed 109 = .ok (.aload_n 1, 1) := by decide +kernel
theorem dX2_feed_110 : decode cX2_feed 110 = .ok (.dup, 1) := by decide +kernel
theorem dX2_feed_111 : decode cX2_feed 111 = .ok (.getfield 210, 3) := by decide +kernel
theorem dX2_feed_114 : decode cX2_feed 114 = .ok (.iconst 1, 1) := by decide +kernel
theorem dX2_feed_115 : decode cX2_feed 115 = .ok (.iadd, 1) := by decide +kernel
theorem dX2_feed_116 : decode cX2_feed 116 = .ok (.putfield 210, 3) := by decide +kernel
theorem dX2_feed_119 : decode cX2_feed 119 = .ok (.aload_n 0, 1) := by decide +kernel
theorem dX2_feed_120 : decode cX2_feed 120 = .ok (.getfield 33, 3) := by decide +kernel
theorem dX2_feed_123 : decode cX2_feed 123 = .ok (.dup, 1) := by decide +kernel
theorem dX2_feed_124 : decode cX2_feed 124 = .ok (.getfield 213, 3) := by decide +kernel
theorem dX2_feed_127 : decode cX2_feed 127 = .ok (.iconst 1, 1) := by decide +kernel
theorem dX2_feed_128 : decode cX2_feed 128 = .ok (.iadd, 1) := by decide +kernel
theorem dX2_feed_129 : decode cX2_feed 129 = .ok (.putfield 213, 3) := by decide +kernel
theorem dX2_feed_132 : decode cX2_feed 132 = .ok (.iload 7, 2) := by decide +kernel
theorem dX2_feed_134 : decode cX2_feed 134 = .ok (.aload_n 1, 1) := by decide +kernel
theorem dX2_feed_135 : decode cX2_feed 135 = .ok (.getfield 214, 3) := by decide +kernel
theorem dX2_feed_138 : decode cX2_feed 138 = .ok (.imul, 1) := by decide +kernel
theorem dX2_feed_139 : decode cX2_feed 139 = .ok (.istore 8, 2) := by decide +kernel
theorem dX2_feed_141 : decode cX2_feed 141 = .ok (.aload_n 1, 1) := by decide +kernel
theorem dX2_feed_142 : decode cX2_feed 142 = .ok (.dup, 1) := by decide +kernel
theorem dX2_feed_143 : decode cX2_feed 143 = .ok (.getfield 217, 3) := by decide +kernel
theorem dX2_feed_146 : decode cX2_feed 146 = .ok (.iload 8, 2) := by decide +kernel
theorem dX2_feed_148 : decode cX2_feed 148 = .ok (.iadd, 1) := by decide +kernel
theorem dX2_feed_149 : decode cX2_feed 149 = .ok (.putfield 217, 3) := by decide +kernel
theorem dX2_feed_152 : decode cX2_feed 152 = .ok (.aload_n 0, 1) := by decide +kernel
theorem dX2_feed_153 : decode cX2_feed 153 = .ok (.getfield 33, 3) := by decide +kernel
theorem dX2_feed_156 : decode cX2_feed 156 = .ok (.dup, 1) := by decide +kernel
theorem dX2_feed_157 : decode cX2_feed 157 = .ok (.getfield 220, 3) := by decide +kernel
theorem dX2_feed_160 : decode cX2_feed 160 = .ok (.iload 8, 2) := by decide +kernel
theorem dX2_feed_162 : decode cX2_feed 162 = .ok (.iadd, 1) := by decide +kernel
theorem dX2_feed_163 : decode cX2_feed 163 = .ok (.putfield 220, 3) := by decide +kernel
theorem dX2_feed_166 : decode cX2_feed 166 = .ok (.aload_n 0, 1) := by decide +kernel
theorem dX2_feed_167 : decode cX2_feed 167 = .ok (.getfield 33, 3) := by decide +kernel
theorem dX2_feed_170 : decode cX2_feed 170 = .ok (.dup, 1) := by decide +kernel
theorem dX2_feed_171 : decode cX2_feed 171 = .ok (.getfield 128, 3) := by decide +kernel
theorem dX2_feed_174 : decode cX2_feed 174 = .ok (.iload 8, 2) := by decide +kernel
theorem dX2_feed_176 : decode cX2_feed 176 = .ok (.iadd, 1) := by decide +kernel
theorem dX2_feed_177 : decode cX2_feed 177 = .ok (.putfield 128, 3) := by decide +kernel
theorem dX2_feed_180 : decode cX2_feed 180 = .ok (.return_, 1) := by decide +kernel
theorem dX2_loavesOnTheirWayUp_0 : decode cX2_loavesOnTheirWayUp 0 = .ok (.iconst 0, 1) := by decide +kernel
theorem dX2_loavesOnTheirWayUp_1 : decode cX2_loavesOnTheirWayUp 1 = .ok (.istore_n 1, 1) := by decide +kernel
theorem dX2_loavesOnTheirWayUp_2 : decode cX2_loavesOnTheirWayUp 2 = .ok (.iconst 0, 1) := by decide +kernel
theorem dX2_loavesOnTheirWayUp_3 : decode cX2_loavesOnTheirWayUp 3 = .ok (.istore_n 2, 1) := by decide +kernel
theorem dX2_loavesOnTheirWayUp_4 : decode cX2_loavesOnTheirWayUp 4 = .ok (.iload_n 2, 1) := by decide +kernel
theorem dX2_loavesOnTheirWayUp_5 : decode cX2_loavesOnTheirWayUp 5 = .ok (.aload_n 0, 1) := by decide +kernel
theorem dX2_loavesOnTheirWayUp_6 : decode cX2_loavesOnTheirWayUp 6 = .ok (.getfield 50, 3) := by decide +kernel
theorem dX2_loavesOnTheirWayUp_9 : decode cX2_loavesOnTheirWayUp 9 = .ok (.if_icmp .ge 26, 3) := by decide +kernel
theorem dX2_loavesOnTheirWayUp_12 : decode cX2_loavesOnTheirWayUp 12 = .ok (.aload_n 0, 1) := by decide +kernel
theorem dX2_loavesOnTheirWayUp_13 : decode cX2_loavesOnTheirWayUp 13 = .ok (.iload_n 2, 1) := by decide +kernel
theorem dX2_loavesOnTheirWayUp_14 : decode cX2_loavesOnTheirWayUp 14 = .ok (.invokevirtual 72, 3) := by decide +kernel
theorem dX2_loavesOnTheirWayUp_17 : decode cX2_loavesOnTheirWayUp 17 = .ok (.astore_n 3, 1) := by decide +kernel
theorem dX2_loavesOnTheirWayUp_18 : decode cX2_loavesOnTheirWayUp 18 = .ok (.aload_n 3, 1) := by decide +kernel
theorem dX2_loavesOnTheirWayUp_19 : decode cX2_loavesOnTheirWayUp 19 = .ok (.ifnull 10, 3) := by decide +kernel
theorem dX2_loavesOnTheirWayUp_22 : decode cX2_loavesOnTheirWayUp 22 = .ok (.iload_n 1, 1) := by decide +kernel
theorem dX2_loavesOnTheirWayUp_23 : decode cX2_loavesOnTheirWayUp 23 = .ok (.aload_n 3, 1) := by decide +kernel
theorem dX2_loavesOnTheirWayUp_24 : decode cX2_loavesOnTheirWayUp 24 = .ok (.getfield 227, 3) := by decide +kernel
theorem dX2_loavesOnTheirWayUp_27 : decode cX2_loavesOnTheirWayUp 27 = .ok (.iadd, 1) := by decide +kernel
theorem dX2_loavesOnTheirWayUp_28 : decode cX2_loavesOnTheirWayUp 28 = .ok (.istore_n 1, 1) := by decide +kernel
theorem dX2_loavesOnTheirWayUp_29 : decode cX2_loavesOnTheirWayUp 29 = .ok (.iinc 2 1, 3) := by decide +kernel
theorem dX2_loavesOnTheirWayUp_32 : decode cX2_loavesOnTheirWayUp 32 = .ok (.goto (-28), 3) := by decide +kernel
theorem dX2_loavesOnTheirWayUp_35 : decode cX2_loavesOnTheirWayUp 35 = .ok (.iload_n 1, 1) := by decide +kernel
theorem dX2_loavesOnTheirWayUp_36 : decode cX2_loavesOnTheirWayUp 36 = .ok (.ireturn, 1) := by decide +kernel
theorem dX2_tell_0 : decode cX2_tell 0 = .ok (.iload_n 1, 1) := by decide +kernel
theorem dX2_tell_1 : decode cX2_tell 1 = .ok (.tableswitch 227 0 17 #[87, 92, 97, 102, 107, 112, 120, 128, 139, 158, 163, 171, 179, 187, 195, 203, 211, 219], 87) := by decide +kernel
theorem dX2_tell_88 : decode cX2_tell 88 = .ok (.aload_n 0, 1) := by decide +kernel
theorem dX2_tell_89 : decode cX2_tell 89 = .ok (.getfield 50, 3) := by decide +kernel
theorem dX2_tell_92 : decode cX2_tell 92 = .ok (.ireturn, 1) := by decide +kernel
theorem dX2_tell_93 : decode cX2_tell 93 = .ok (.aload_n 0, 1) := by decide +kernel
theorem dX2_tell_94 : decode cX2_tell 94 = .ok (.getfield 53, 3) := by decide +kernel
theorem dX2_tell_97 : decode cX2_tell 97 = .ok (.ireturn, 1) := by decide +kernel
theorem dX2_tell_98 : decode cX2_tell 98 = .ok (.aload_n 0, 1) := by decide +kernel
theorem dX2_tell_99 : decode cX2_tell 99 = .ok (.getfield 56, 3) := by decide +kernel
theorem dX2_tell_102 : decode cX2_tell 102 = .ok (.ireturn, 1) := by decide +kernel
theorem dX2_tell_103 : decode cX2_tell 103 = .ok (.aload_n 0, 1) := by decide +kernel
theorem dX2_tell_104 : decode cX2_tell 104 = .ok (.getfield 59, 3) := by decide +kernel
theorem dX2_tell_107 : decode cX2_tell 107 = .ok (.ireturn, 1) := by decide +kernel
theorem dX2_tell_108 : decode cX2_tell 108 = .ok (.aload_n 0, 1) := by decide +kernel
theorem dX2_tell_109 : decode cX2_tell 109 = .ok (.getfield 44, 3) := by decide +kernel
theorem dX2_tell_112 : decode cX2_tell 112 = .ok (.ireturn, 1) := by decide +kernel
theorem dX2_tell_113 : decode cX2_tell 113 = .ok (.aload_n 0, 1) := by decide +kernel
theorem dX2_tell_114 : decode cX2_tell 114 = .ok (.getfield 33, 3) := by decide +kernel
theorem dX2_tell_117 : decode cX2_tell 117 = .ok (.getfield 128, 3) := by decide +kernel
theorem dX2_tell_120 : decode cX2_tell 120 = .ok (.ireturn, 1) := by decide +kernel
theorem dX2_tell_121 : decode cX2_tell 121 = .ok (.aload_n 0, 1) := by decide +kernel
theorem dX2_tell_122 : decode cX2_tell 122 = .ok (.getfield 33, 3) := by decide +kernel
theorem dX2_tell_125 : decode cX2_tell 125 = .ok (.getfield 105, 3) := by decide +kernel
theorem dX2_tell_128 : decode cX2_tell 128 = .ok (.ireturn, 1) := by decide +kernel
theorem dX2_tell_129 : decode cX2_tell 129 = .ok (.aload_n 0, 1) := by decide +kernel
theorem dX2_tell_130 : decode cX2_tell 130 = .ok (.getfield 26, 3) := by decide +kernel
theorem dX2_tell_133 : decode cX2_tell 133 = .ok (.iconst 0, 1) := by decide +kernel
theorem dX2_tell_134 : decode cX2_tell 134 = .ok (.bipush 20, 2) := by decide +kernel
theorem dX2_tell_136 : decode cX2_tell 136 = .ok (.invokevirtual 186, 3) := by decide +kernel
theorem dX2_tell_139 : decode cX2_tell 139 = .ok (.ireturn, 1) := by decide +kernel
theorem dX2_tell_140 : decode cX2_tell 140 = .ok (.aload_n 0, 1) := by decide +kernel
theorem dX2_tell_141 : decode cX2_tell 141 = .ok (.getfield 26, 3) := by decide +kernel
theorem dX2_tell_144 : decode cX2_tell 144 = .ok (.aload_n 0, 1) := by decide +kernel
theorem dX2_tell_145 : decode cX2_tell 145 = .ok (.getfield 40, 3) := by decide +kernel
theorem dX2_tell_148 : decode cX2_tell 148 = .ok (.getfield 203, 3) := by decide +kernel
theorem dX2_tell_151 : decode cX2_tell 151 = .ok (.iconst 1, 1) := by decide +kernel
theorem dX2_tell_152 : decode cX2_tell 152 = .ok (.iadd, 1) := by decide +kernel
theorem dX2_tell_153 : decode cX2_tell 153 = .ok (.bipush 20, 2) := by decide +kernel
theorem dX2_tell_155 : decode cX2_tell 155 = .ok (.invokevirtual 186, 3) := by decide +kernel
theorem dX2_tell_158 : decode cX2_tell 158 = .ok (.ireturn, 1) := by decide +kernel
theorem dX2_tell_159 : decode cX2_tell 159 = .ok (.aload_n 0, 1) := by decide +kernel
theorem dX2_tell_160 : decode cX2_tell 160 = .ok (.invokevirtual 230, 3) := by decide +kernel
theorem dX2_tell_163 : decode cX2_tell 163 = .ok (.ireturn, 1) := by decide +kernel
theorem dX2_tell_164 : decode cX2_tell 164 = .ok (.aload_n 0, 1) := by decide +kernel
theorem dX2_tell_165 : decode cX2_tell 165 = .ok (.getfield 33, 3) := by decide +kernel
theorem dX2_tell_168 : decode cX2_tell 168 = .ok (.getfield 122, 3) := by decide +kernel
theorem dX2_tell_171 : decode cX2_tell 171 = .ok (.ireturn, 1) := by decide +kernel
theorem dX2_tell_172 : decode cX2_tell 172 = .ok (.aload_n 0, 1) := by decide +kernel
theorem dX2_tell_173 : decode cX2_tell 173 = .ok (.getfield 33, 3) := by decide +kernel
theorem dX2_tell_176 : decode cX2_tell 176 = .ok (.getfield 145, 3) := by decide +kernel
theorem dX2_tell_179 : decode cX2_tell 179 = .ok (.ireturn, 1) := by decide +kernel
theorem dX2_tell_180 : decode cX2_tell 180 = .ok (.aload_n 0, 1) := by decide +kernel
theorem dX2_tell_181 : decode cX2_tell 181 = .ok (.getfield 33, 3) := by decide +kernel
theorem dX2_tell_184 : decode cX2_tell 184 = .ok (.getfield 171, 3) := by decide +kernel
theorem dX2_tell_187 : decode cX2_tell 187 = .ok (.ireturn, 1) := by decide +kernel
theorem dX2_tell_188 : decode cX2_tell 188 = .ok (.aload_n 0, 1) := by decide +kernel
theorem dX2_tell_189 : decode cX2_tell 189 = .ok (.getfield 33, 3) := by decide +kernel
theorem dX2_tell_192 : decode cX2_tell 192 = .ok (.getfield 197, 3) := by decide +kernel
theorem dX2_tell_195 : decode cX2_tell 195 = .ok (.ireturn, 1) := by decide +kernel
theorem dX2_tell_196 : decode cX2_tell 196 = .ok (.aload_n 0, 1) := by decide +kernel
theorem dX2_tell_197 : decode cX2_tell 197 = .ok (.getfield 33, 3) := by decide +kernel
theorem dX2_tell_200 : decode cX2_tell 200 = .ok (.getfield 154, 3) := by decide +kernel
theorem dX2_tell_203 : decode cX2_tell 203 = .ok (.ireturn, 1) := by decide +kernel
theorem dX2_tell_204 : decode cX2_tell 204 = .ok (.aload_n 0, 1) := by decide +kernel
theorem dX2_tell_205 : decode cX2_tell 205 = .ok (.getfield 33, 3) := by decide +kernel
theorem dX2_tell_208 : decode cX2_tell 208 = .ok (.getfield 213, 3) := by decide +kernel
theorem dX2_tell_211 : decode cX2_tell 211 = .ok (.ireturn, 1) := by decide +kernel
theorem dX2_tell_212 : decode cX2_tell 212 = .ok (.aload_n 0, 1) := by decide +kernel
theorem dX2_tell_213 : decode cX2_tell 213 = .ok (.getfield 33, 3) := by decide +kernel
theorem dX2_tell_216 : decode cX2_tell 216 = .ok (.getfield 220, 3) := by decide +kernel
theorem dX2_tell_219 : decode cX2_tell 219 = .ok (.ireturn, 1) := by decide +kernel
theorem dX2_tell_220 : decode cX2_tell 220 = .ok (.aload_n 0, 1) := by decide +kernel
theorem dX2_tell_221 : decode cX2_tell 221 = .ok (.getfield 33, 3) := by decide +kernel
theorem dX2_tell_224 : decode cX2_tell 224 = .ok (.getfield 131, 3) := by decide +kernel
theorem dX2_tell_227 : decode cX2_tell 227 = .ok (.ireturn, 1) := by decide +kernel
theorem dX2_tell_228 : decode cX2_tell 228 = .ok (.iload_n 1, 1) := by decide +kernel
theorem dX2_tell_229 : decode cX2_tell 229 = .ok (.bipush 20, 2) := by decide +kernel
theorem dX2_tell_231 : decode cX2_tell 231 = .ok (.bipush 23, 2) := by decide +kernel
theorem dX2_tell_233 : decode cX2_tell 233 = .ok (.invokestatic 89, 3) := by decide +kernel
theorem dX2_tell_236 : decode cX2_tell 236 = .ok (.ifCond .eq 17, 3) := by decide +kernel
theorem dX2_tell_239 : decode cX2_tell 239 = .ok (.aload_n 0, 1) := by decide +kernel
theorem dX2_tell_240 : decode cX2_tell 240 = .ok (.getfield 40, 3) := by decide +kernel
theorem dX2_tell_243 : decode cX2_tell 243 = .ok (.iload_n 1, 1) := by decide +kernel
theorem dX2_tell_244 : decode cX2_tell 244 = .ok (.bipush 20, 2) := by decide +kernel
theorem dX2_tell_246 : decode cX2_tell 246 = .ok (.isub, 1) := by decide +kernel
theorem dX2_tell_247 : decode cX2_tell 247 = .ok (.invokevirtual 233, 3) := by decide +kernel
theorem dX2_tell_250 : decode cX2_tell 250 = .ok (.goto 5, 3) := by decide +kernel
theorem dX2_tell_253 : decode cX2_tell 253 = .ok (.ldc 93, 2) := by decide +kernel
theorem dX2_tell_255 : decode cX2_tell 255 = .ok (.ireturn, 1) := by decide +kernel
theorem dX3_init_0 : decode cX3_init 0 = .ok (.aload_n 0, 1) := by decide +kernel
theorem dX3_init_1 : decode cX3_init 1 = .ok (.invokespecial 1, 3) := by decide +kernel
theorem dX3_init_4 : decode cX3_init 4 = .ok (.return_, 1) := by decide +kernel
theorem dX3_copyFrom_0 : decode cX3_copyFrom 0 = .ok (.aload_n 0, 1) := by decide +kernel
theorem dX3_copyFrom_1 : decode cX3_copyFrom 1 = .ok (.aload_n 1, 1) := by decide +kernel
theorem dX3_copyFrom_2 : decode cX3_copyFrom 2 = .ok (.getfield 7, 3) := by decide +kernel
theorem dX3_copyFrom_5 : decode cX3_copyFrom 5 = .ok (.putfield 7, 3) := by decide +kernel
theorem dX3_copyFrom_8 : decode cX3_copyFrom 8 = .ok (.aload_n 0, 1) := by decide +kernel
theorem dX3_copyFrom_9 : decode cX3_copyFrom 9 = .ok (.aload_n 1, 1) := by decide +kernel
theorem dX3_copyFrom_10 : decode cX3_copyFrom 10 = .ok (.getfield 13, 3) := by decide +kernel
theorem dX3_copyFrom_13 : decode cX3_copyFrom 13 = .ok (.putfield 13, 3) := by decide +kernel
theorem dX3_copyFrom_16 : decode cX3_copyFrom 16 = .ok (.aload_n 0, 1) := by decide +kernel
theorem dX3_copyFrom_17 : decode cX3_copyFrom 17 = .ok (.aload_n 1, 1) := by decide +kernel
theorem dX3_copyFrom_18 : decode cX3_copyFrom 18 = .ok (.getfield 16, 3) := by decide +kernel
theorem dX3_copyFrom_21 : decode cX3_copyFrom 21 = .ok (.putfield 16, 3) := by decide +kernel
theorem dX3_copyFrom_24 : decode cX3_copyFrom 24 = .ok (.aload_n 0, 1) := by decide +kernel
theorem dX3_copyFrom_25 : decode cX3_copyFrom 25 = .ok (.aload_n 1, 1) := by decide +kernel
theorem dX3_copyFrom_26 : decode cX3_copyFrom 26 = .ok (.getfield 19, 3) := by decide +kernel
theorem dX3_copyFrom_29 : decode cX3_copyFrom 29 = .ok (.putfield 19, 3) := by decide +kernel
theorem dX3_copyFrom_32 : decode cX3_copyFrom 32 = .ok (.aload_n 0, 1) := by decide +kernel
theorem dX3_copyFrom_33 : decode cX3_copyFrom 33 = .ok (.aload_n 1, 1) := by decide +kernel
theorem dX3_copyFrom_34 : decode cX3_copyFrom 34 = .ok (.getfield 22, 3) := by decide +kernel
theorem dX3_copyFrom_37 : decode cX3_copyFrom 37 = .ok (.putfield 22, 3) := by decide +kernel
theorem dX3_copyFrom_40 : decode cX3_copyFrom 40 = .ok (.aload_n 0, 1) := by decide +kernel
theorem dX3_copyFrom_41 : decode cX3_copyFrom 41 = .ok (.aload_n 1, 1) := by decide +kernel
theorem dX3_copyFrom_42 : decode cX3_copyFrom 42 = .ok (.getfield 25, 3) := by decide +kernel
theorem dX3_copyFrom_45 : decode cX3_copyFrom 45 = .ok (.putfield 25, 3) := by decide +kernel
theorem dX3_copyFrom_48 : decode cX3_copyFrom 48 = .ok (.aload_n 0, 1) := by decide +kernel
theorem dX3_copyFrom_49 : decode cX3_copyFrom 49 = .ok (.aload_n 1, 1) := by decide +kernel
theorem dX3_copyFrom_50 : decode cX3_copyFrom 50 = .ok (.getfield 28, 3) := by decide +kernel
theorem dX3_copyFrom_53 : decode cX3_copyFrom 53 = .ok (.putfield 28, 3) := by decide +kernel
theorem dX3_copyFrom_56 : decode cX3_copyFrom 56 = .ok (.aload_n 0, 1) := by decide +kernel
theorem dX3_copyFrom_57 : decode cX3_copyFrom 57 = .ok (.aload_n 1, 1) := by decide +kernel
theorem dX3_copyFrom_58 : decode cX3_copyFrom 58 = .ok (.getfield 31, 3) := by decide +kernel
theorem dX3_copyFrom_61 : decode cX3_copyFrom 61 = .ok (.putfield 31, 3) := by decide +kernel
theorem dX3_copyFrom_64 : decode cX3_copyFrom 64 = .ok (.aload_n 0, 1) := by decide +kernel
theorem dX3_copyFrom_65 : decode cX3_copyFrom 65 = .ok (.aload_n 1, 1) := by decide +kernel
theorem dX3_copyFrom_66 : decode cX3_copyFrom 66 = .ok (.getfield 34, 3) := by decide +kernel
theorem dX3_copyFrom_69 : decode cX3_copyFrom 69 = .ok (.putfield 34, 3) := by decide +kernel
theorem dX3_copyFrom_72 : decode cX3_copyFrom 72 = .ok (.aload_n 0, 1) := by decide +kernel
theorem dX3_copyFrom_73 : decode cX3_copyFrom 73 = .ok (.aload_n 1, 1) := by decide +kernel
theorem dX3_copyFrom_74 : decode cX3_copyFrom 74 = .ok (.getfield 37, 3) := by decide +kernel
theorem dX3_copyFrom_77 : decode cX3_copyFrom 77 = .ok (.putfield 37, 3) := by decide +kernel
theorem dX3_copyFrom_80 : decode cX3_copyFrom 80 = .ok (.return_, 1) := by decide +kernel
theorem dX4_init_0 : decode cX4_init 0 = .ok (.aload_n 0, 1) := by decide +kernel
theorem dX4_init_1 : decode cX4_init 1 = .ok (.invokespecial 3, 3) := by decide +kernel
theorem dX4_init_4 : decode cX4_init 4 = .ok (.return_, 1) := by decide +kernel
theorem dX4_copyFrom_0 : decode cX4_copyFrom 0 = .ok (.aload_n 0, 1) := by decide +kernel
theorem dX4_copyFrom_1 : decode cX4_copyFrom 1 = .ok (.aload_n 1, 1) := by decide +kernel
theorem dX4_copyFrom_2 : decode cX4_copyFrom 2 = .ok (.getfield 9, 3) := by decide +kernel
theorem dX4_copyFrom_5 : decode cX4_copyFrom 5 = .ok (.putfield 9, 3) := by decide +kernel
theorem dX4_copyFrom_8 : decode cX4_copyFrom 8 = .ok (.aload_n 0, 1) := by decide +kernel
theorem dX4_copyFrom_9 : decode cX4_copyFrom 9 = .ok (.aload_n 1, 1) := by decide +kernel
theorem dX4_copyFrom_10 : decode cX4_copyFrom 10 = .ok (.getfield 15, 3) := by decide +kernel
theorem dX4_copyFrom_13 : decode cX4_copyFrom 13 = .ok (.putfield 15, 3) := by decide +kernel
theorem dX4_copyFrom_16 : decode cX4_copyFrom 16 = .ok (.aload_n 0, 1) := by decide +kernel
theorem dX4_copyFrom_17 : decode cX4_copyFrom 17 = .ok (.aload_n 1, 1) := by decide +kernel
theorem dX4_copyFrom_18 : decode cX4_copyFrom 18 = .ok (.getfield 18, 3) := by decide +kernel
theorem dX4_copyFrom_21 : decode cX4_copyFrom 21 = .ok (.putfield 18, 3) := by decide +kernel
theorem dX4_copyFrom_24 : decode cX4_copyFrom 24 = .ok (.aload_n 0, 1) := by decide +kernel
theorem dX4_copyFrom_25 : decode cX4_copyFrom 25 = .ok (.aload_n 1, 1) := by decide +kernel
theorem dX4_copyFrom_26 : decode cX4_copyFrom 26 = .ok (.getfield 21, 3) := by decide +kernel
theorem dX4_copyFrom_29 : decode cX4_copyFrom 29 = .ok (.putfield 21, 3) := by decide +kernel
theorem dX4_copyFrom_32 : decode cX4_copyFrom 32 = .ok (.aload_n 0, 1) := by decide +kernel
theorem dX4_copyFrom_33 : decode cX4_copyFrom 33 = .ok (.aload_n 1, 1) := by decide +kernel
theorem dX4_copyFrom_34 : decode cX4_copyFrom 34 = .ok (.getfield 24, 3) := by decide +kernel
theorem dX4_copyFrom_37 : decode cX4_copyFrom 37 = .ok (.putfield 24, 3) := by decide +kernel
theorem dX4_copyFrom_40 : decode cX4_copyFrom 40 = .ok (.aload_n 0, 1) := by decide +kernel
theorem dX4_copyFrom_41 : decode cX4_copyFrom 41 = .ok (.aload_n 1, 1) := by decide +kernel
theorem dX4_copyFrom_42 : decode cX4_copyFrom 42 = .ok (.getfield 27, 3) := by decide +kernel
theorem dX4_copyFrom_45 : decode cX4_copyFrom 45 = .ok (.putfield 27, 3) := by decide +kernel
theorem dX4_copyFrom_48 : decode cX4_copyFrom 48 = .ok (.aload_n 0, 1) := by decide +kernel
theorem dX4_copyFrom_49 : decode cX4_copyFrom 49 = .ok (.aload_n 1, 1) := by decide +kernel
theorem dX4_copyFrom_50 : decode cX4_copyFrom 50 = .ok (.getfield 30, 3) := by decide +kernel
theorem dX4_copyFrom_53 : decode cX4_copyFrom 53 = .ok (.putfield 30, 3) := by decide +kernel
theorem dX4_copyFrom_56 : decode cX4_copyFrom 56 = .ok (.aload_n 0, 1) := by decide +kernel
theorem dX4_copyFrom_57 : decode cX4_copyFrom 57 = .ok (.aload_n 1, 1) := by decide +kernel
theorem dX4_copyFrom_58 : decode cX4_copyFrom 58 = .ok (.getfield 33, 3) := by decide +kernel
theorem dX4_copyFrom_61 : decode cX4_copyFrom 61 = .ok (.putfield 33, 3) := by decide +kernel
theorem dX4_copyFrom_64 : decode cX4_copyFrom 64 = .ok (.aload_n 0, 1) := by decide +kernel
theorem dX4_copyFrom_65 : decode cX4_copyFrom 65 = .ok (.aload_n 1, 1) := by decide +kernel
theorem dX4_copyFrom_66 : decode cX4_copyFrom 66 = .ok (.getfield 36, 3) := by decide +kernel
theorem dX4_copyFrom_69 : decode cX4_copyFrom 69 = .ok (.putfield 36, 3) := by decide +kernel
theorem dX4_copyFrom_72 : decode cX4_copyFrom 72 = .ok (.return_, 1) := by decide +kernel
theorem dX4_begin_0 : decode cX4_begin 0 = .ok (.aload_n 0, 1) := by decide +kernel
theorem dX4_begin_1 : decode cX4_begin 1 = .ok (.iload_n 1, 1) := by decide +kernel
theorem dX4_begin_2 : decode cX4_begin 2 = .ok (.putfield 9, 3) := by decide +kernel
theorem dX4_begin_5 : decode cX4_begin 5 = .ok (.aload_n 0, 1) := by decide +kernel
theorem dX4_begin_6 : decode cX4_begin 6 = .ok (.iload_n 2, 1) := by decide +kernel
theorem dX4_begin_7 : decode cX4_begin 7 = .ok (.putfield 15, 3) := by decide +kernel
theorem dX4_begin_10 : decode cX4_begin 10 = .ok (.aload_n 0, 1) := by decide +kernel
theorem dX4_begin_11 : decode cX4_begin 11 = .ok (.iconst 0, 1) := by decide +kernel
theorem dX4_begin_12 : decode cX4_begin 12 = .ok (.putfield 18, 3) := by decide +kernel
theorem dX4_begin_15 : decode cX4_begin 15 = .ok (.aload_n 0, 1) := by decide +kernel
theorem dX4_begin_16 : decode cX4_begin 16 = .ok (.iconst 0, 1) := by decide +kernel
theorem dX4_begin_17 : decode cX4_begin 17 = .ok (.putfield 21, 3) := by decide +kernel
theorem dX4_begin_20 : decode cX4_begin 20 = .ok (.aload_n 0, 1) := by decide +kernel
theorem dX4_begin_21 : decode cX4_begin 21 = .ok (.iconst 0, 1) := by decide +kernel
theorem dX4_begin_22 : decode cX4_begin 22 = .ok (.putfield 24, 3) := by decide +kernel
theorem dX4_begin_25 : decode cX4_begin 25 = .ok (.aload_n 0, 1) := by decide +kernel
theorem dX4_begin_26 : decode cX4_begin 26 = .ok (.iconst 0, 1) := by decide +kernel
theorem dX4_begin_27 : decode cX4_begin 27 = .ok (.putfield 27, 3) := by decide +kernel
theorem dX4_begin_30 : decode cX4_begin 30 = .ok (.aload_n 0, 1) := by decide +kernel
theorem dX4_begin_31 : decode cX4_begin 31 = .ok (.iconst 0, 1) := by decide +kernel
theorem dX4_begin_32 : decode cX4_begin 32 = .ok (.putfield 30, 3) := by decide +kernel
theorem dX4_begin_35 : decode cX4_begin 35 = .ok (.aload_n 0, 1) := by decide +kernel
theorem dX4_begin_36 : decode cX4_begin 36 = .ok (.iconst 0, 1) := by decide +kernel
theorem dX4_begin_37 : decode cX4_begin 37 = .ok (.putfield 33, 3) := by decide +kernel
theorem dX4_begin_40 : decode cX4_begin 40 = .ok (.aload_n 0, 1) := by decide +kernel
theorem dX4_begin_41 : decode cX4_begin 41 = .ok (.iconst 0, 1) := by decide +kernel
theorem dX4_begin_42 : decode cX4_begin 42 = .ok (.putfield 36, 3) := by decide +kernel
theorem dX4_begin_45 : decode cX4_begin 45 = .ok (.return_, 1) := by decide +kernel
theorem dX4_leave_0 : decode cX4_leave 0 = .ok (.aload_n 0, 1) := by decide +kernel
theorem dX4_leave_1 : decode cX4_leave 1 = .ok (.iconst 1, 1) := by decide +kernel
theorem dX4_leave_2 : decode cX4_leave 2 = .ok (.putfield 18, 3) := by decide +kernel
theorem dX4_leave_5 : decode cX4_leave 5 = .ok (.aload_n 0, 1) := by decide +kernel
theorem dX4_leave_6 : decode cX4_leave 6 = .ok (.iconst 2, 1) := by decide +kernel
theorem dX4_leave_7 : decode cX4_leave 7 = .ok (.putfield 21, 3) := by decide +kernel
theorem dX4_leave_10 : decode cX4_leave 10 = .ok (.aload_n 0, 1) := by decide +kernel
theorem dX4_leave_11 : decode cX4_leave 11 = .ok (.iload_n 1, 1) := by decide +kernel
theorem dX4_leave_12 : decode cX4_leave 12 = .ok (.putfield 24, 3) := by decide +kernel
theorem dX4_leave_15 : decode cX4_leave 15 = .ok (.aload_n 0, 1) := by decide +kernel
theorem dX4_leave_16 : decode cX4_leave 16 = .ok (.iload_n 2, 1) := by decide +kernel
theorem dX4_leave_17 : decode cX4_leave 17 = .ok (.putfield 27, 3) := by decide +kernel
theorem dX4_leave_20 : decode cX4_leave 20 = .ok (.aload_n 0, 1) := by decide +kernel
theorem dX4_leave_21 : decode cX4_leave 21 = .ok (.dup, 1) := by decide +kernel
theorem dX4_leave_22 : decode cX4_leave 22 = .ok (.getfield 30, 3) := by decide +kernel
theorem dX4_leave_25 : decode cX4_leave 25 = .ok (.iconst 1, 1) := by decide +kernel
theorem dX4_leave_26 : decode cX4_leave 26 = .ok (.iadd, 1) := by decide +kernel
theorem dX4_leave_27 : decode cX4_leave 27 = .ok (.putfield 30, 3) := by decide +kernel
theorem dX4_leave_30 : decode cX4_leave 30 = .ok (.return_, 1) := by decide +kernel
theorem dX4_comeOn_0 : decode cX4_comeOn 0 = .ok (.aload_n 0, 1) := by decide +kernel
theorem dX4_comeOn_1 : decode cX4_comeOn 1 = .ok (.getfield 18, 3) := by decide +kernel
theorem dX4_comeOn_4 : decode cX4_comeOn 4 = .ok (.ifCond .eq 15, 3) := by decide +kernel
theorem dX4_comeOn_7 : decode cX4_comeOn 7 = .ok (.iload_n 1, 1) := by decide +kernel
theorem dX4_comeOn_8 : decode cX4_comeOn 8 = .ok (.ifCond .eq 13, 3) := by decide +kernel
theorem dX4_comeOn_11 : decode cX4_comeOn 11 = .ok (.aload_n 0, 1) := by decide +kernel
theorem dX4_comeOn_12 : decode cX4_comeOn 12 = .ok (.getfield 18, 3) := by decide +kernel
theorem dX4_comeOn_15 : decode cX4_comeOn 15 = .ok (.iconst 3, 1) := by decide +kernel
theorem dX4_comeOn_16 : decode cX4_comeOn 16 = .ok (.if_icmp .eq 5, 3) := by decide +kernel
theorem dX4_comeOn_19 : decode cX4_comeOn 19 = .ok (.iconst 0, 1) := by decide +kernel
theorem dX4_comeOn_20 : decode cX4_comeOn 20 = .ok (.ireturn, 1) := by decide +kernel
theorem dX4_comeOn_21 : decode cX4_comeOn 21 = .ok (.aload_n 0, 1) := by decide +kernel
theorem dX4_comeOn_22 : decode cX4_comeOn 22 = .ok (.dup, 1) := by decide +kernel
theorem dX4_comeOn_23 : decode cX4_comeOn 23 = .ok (.getfield 21, 3) := by decide +kernel
theorem dX4_comeOn_26 : decode cX4_comeOn 26 = .ok (.iconst 1, 1) := by decide +kernel
theorem dX4_comeOn_27 : decode cX4_comeOn 27 = .ok (.isub, 1) := by decide +kernel
theorem dX4_comeOn_28 : decode cX4_comeOn 28 = .ok (.putfield 21, 3) := by decide +kernel
theorem dX4_comeOn_31 : decode cX4_comeOn 31 = .ok (.aload_n 0, 1) := by decide +kernel
theorem dX4_comeOn_32 : decode cX4_comeOn 32 = .ok (.getfield 21, 3) := by decide +kernel
theorem dX4_comeOn_35 : decode cX4_comeOn 35 = .ok (.ifCond .le 5, 3) := by decide +kernel
theorem dX4_comeOn_38 : decode cX4_comeOn 38 = .ok (.iconst 0, 1) := by decide +kernel
theorem dX4_comeOn_39 : decode cX4_comeOn 39 = .ok (.ireturn, 1) := by decide +kernel
theorem dX4_comeOn_40 : decode cX4_comeOn 40 = .ok (.aload_n 0, 1) := by decide +kernel
theorem dX4_comeOn_41 : decode cX4_comeOn 41 = .ok (.getfield 18, 3) := by decide +kernel
theorem dX4_comeOn_44 : decode cX4_comeOn 44 = .ok (.iconst 1, 1) := by decide +kernel
theorem dX4_comeOn_45 : decode cX4_comeOn 45 = .ok (.if_icmp .ne 15, 3) := by decide +kernel
theorem dX4_comeOn_48 : decode cX4_comeOn 48 = .ok (.aload_n 0, 1) := by decide +kernel
theorem dX4_comeOn_49 : decode cX4_comeOn 49 = .ok (.iconst 2, 1) := by decide +kernel
theorem dX4_comeOn_50 : decode cX4_comeOn 50 = .ok (.putfield 18, 3) := by decide +kernel
theorem dX4_comeOn_53 : decode cX4_comeOn 53 = .ok (.aload_n 0, 1) := by decide +kernel
theorem dX4_comeOn_54 : decode cX4_comeOn 54 = .ok (.iconst 2, 1) := by decide +kernel
theorem dX4_comeOn_55 : decode cX4_comeOn 55 = .ok (.putfield 21, 3) := by decide +kernel
theorem dX4_comeOn_58 : decode cX4_comeOn 58 = .ok (.iconst 1, 1) := by decide +kernel
theorem dX4_comeOn_59 : decode cX4_comeOn 59 = .ok (.ireturn, 1) := by decide +kernel
theorem dX4_comeOn_60 : decode cX4_comeOn 60 = .ok (.aload_n 0, 1) := by decide +kernel
theorem dX4_comeOn_61 : decode cX4_comeOn 61 = .ok (.getfield 18, 3) := by decide +kernel
theorem dX4_comeOn_64 : decode cX4_comeOn 64 = .ok (.iconst 2, 1) := by decide +kernel
theorem dX4_comeOn_65 : decode cX4_comeOn 65 = .ok (.if_icmp .ne 36, 3) := by decide +kernel
theorem dX4_comeOn_68 : decode cX4_comeOn 68 = .ok (.aload_n 0, 1) := by decide +kernel
theorem dX4_comeOn_69 : decode cX4_comeOn 69 = .ok (.getfield 30, 3) := by decide +kernel
theorem dX4_comeOn_72 : decode cX4_comeOn 72 = .ok (.aload_n 0, 1) := by decide +kernel
theorem dX4_comeOn_73 : decode cX4_comeOn 73 = .ok (.getfield 15, 3) := by decide +kernel
theorem dX4_comeOn_76 : decode cX4_comeOn 76 = .ok (.if_icmp .lt 25, 3) := by decide +kernel
theorem dX4_comeOn_79 : decode cX4_comeOn 79 = .ok (.aload_n 0, 1) := by decide +kernel
theorem dX4_comeOn_80 : decode cX4_comeOn 80 = .ok (.iconst 3, 1) := by decide +kernel
theorem dX4_comeOn_81 : decode cX4_comeOn 81 = .ok (.putfield 18, 3) := by decide +kernel
theorem dX4_comeOn_84 : decode cX4_comeOn 84 = .ok (.aload_n 0, 1) := by decide +kernel
theorem dX4_comeOn_85 : decode cX4_comeOn 85 = .ok (.iconst 5, 1) := by decide +kernel
theorem dX4_comeOn_86 : decode cX4_comeOn 86 = .ok (.putfield 21, 3) := by decide +kernel
theorem dX4_comeOn_89 : decode cX4_comeOn 89 = .ok (.aload_n 0, 1) := by decide +kernel
theorem dX4_comeOn_90 : decode cX4_comeOn 90 = .ok (.dup, 1) := by decide +kernel
theorem dX4_comeOn_91 : decode cX4_comeOn 91 = .ok (.getfield 36, 3) := by decide +kernel
theorem dX4_comeOn_94 : decode cX4_comeOn 94 = .ok (.iconst 1, 1) := by decide +kernel
