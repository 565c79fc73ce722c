theorem dX9_pay_37 : decode cX9_pay 37 = .ok (.ireturn, 1) := by decide +kernel
theorem dX9_pay_38 : decode cX9_pay 38 = .ok (.aload_n 0, 1) := by decide +kernel
theorem dX9_pay_39 : decode cX9_pay 39 = .ok (.invokevirtual 97, 3) := by decide +kernel
theorem dX9_pay_42 : decode cX9_pay 42 = .ok (.aload_n 0, 1) := by decide +kernel
theorem dX9_pay_43 : decode cX9_pay 43 = .ok (.getfield 7, 3) := by decide +kernel
theorem dX9_pay_46 : decode cX9_pay 46 = .ok (.iconst 5, 1) := by decide +kernel
theorem dX9_pay_47 : decode cX9_pay 47 = .ok (.dup2, 1) := by decide +kernel
theorem dX9_pay_48 : decode cX9_pay 48 = .ok (.iaload, 1) := by decide +kernel
theorem dX9_pay_49 : decode cX9_pay 49 = .ok (.iload_n 1, 1) := by decide +kernel
theorem dX9_pay_50 : decode cX9_pay 50 = .ok (.isub, 1) := by decide +kernel
theorem dX9_pay_51 : decode cX9_pay 51 = .ok (.iastore, 1) := by decide +kernel
theorem dX9_pay_52 : decode cX9_pay 52 = .ok (.aload_n 0, 1) := by decide +kernel
theorem dX9_pay_53 : decode cX9_pay 53 = .ok (.getfield 7, 3) := by decide +kernel
theorem dX9_pay_56 : decode cX9_pay 56 = .ok (.bipush 6, 2) := by decide +kernel
theorem dX9_pay_58 : decode cX9_pay 58 = .ok (.dup2, 1) := by decide +kernel
theorem dX9_pay_59 : decode cX9_pay 59 = .ok (.iaload, 1) := by decide +kernel
theorem dX9_pay_60 : decode cX9_pay 60 = .ok (.iload_n 1, 1) := by decide +kernel
theorem dX9_pay_61 : decode cX9_pay 61 = .ok (.isub, 1) := by decide +kernel
theorem dX9_pay_62 : decode cX9_pay 62 = .ok (.iastore, 1) := by decide +kernel
theorem dX9_pay_63 : decode cX9_pay 63 = .ok (.aload_n 0, 1) := by decide +kernel
theorem dX9_pay_64 : decode cX9_pay 64 = .ok (.getfield 7, 3) := by decide +kernel
theorem dX9_pay_67 : decode cX9_pay 67 = .ok (.bipush 14, 2) := by decide +kernel
theorem dX9_pay_69 : decode cX9_pay 69 = .ok (.dup2, 1) := by decide +kernel
theorem dX9_pay_70 : decode cX9_pay 70 = .ok (.iaload, 1) := by decide +kernel
theorem dX9_pay_71 : decode cX9_pay 71 = .ok (.iload_n 1, 1) := by decide +kernel
theorem dX9_pay_72 : decode cX9_pay 72 = .ok (.iadd, 1) := by decide +kernel
theorem dX9_pay_73 : decode cX9_pay 73 = .ok (.iastore, 1) := by decide +kernel
theorem dX9_pay_74 : decode cX9_pay 74 = .ok (.aload_n 0, 1) := by decide +kernel
theorem dX9_pay_75 : decode cX9_pay 75 = .ok (.getfield 7, 3) := by decide +kernel
theorem dX9_pay_78 : decode cX9_pay 78 = .ok (.bipush 6, 2) := by decide +kernel
theorem dX9_pay_80 : decode cX9_pay 80 = .ok (.iaload, 1) := by decide +kernel
theorem dX9_pay_81 : decode cX9_pay 81 = .ok (.ireturn, 1) := by decide +kernel
theorem dX9_group_0 : decode cX9_group 0 = .ok (.iload_n 1, 1) := by decide +kernel
theorem dX9_group_1 : decode cX9_group 1 = .ok (.iconst 1, 1) := by decide +kernel
theorem dX9_group_2 : decode cX9_group 2 = .ok (.bipush 12, 2) := by decide +kernel
theorem dX9_group_4 : decode cX9_group 4 = .ok (.invokestatic 65, 3) := by decide +kernel
theorem dX9_group_7 : decode cX9_group 7 = .ok (.ifCond .eq 23, 3) := by decide +kernel
theorem dX9_group_10 : decode cX9_group 10 = .ok (.iload_n 2, 1) := by decide +kernel
theorem dX9_group_11 : decode cX9_group 11 = .ok (.iconst 0, 1) := by decide +kernel
theorem dX9_group_12 : decode cX9_group 12 = .ok (.bipush 60, 2) := by decide +kernel
theorem dX9_group_14 : decode cX9_group 14 = .ok (.invokestatic 65, 3) := by decide +kernel
theorem dX9_group_17 : decode cX9_group 17 = .ok (.ifCond .eq 13, 3) := by decide +kernel
theorem dX9_group_20 : decode cX9_group 20 = .ok (.iload_n 3, 1) := by decide +kernel
theorem dX9_group_21 : decode cX9_group 21 = .ok (.iconst 1, 1) := by decide +kernel
theorem dX9_group_22 : decode cX9_group 22 = .ok (.bipush 9, 2) := by decide +kernel
theorem dX9_group_24 : decode cX9_group 24 = .ok (.invokestatic 65, 3) := by decide +kernel
theorem dX9_group_27 : decode cX9_group 27 = .ok (.ifCond .ne 6, 3) := by decide +kernel
theorem dX9_group_30 : decode cX9_group 30 = .ok (.ldc 95, 2) := by decide +kernel
theorem dX9_group_32 : decode cX9_group 32 = .ok (.ireturn, 1) := by decide +kernel
theorem dX9_group_33 : decode cX9_group 33 = .ok (.aload_n 0, 1) := by decide +kernel
theorem dX9_group_34 : decode cX9_group 34 = .ok (.getfield 7, 3) := by decide +kernel
theorem dX9_group_37 : decode cX9_group 37 = .ok (.iconst 1, 1) := by decide +kernel
theorem dX9_group_38 : decode cX9_group 38 = .ok (.iaload, 1) := by decide +kernel
theorem dX9_group_39 : decode cX9_group 39 = .ok (.istore 4, 2) := by decide +kernel
theorem dX9_group_41 : decode cX9_group 41 = .ok (.iload 4, 2) := by decide +kernel
theorem dX9_group_43 : decode cX9_group 43 = .ok (.bipush 10, 2) := by decide +kernel
theorem dX9_group_45 : decode cX9_group 45 = .ok (.if_icmp .ne 6, 3) := by decide +kernel
theorem dX9_group_48 : decode cX9_group 48 = .ok (.ldc 96, 2) := by decide +kernel
theorem dX9_group_50 : decode cX9_group 50 = .ok (.ireturn, 1) := by decide +kernel
theorem dX9_group_51 : decode cX9_group 51 = .ok (.aload_n 0, 1) := by decide +kernel
theorem dX9_group_52 : decode cX9_group 52 = .ok (.invokevirtual 97, 3) := by decide +kernel
theorem dX9_group_55 : decode cX9_group 55 = .ok (.bipush 55, 2) := by decide +kernel
theorem dX9_group_57 : decode cX9_group 57 = .ok (.bipush 6, 2) := by decide +kernel
theorem dX9_group_59 : decode cX9_group 59 = .ok (.iload 4, 2) := by decide +kernel
theorem dX9_group_61 : decode cX9_group 61 = .ok (.imul, 1) := by decide +kernel
theorem dX9_group_62 : decode cX9_group 62 = .ok (.iadd, 1) := by decide +kernel
theorem dX9_group_63 : decode cX9_group 63 = .ok (.istore 5, 2) := by decide +kernel
theorem dX9_group_65 : decode cX9_group 65 = .ok (.aload_n 0, 1) := by decide +kernel
theorem dX9_group_66 : decode cX9_group 66 = .ok (.getfield 7, 3) := by decide +kernel
theorem dX9_group_69 : decode cX9_group 69 = .ok (.iload 5, 2) := by decide +kernel
theorem dX9_group_71 : decode cX9_group 71 = .ok (.iconst 0, 1) := by decide +kernel
theorem dX9_group_72 : decode cX9_group 72 = .ok (.iadd, 1) := by decide +kernel
theorem dX9_group_73 : decode cX9_group 73 = .ok (.aload_n 0, 1) := by decide +kernel
theorem dX9_group_74 : decode cX9_group 74 = .ok (.getfield 7, 3) := by decide +kernel
theorem dX9_group_77 : decode cX9_group 77 = .ok (.iconst 2, 1) := by decide +kernel
theorem dX9_group_78 : decode cX9_group 78 = .ok (.iaload, 1) := by decide +kernel
theorem dX9_group_79 : decode cX9_group 79 = .ok (.iastore, 1) := by decide +kernel
theorem dX9_group_80 : decode cX9_group 80 = .ok (.aload_n 0, 1) := by decide +kernel
theorem dX9_group_81 : decode cX9_group 81 = .ok (.getfield 7, 3) := by decide +kernel
theorem dX9_group_84 : decode cX9_group 84 = .ok (.iload 5, 2) := by decide +kernel
theorem dX9_group_86 : decode cX9_group 86 = .ok (.iconst 1, 1) := by decide +kernel
theorem dX9_group_87 : decode cX9_group 87 = .ok (.iadd, 1) := by decide +kernel
theorem dX9_group_88 : decode cX9_group 88 = .ok (.iload_n 1, 1) := by decide +kernel
theorem dX9_group_89 : decode cX9_group 89 = .ok (.iastore, 1) := by decide +kernel
theorem dX9_group_90 : decode cX9_group 90 = .ok (.aload_n 0, 1) := by decide +kernel
theorem dX9_group_91 : decode cX9_group 91 = .ok (.getfield 7, 3) := by decide +kernel
theorem dX9_group_94 : decode cX9_group 94 = .ok (.iload 5, 2) := by decide +kernel
theorem dX9_group_96 : decode cX9_group 96 = .ok (.iconst 2, 1) := by decide +kernel
theorem dX9_group_97 : decode cX9_group 97 = .ok (.iadd, 1) := by decide +kernel
theorem dX9_group_98 : decode cX9_group 98 = .ok (.aload_n 0, 1) := by decide +kernel
theorem dX9_group_99 : decode cX9_group 99 = .ok (.getfield 7, 3) := by decide +kernel
theorem dX9_group_102 : decode cX9_group 102 = .ok (.iconst 3, 1) := by decide +kernel
theorem dX9_group_103 : decode cX9_group 103 = .ok (.iaload, 1) := by decide +kernel
theorem dX9_group_104 : decode cX9_group 104 = .ok (.iload_n 2, 1) := by decide +kernel
theorem dX9_group_105 : decode cX9_group 105 = .ok (.iadd, 1) := by decide +kernel
theorem dX9_group_106 : decode cX9_group 106 = .ok (.iastore, 1) := by decide +kernel
theorem dX9_group_107 : decode cX9_group 107 = .ok (.aload_n 0, 1) := by decide +kernel
theorem dX9_group_108 : decode cX9_group 108 = .ok (.getfield 7, 3) := by decide +kernel
theorem dX9_group_111 : decode cX9_group 111 = .ok (.iload 5, 2) := by decide +kernel
theorem dX9_group_113 : decode cX9_group 113 = .ok (.iconst 3, 1) := by decide +kernel
theorem dX9_group_114 : decode cX9_group 114 = .ok (.iadd, 1) := by decide +kernel
theorem dX9_group_115 : decode cX9_group 115 = .ok (.iload_n 3, 1) := by decide +kernel
theorem dX9_group_116 : decode cX9_group 116 = .ok (.iastore, 1) := by decide +kernel
theorem dX9_group_117 : decode cX9_group 117 = .ok (.aload_n 0, 1) := by decide +kernel
theorem dX9_group_118 : decode cX9_group 118 = .ok (.getfield 7, 3) := by decide +kernel
theorem dX9_group_121 : decode cX9_group 121 = .ok (.iload 5, 2) := by decide +kernel
theorem dX9_group_123 : decode cX9_group 123 = .ok (.iconst 4, 1) := by decide +kernel
theorem dX9_group_124 : decode cX9_group 124 = .ok (.iadd, 1) := by decide +kernel
theorem dX9_group_125 : decode cX9_group 125 = .ok (.iconst 0, 1) := by decide +kernel
theorem dX9_group_126 : decode cX9_group 126 = .ok (.iastore, 1) := by decide +kernel
theorem dX9_group_127 : decode cX9_group 127 = .ok (.aload_n 0, 1) := by decide +kernel
theorem dX9_group_128 : decode cX9_group 128 = .ok (.getfield 7, 3) := by decide +kernel
theorem dX9_group_131 : decode cX9_group 131 = .ok (.iload 5, 2) := by decide +kernel
theorem dX9_group_133 : decode cX9_group 133 = .ok (.iconst 5, 1) := by decide +kernel
theorem dX9_group_134 : decode cX9_group 134 = .ok (.iadd, 1) := by decide +kernel
theorem dX9_group_135 : decode cX9_group 135 = .ok (.iconst 0, 1) := by decide +kernel
theorem dX9_group_136 : decode cX9_group 136 = .ok (.iastore, 1) := by decide +kernel
theorem dX9_group_137 : decode cX9_group 137 = .ok (.aload_n 0, 1) := by decide +kernel
theorem dX9_group_138 : decode cX9_group 138 = .ok (.getfield 7, 3) := by decide +kernel
theorem dX9_group_141 : decode cX9_group 141 = .ok (.iconst 1, 1) := by decide +kernel
theorem dX9_group_142 : decode cX9_group 142 = .ok (.dup2, 1) := by decide +kernel
theorem dX9_group_143 : decode cX9_group 143 = .ok (.iaload, 1) := by decide +kernel
theorem dX9_group_144 : decode cX9_group 144 = .ok (.iconst 1, 1) := by decide +kernel
theorem dX9_group_145 : decode cX9_group 145 = .ok (.iadd, 1) := by decide +kernel
theorem dX9_group_146 : decode cX9_group 146 = .ok (.iastore, 1) := by decide +kernel
theorem dX9_group_147 : decode cX9_group 147 = .ok (.aload_n 0, 1) := by decide +kernel
theorem dX9_group_148 : decode cX9_group 148 = .ok (.getfield 7, 3) := by decide +kernel
theorem dX9_group_151 : decode cX9_group 151 = .ok (.iconst 2, 1) := by decide +kernel
theorem dX9_group_152 : decode cX9_group 152 = .ok (.dup2, 1) := by decide +kernel
theorem dX9_group_153 : decode cX9_group 153 = .ok (.iaload, 1) := by decide +kernel
theorem dX9_group_154 : decode cX9_group 154 = .ok (.iconst 1, 1) := by decide +kernel
theorem dX9_group_155 : decode cX9_group 155 = .ok (.iadd, 1) := by decide +kernel
theorem dX9_group_156 : decode cX9_group 156 = .ok (.iastore, 1) := by decide +kernel
theorem dX9_group_157 : decode cX9_group 157 = .ok (.aload_n 0, 1) := by decide +kernel
theorem dX9_group_158 : decode cX9_group 158 = .ok (.getfield 7, 3) := by decide +kernel
theorem dX9_group_161 : decode cX9_group 161 = .ok (.iconst 2, 1) := by decide +kernel
theorem dX9_group_162 : decode cX9_group 162 = .ok (.iaload, 1) := by decide +kernel
theorem dX9_group_163 : decode cX9_group 163 = .ok (.iconst 1, 1) := by decide +kernel
theorem dX9_group_164 : decode cX9_group 164 = .ok (.isub, 1) := by decide +kernel
theorem dX9_group_165 : decode cX9_group 165 = .ok (.ireturn, 1) := by decide +kernel
theorem dX9_off_0 : decode cX9_off 0 = .ok (.aload_n 0, 1) := by decide +kernel
theorem dX9_off_1 : decode cX9_off 1 = .ok (.iload_n 1, 1) := by decide +kernel
theorem dX9_off_2 : decode cX9_off 2 = .ok (.invokevirtual 108, 3) := by decide +kernel
theorem dX9_off_5 : decode cX9_off 5 = .ok (.istore_n 2, 1) := by decide +kernel
theorem dX9_off_6 : decode cX9_off 6 = .ok (.iload_n 2, 1) := by decide +kernel
theorem dX9_off_7 : decode cX9_off 7 = .ok (.ifCond .ge 6, 3) := by decide +kernel
theorem dX9_off_10 : decode cX9_off 10 = .ok (.ldc 95, 2) := by decide +kernel
theorem dX9_off_12 : decode cX9_off 12 = .ok (.ireturn, 1) := by decide +kernel
theorem dX9_off_13 : decode cX9_off 13 = .ok (.aload_n 0, 1) := by decide +kernel
theorem dX9_off_14 : decode cX9_off 14 = .ok (.invokevirtual 97, 3) := by decide +kernel
theorem dX9_off_17 : decode cX9_off 17 = .ok (.aload_n 0, 1) := by decide +kernel
theorem dX9_off_18 : decode cX9_off 18 = .ok (.iload_n 2, 1) := by decide +kernel
theorem dX9_off_19 : decode cX9_off 19 = .ok (.invokevirtual 89, 3) := by decide +kernel
theorem dX9_off_22 : decode cX9_off 22 = .ok (.aload_n 0, 1) := by decide +kernel
theorem dX9_off_23 : decode cX9_off 23 = .ok (.getfield 7, 3) := by decide +kernel
theorem dX9_off_26 : decode cX9_off 26 = .ok (.iconst 1, 1) := by decide +kernel
theorem dX9_off_27 : decode cX9_off 27 = .ok (.iaload, 1) := by decide +kernel
theorem dX9_off_28 : decode cX9_off 28 = .ok (.ireturn, 1) := by decide +kernel
theorem dX9_end_0 : decode cX9_end 0 = .ok (.iload_n 1, 1) := by decide +kernel
theorem dX9_end_1 : decode cX9_end 1 = .ok (.iconst 1, 1) := by decide +kernel
theorem dX9_end_2 : decode cX9_end 2 = .ok (.bipush 60, 2) := by decide +kernel
theorem dX9_end_4 : decode cX9_end 4 = .ok (.invokestatic 65, 3) := by decide +kernel
theorem dX9_end_7 : decode cX9_end 7 = .ok (.ifCond .ne 6, 3) := by decide +kernel
theorem dX9_end_10 : decode cX9_end 10 = .ok (.ldc 95, 2) := by decide +kernel
theorem dX9_end_12 : decode cX9_end 12 = .ok (.ireturn, 1) := by decide +kernel
theorem dX9_end_13 : decode cX9_end 13 = .ok (.aload_n 0, 1) := by decide +kernel
theorem dX9_end_14 : decode cX9_end 14 = .ok (.getfield 7, 3) := by decide +kernel
theorem dX9_end_17 : decode cX9_end 17 = .ok (.iconst 3, 1) := by decide +kernel
theorem dX9_end_18 : decode cX9_end 18 = .ok (.iaload, 1) := by decide +kernel
theorem dX9_end_19 : decode cX9_end 19 = .ok (.iload_n 1, 1) := by decide +kernel
theorem dX9_end_20 : decode cX9_end 20 = .ok (.iadd, 1) := by decide +kernel
theorem dX9_end_21 : decode cX9_end 21 = .ok (.sipush 9999, 3) := by decide +kernel
theorem dX9_end_24 : decode cX9_end 24 = .ok (.if_icmp .le 6, 3) := by decide +kernel
theorem dX9_end_27 : decode cX9_end 27 = .ok (.ldc 96, 2) := by decide +kernel
theorem dX9_end_29 : decode cX9_end 29 = .ok (.ireturn, 1) := by decide +kernel
theorem dX9_end_30 : decode cX9_end 30 = .ok (.aload_n 0, 1) := by decide +kernel
theorem dX9_end_31 : decode cX9_end 31 = .ok (.invokevirtual 97, 3) := by decide +kernel
theorem dX9_end_34 : decode cX9_end 34 = .ok (.aload_n 0, 1) := by decide +kernel
theorem dX9_end_35 : decode cX9_end 35 = .ok (.iload_n 1, 1) := by decide +kernel
theorem dX9_end_36 : decode cX9_end 36 = .ok (.invokevirtual 111, 3) := by decide +kernel
theorem dX9_end_39 : decode cX9_end 39 = .ok (.ireturn, 1) := by decide +kernel
theorem dX9_maySet_0 : decode cX9_maySet 0 = .ok (.iload_n 0, 1) := by decide +kernel
theorem dX9_maySet_1 : decode cX9_maySet 1 = .ok (.tableswitch 53 0 2 #[27, 35, 45], 27) := by decide +kernel
theorem dX9_maySet_28 : decode cX9_maySet 28 = .ok (.iload_n 1, 1) := by decide +kernel
theorem dX9_maySet_29 : decode cX9_maySet 29 = .ok (.iconst 1, 1) := by decide +kernel
theorem dX9_maySet_30 : decode cX9_maySet 30 = .ok (.bipush 9, 2) := by decide +kernel
theorem dX9_maySet_32 : decode cX9_maySet 32 = .ok (.invokestatic 65, 3) := by decide +kernel
theorem dX9_maySet_35 : decode cX9_maySet 35 = .ok (.ireturn, 1) := by decide +kernel
theorem dX9_maySet_36 : decode cX9_maySet 36 = .ok (.iload_n 1, 1) := by decide +kernel
theorem dX9_maySet_37 : decode cX9_maySet 37 = .ok (.bipush 10, 2) := by decide +kernel
theorem dX9_maySet_39 : decode cX9_maySet 39 = .ok (.sipush 500, 3) := by decide +kernel
theorem dX9_maySet_42 : decode cX9_maySet 42 = .ok (.invokestatic 65, 3) := by decide +kernel
theorem dX9_maySet_45 : decode cX9_maySet 45 = .ok (.ireturn, 1) := by decide +kernel
theorem dX9_maySet_46 : decode cX9_maySet 46 = .ok (.iload_n 1, 1) := by decide +kernel
theorem dX9_maySet_47 : decode cX9_maySet 47 = .ok (.iconst 0, 1) := by decide +kernel
theorem dX9_maySet_48 : decode cX9_maySet 48 = .ok (.bipush 15, 2) := by decide +kernel
theorem dX9_maySet_50 : decode cX9_maySet 50 = .ok (.invokestatic 65, 3) := by decide +kernel
theorem dX9_maySet_53 : decode cX9_maySet 53 = .ok (.ireturn, 1) := by decide +kernel
theorem dX9_maySet_54 : decode cX9_maySet 54 = .ok (.iload_n 1, 1) := by decide +kernel
theorem dX9_maySet_55 : decode cX9_maySet 55 = .ok (.iconst 0, 1) := by decide +kernel
theorem dX9_maySet_56 : decode cX9_maySet 56 = .ok (.bipush 90, 2) := by decide +kernel
theorem dX9_maySet_58 : decode cX9_maySet 58 = .ok (.invokestatic 65, 3) := by decide +kernel
theorem dX9_maySet_61 : decode cX9_maySet 61 = .ok (.ireturn, 1) := by decide +kernel
theorem dX9_set_0 : decode cX9_set 0 = .ok (.iload_n 1, 1) := by decide +kernel
theorem dX9_set_1 : decode cX9_set 1 = .ok (.iconst 0, 1) := by decide +kernel
theorem dX9_set_2 : decode cX9_set 2 = .ok (.iconst 3, 1) := by decide +kernel
theorem dX9_set_3 : decode cX9_set 3 = .ok (.invokestatic 65, 3) := by decide +kernel
theorem dX9_set_6 : decode cX9_set 6 = .ok (.ifCond .eq 11, 3) := by decide +kernel
theorem dX9_set_9 : decode cX9_set 9 = .ok (.iload_n 1, 1) := by decide +kernel
theorem dX9_set_10 : decode cX9_set 10 = .ok (.iload_n 2, 1) := by decide +kernel
theorem dX9_set_11 : decode cX9_set 11 = .ok (.invokestatic 114, 3) := by decide +kernel
theorem dX9_set_14 : decode cX9_set 14 = .ok (.ifCond .ne 6, 3) := by decide +kernel
theorem dX9_set_17 : decode cX9_set 17 = .ok (.ldc 95, 2) := by decide +kernel
theorem dX9_set_19 : decode cX9_set 19 = .ok (.ireturn, 1) := by decide +kernel
theorem dX9_set_20 : decode cX9_set 20 = .ok (.aload_n 0, 1) := by decide +kernel
theorem dX9_set_21 : decode cX9_set 21 = .ok (.invokevirtual 97, 3) := by decide +kernel
theorem dX9_set_24 : decode cX9_set 24 = .ok (.aload_n 0, 1) := by decide +kernel
theorem dX9_set_25 : decode cX9_set 25 = .ok (.getfield 7, 3) := by decide +kernel
theorem dX9_set_28 : decode cX9_set 28 = .ok (.bipush 15, 2) := by decide +kernel
theorem dX9_set_30 : decode cX9_set 30 = .ok (.iload_n 1, 1) := by decide +kernel
theorem dX9_set_31 : decode cX9_set 31 = .ok (.iadd, 1) := by decide +kernel
theorem dX9_set_32 : decode cX9_set 32 = .ok (.iaload, 1) := by decide +kernel
theorem dX9_set_33 : decode cX9_set 33 = .ok (.istore_n 3, 1) := by decide +kernel
theorem dX9_set_34 : decode cX9_set 34 = .ok (.aload_n 0, 1) := by decide +kernel
theorem dX9_set_35 : decode cX9_set 35 = .ok (.getfield 7, 3) := by decide +kernel
theorem dX9_set_38 : decode cX9_set 38 = .ok (.bipush 15, 2) := by decide +kernel
theorem dX9_set_40 : decode cX9_set 40 = .ok (.iload_n 1, 1) := by decide +kernel
theorem dX9_set_41 : decode cX9_set 41 = .ok (.iadd, 1) := by decide +kernel
theorem dX9_set_42 : decode cX9_set 42 = .ok (.iload_n 2, 1) := by decide +kernel
theorem dX9_set_43 : decode cX9_set 43 = .ok (.iastore, 1) := by decide +kernel
theorem dX9_set_44 : decode cX9_set 44 = .ok (.iload_n 3, 1) := by decide +kernel
theorem dX9_set_45 : decode cX9_set 45 = .ok (.ireturn, 1) := by decide +kernel
theorem dX9_muleOf_0 : decode cX9_muleOf 0 = .ok (.aload_n 0, 1) := by decide +kernel
theorem dX9_muleOf_1 : decode cX9_muleOf 1 = .ok (.iload_n 1, 1) := by decide +kernel
theorem dX9_muleOf_2 : decode cX9_muleOf 2 = .ok (.invokevirtual 100, 3) := by decide +kernel
theorem dX9_muleOf_5 : decode cX9_muleOf 5 = .ok (.ifCond .eq 13, 3) := by decide +kernel
theorem dX9_muleOf_8 : decode cX9_muleOf 8 = .ok (.iload_n 2, 1) := by decide +kernel
theorem dX9_muleOf_9 : decode cX9_muleOf 9 = .ok (.iconst 0, 1) := by decide +kernel
theorem dX9_muleOf_10 : decode cX9_muleOf 10 = .ok (.bipush 7, 2) := by decide +kernel
theorem dX9_muleOf_12 : decode cX9_muleOf 12 = .ok (.invokestatic 65, 3) := by decide +kernel
theorem dX9_muleOf_15 : decode cX9_muleOf 15 = .ok (.ifCond .ne 6, 3) := by decide +kernel
theorem dX9_muleOf_18 : decode cX9_muleOf 18 = .ok (.ldc 95, 2) := by decide +kernel
theorem dX9_muleOf_20 : decode cX9_muleOf 20 = .ok (.ireturn, 1) := by decide +kernel
theorem dX9_muleOf_21 : decode cX9_muleOf 21 = .ok (.aload_n 0, 1) := by decide +kernel
theorem dX9_muleOf_22 : decode cX9_muleOf 22 = .ok (.iload_n 1, 1) := by decide +kernel
theorem dX9_muleOf_23 : decode cX9_muleOf 23 = .ok (.iload_n 2, 1) := by decide +kernel
theorem dX9_muleOf_24 : decode cX9_muleOf 24 = .ok (.iconst 5, 1) := by decide +kernel
theorem dX9_muleOf_25 : decode cX9_muleOf 25 = .ok (.if_icmp .ge 7, 3) := by decide +kernel
theorem dX9_muleOf_28 : decode cX9_muleOf 28 = .ok (.iload_n 2, 1) := by decide +kernel
theorem dX9_muleOf_29 : decode cX9_muleOf 29 = .ok (.goto 6, 3) := by decide +kernel
theorem dX9_muleOf_32 : decode cX9_muleOf 32 = .ok (.iload_n 2, 1) := by decide +kernel
theorem dX9_muleOf_33 : decode cX9_muleOf 33 = .ok (.iconst 1, 1) := by decide +kernel
theorem dX9_muleOf_34 : decode cX9_muleOf 34 = .ok (.iadd, 1) := by decide +kernel
theorem dX9_muleOf_35 : decode cX9_muleOf 35 = .ok (.invokevirtual 44, 3) := by decide +kernel
theorem dX9_muleOf_38 : decode cX9_muleOf 38 = .ok (.ireturn, 1) := by decide +kernel
theorem dX9_groupOf_0 : decode cX9_groupOf 0 = .ok (.aload_n 0, 1) := by decide +kernel
theorem dX9_groupOf_1 : decode cX9_groupOf 1 = .ok (.iload_n 1, 1) := by decide +kernel
theorem dX9_groupOf_2 : decode cX9_groupOf 2 = .ok (.invokevirtual 108, 3) := by decide +kernel
theorem dX9_groupOf_5 : decode cX9_groupOf 5 = .ok (.istore_n 3, 1) := by decide +kernel
theorem dX9_groupOf_6 : decode cX9_groupOf 6 = .ok (.iload_n 3, 1) := by decide +kernel
theorem dX9_groupOf_7 : decode cX9_groupOf 7 = .ok (.ifCond .lt 13, 3) := by decide +kernel
theorem dX9_groupOf_10 : decode cX9_groupOf 10 = .ok (.iload_n 2, 1) := by decide +kernel
theorem dX9_groupOf_11 : decode cX9_groupOf 11 = .ok (.iconst 0, 1) := by decide +kernel
theorem dX9_groupOf_12 : decode cX9_groupOf 12 = .ok (.bipush 6, 2) := by decide +kernel
theorem dX9_groupOf_14 : decode cX9_groupOf 14 = .ok (.invokestatic 65, 3) := by decide +kernel
theorem dX9_groupOf_17 : decode cX9_groupOf 17 = .ok (.ifCond .ne 6, 3) := by decide +kernel
theorem dX9_groupOf_20 : decode cX9_groupOf 20 = .ok (.ldc 95, 2) := by decide +kernel
theorem dX9_groupOf_22 : decode cX9_groupOf 22 = .ok (.ireturn, 1) := by decide +kernel
theorem dX9_groupOf_23 : decode cX9_groupOf 23 = .ok (.iload_n 2, 1) := by decide +kernel
theorem dX9_groupOf_24 : decode cX9_groupOf 24 = .ok (.tableswitch 71 3 6 #[32, 42, 62, 62], 32) := by decide +kernel
theorem dX9_groupOf_56 : decode cX9_groupOf 56 = .ok (.aload_n 0, 1) := by decide +kernel
theorem dX9_groupOf_57 : decode cX9_groupOf 57 = .ok (.iload_n 3, 1) := by decide +kernel
theorem dX9_groupOf_58 : decode cX9_groupOf 58 = .ok (.iconst 1, 1) := by decide +kernel
theorem dX9_groupOf_59 : decode cX9_groupOf 59 = .ok (.invokevirtual 36, 3) := by decide +kernel
theorem dX9_groupOf_62 : decode cX9_groupOf 62 = .ok (.invokestatic 69, 3) := by decide +kernel
theorem dX9_groupOf_65 : decode cX9_groupOf 65 = .ok (.ireturn, 1) := by decide +kernel
theorem dX9_groupOf_66 : decode cX9_groupOf 66 = .ok (.aload_n 0, 1) := by decide +kernel
theorem dX9_groupOf_67 : decode cX9_groupOf 67 = .ok (.iload_n 3, 1) := by decide +kernel
theorem dX9_groupOf_68 : decode cX9_groupOf 68 = .ok (.aload_n 0, 1) := by decide +kernel
theorem dX9_groupOf_69 : decode cX9_groupOf 69 = .ok (.getfield 7, 3) := by decide +kernel
theorem dX9_groupOf_72 : decode cX9_groupOf 72 = .ok (.iconst 3, 1) := by decide +kernel
theorem dX9_groupOf_73 : decode cX9_groupOf 73 = .ok (.iaload, 1) := by decide +kernel
theorem dX9_groupOf_74 : decode cX9_groupOf 74 = .ok (.invokevirtual 82, 3) := by decide +kernel
theorem dX9_groupOf_77 : decode cX9_groupOf 77 = .ok (.ifCond .eq 7, 3) := by decide +kernel
theorem dX9_groupOf_80 : decode cX9_groupOf 80 = .ok (.iconst 1, 1) := by decide +kernel
theorem dX9_groupOf_81 : decode cX9_groupOf 81 = .ok (.goto 4, 3) := by decide +kernel
theorem dX9_groupOf_84 : decode cX9_groupOf 84 = .ok (.iconst 0, 1) := by decide +kernel
theorem dX9_groupOf_85 : decode cX9_groupOf 85 = .ok (.ireturn, 1) := by decide +kernel
theorem dX9_groupOf_86 : decode cX9_groupOf 86 = .ok (.aload_n 0, 1) := by decide +kernel
theorem dX9_groupOf_87 : decode cX9_groupOf 87 = .ok (.iload_n 3, 1) := by decide +kernel
theorem dX9_groupOf_88 : decode cX9_groupOf 88 = .ok (.iload_n 2, 1) := by decide +kernel
theorem dX9_groupOf_89 : decode cX9_groupOf 89 = .ok (.iconst 1, 1) := by decide +kernel
theorem dX9_groupOf_90 : decode cX9_groupOf 90 = .ok (.isub, 1) := by decide +kernel
theorem dX9_groupOf_91 : decode cX9_groupOf 91 = .ok (.invokevirtual 36, 3) := by decide +kernel
theorem dX9_groupOf_94 : decode cX9_groupOf 94 = .ok (.ireturn, 1) := by decide +kernel
theorem dX9_groupOf_95 : decode cX9_groupOf 95 = .ok (.aload_n 0, 1) := by decide +kernel
theorem dX9_groupOf_96 : decode cX9_groupOf 96 = .ok (.iload_n 3, 1) := by decide +kernel
theorem dX9_groupOf_97 : decode cX9_groupOf 97 = .ok (.iload_n 2, 1) := by decide +kernel
theorem dX9_groupOf_98 : decode cX9_groupOf 98 = .ok (.iconst 1, 1) := by decide +kernel
theorem dX9_groupOf_99 : decode cX9_groupOf 99 = .ok (.iadd, 1) := by decide +kernel
theorem dX9_groupOf_100 : decode cX9_groupOf 100 = .ok (.invokevirtual 36, 3) := by decide +kernel
theorem dX9_groupOf_103 : decode cX9_groupOf 103 = .ok (.ireturn, 1) := by decide +kernel
theorem dX9_number_0 : decode cX9_number 0 = .ok (.iload_n 1, 1) := by decide +kernel
theorem dX9_number_1 : decode cX9_number 1 = .ok (.ifCond .ge 6, 3) := by decide +kernel
theorem dX9_number_4 : decode cX9_number 4 = .ok (.ldc 95, 2) := by decide +kernel
theorem dX9_number_6 : decode cX9_number 6 = .ok (.ireturn, 1) := by decide +kernel
theorem dX9_number_7 : decode cX9_number 7 = .ok (.iload_n 1, 1) := by decide +kernel
theorem dX9_number_8 : decode cX9_number 8 = .ok (.aload_n 0, 1) := by decide +kernel
theorem dX9_number_9 : decode cX9_number 9 = .ok (.getfield 7, 3) := by decide +kernel
theorem dX9_number_12 : decode cX9_number 12 = .ok (.iconst 1, 1) := by decide +kernel
theorem dX9_number_13 : decode cX9_number 13 = .ok (.iaload, 1) := by decide +kernel
theorem dX9_number_14 : decode cX9_number 14 = .ok (.if_icmp .ge 12, 3) := by decide +kernel
theorem dX9_number_17 : decode cX9_number 17 = .ok (.aload_n 0, 1) := by decide +kernel
theorem dX9_number_18 : decode cX9_number 18 = .ok (.iload_n 1, 1) := by decide +kernel
theorem dX9_number_19 : decode cX9_number 19 = .ok (.iconst 0, 1) := by decide +kernel
theorem dX9_number_20 : decode cX9_number 20 = .ok (.invokevirtual 36, 3) := by decide +kernel
theorem dX9_number_23 : decode cX9_number 23 = .ok (.goto 5, 3) := by decide +kernel
theorem dX9_number_26 : decode cX9_number 26 = .ok (.ldc 40, 2) := by decide +kernel
theorem dX9_number_28 : decode cX9_number 28 = .ok (.ireturn, 1) := by decide +kernel
theorem dX9_loaves_0 : decode cX9_loaves 0 = .ok (.iload_n 1, 1) := by decide +kernel
theorem dX9_loaves_1 : decode cX9_loaves 1 = .ok (.iconst 0, 1) := by decide +kernel
theorem dX9_loaves_2 : decode cX9_loaves 2 = .ok (.bipush 20, 2) := by decide +kernel
theorem dX9_loaves_4 : decode cX9_loaves 4 = .ok (.invokestatic 65, 3) := by decide +kernel
theorem dX9_loaves_7 : decode cX9_loaves 7 = .ok (.ifCond .eq 15, 3) := by decide +kernel
theorem dX9_loaves_10 : decode cX9_loaves 10 = .ok (.aload_n 0, 1) := by decide +kernel
theorem dX9_loaves_11 : decode cX9_loaves 11 = .ok (.getfield 7, 3) := by decide +kernel
theorem dX9_loaves_14 : decode cX9_loaves 14 = .ok (.bipush 115, 2) := by decide +kernel
theorem dX9_loaves_16 : decode cX9_loaves 16 = .ok (.iload_n 1, 1) := by decide +kernel
theorem dX9_loaves_17 : decode cX9_loaves 17 = .ok (.iadd, 1) := by decide +kernel
theorem dX9_loaves_18 : decode cX9_loaves 18 = .ok (.iaload, 1) := by decide +kernel
theorem dX9_loaves_19 : decode cX9_loaves 19 = .ok (.goto 5, 3) := by decide +kernel
theorem dX9_loaves_22 : decode cX9_loaves 22 = .ok (.ldc 95, 2) := by decide +kernel
theorem dX9_loaves_24 : decode cX9_loaves 24 = .ok (.ireturn, 1) := by decide +kernel
theorem dX9_why_0 : decode cX9_why 0 = .ok (.aload_n 0, 1) := by decide +kernel
theorem dX9_why_1 : decode cX9_why 1 = .ok (.iload_n 1, 1) := by decide +kernel
theorem dX9_why_2 : decode cX9_why 2 = .ok (.invokevirtual 100, 3) := by decide +kernel
theorem dX9_why_5 : decode cX9_why 5 = .ok (.ifCond .eq 22, 3) := by decide +kernel
theorem dX9_why_8 : decode cX9_why 8 = .ok (.iload_n 2, 1) := by decide +kernel
theorem dX9_why_9 : decode cX9_why 9 = .ok (.iconst 1, 1) := by decide +kernel
theorem dX9_why_10 : decode cX9_why 10 = .ok (.bipush 30, 2) := by decide +kernel
theorem dX9_why_12 : decode cX9_why 12 = .ok (.invokestatic 65, 3) := by decide +kernel
theorem dX9_why_15 : decode cX9_why 15 = .ok (.ifCond .eq 12, 3) := by decide +kernel
theorem dX9_why_18 : decode cX9_why 18 = .ok (.aload_n 0, 1) := by decide +kernel
theorem dX9_why_19 : decode cX9_why 19 = .ok (.iload_n 1, 1) := by decide +kernel
theorem dX9_why_20 : decode cX9_why 20 = .ok (.iload_n 2, 1) := by decide +kernel
theorem dX9_why_21 : decode cX9_why 21 = .ok (.invokevirtual 104, 3) := by decide +kernel
theorem dX9_why_24 : decode cX9_why 24 = .ok (.goto 5, 3) := by decide +kernel
theorem dX9_why_27 : decode cX9_why 27 = .ok (.ldc 95, 2) := by decide +kernel
theorem dX9_why_29 : decode cX9_why 29 = .ok (.ireturn, 1) := by decide +kernel
theorem dX9_wanted_0 : decode cX9_wanted 0 = .ok (.iload_n 1, 1) := by decide +kernel
theorem dX9_wanted_1 : decode cX9_wanted 1 = .ok (.iconst 0, 1) := by decide +kernel
theorem dX9_wanted_2 : decode cX9_wanted 2 = .ok (.bipush 60, 2) := by decide +kernel
theorem dX9_wanted_4 : decode cX9_wanted 4 = .ok (.invokestatic 65, 3) := by decide +kernel
theorem dX9_wanted_7 : decode cX9_wanted 7 = .ok (.ifCond .ne 6, 3) := by decide +kernel
theorem dX9_wanted_10 : decode cX9_wanted 10 = .ok (.ldc 95, 2) := by decide +kernel
theorem dX9_wanted_12 : decode cX9_wanted 12 = .ok (.ireturn, 1) := by decide +kernel
theorem dX9_wanted_13 : decode cX9_wanted 13 = .ok (.iconst 0, 1) := by decide +kernel
theorem dX9_wanted_14 : decode cX9_wanted 14 = .ok (.istore_n 2, 1) := by decide +kernel
theorem dX9_wanted_15 : decode cX9_wanted 15 = .ok (.iconst 0, 1) := by decide +kernel
theorem dX9_wanted_16 : decode cX9_wanted 16 = .ok (.istore_n 3, 1) := by decide +kernel
theorem dX9_wanted_17 : decode cX9_wanted 17 = .ok (.iload_n 3, 1) := by decide +kernel
theorem dX9_wanted_18 : decode cX9_wanted 18 = .ok (.aload_n 0, 1) := by decide +kernel
theorem dX9_wanted_19 : decode cX9_wanted 19 = .ok (.getfield 7, 3) := by decide +kernel
theorem dX9_wanted_22 : decode cX9_wanted 22 = .ok (.iconst 1, 1) := by decide +kernel
theorem dX9_wanted_23 : decode cX9_wanted 23 = .ok (.iaload, 1) := by decide +kernel
theorem dX9_wanted_24 : decode cX9_wanted 24 = .ok (.if_icmp .ge 41, 3) := by decide +kernel
theorem dX9_wanted_27 : decode cX9_wanted 27 = .ok (.iload_n 2, 1) := by decide +kernel
theorem dX9_wanted_28 : decode cX9_wanted 28 = .ok (.aload_n 0, 1) := by decide +kernel
theorem dX9_wanted_29 : decode cX9_wanted 29 = .ok (.iload_n 3, 1) := by decide +kernel
theorem dX9_wanted_30 : decode cX9_wanted 30 = .ok (.aload_n 0, 1) := by decide +kernel
theorem dX9_wanted_31 : decode cX9_wanted 31 = .ok (.getfield 7, 3) := by decide +kernel
theorem dX9_wanted_34 : decode cX9_wanted 34 = .ok (.iconst 3, 1) := by decide +kernel
theorem dX9_wanted_35 : decode cX9_wanted 35 = .ok (.iaload, 1) := by decide +kernel
theorem dX9_wanted_36 : decode cX9_wanted 36 = .ok (.iload_n 1, 1) := by decide +kernel
theorem dX9_wanted_37 : decode cX9_wanted 37 = .ok (.iadd, 1) := by decide +kernel
theorem dX9_wanted_38 : decode cX9_wanted 38 = .ok (.invokevirtual 82, 3) := by decide +kernel
theorem dX9_wanted_41 : decode cX9_wanted 41 = .ok (.ifCond .eq 15, 3) := by decide +kernel
theorem dX9_wanted_44 : decode cX9_wanted 44 = .ok (.aload_n 0, 1) := by decide +kernel
theorem dX9_wanted_45 : decode cX9_wanted 45 = .ok (.iload_n 3, 1) := by decide +kernel
theorem dX9_wanted_46 : decode cX9_wanted 46 = .ok (.iconst 1, 1) := by decide +kernel
theorem dX9_wanted_47 : decode cX9_wanted 47 = .ok (.invokevirtual 36, 3) := by decide +kernel
theorem dX9_wanted_50 : decode cX9_wanted 50 = .ok (.invokestatic 69, 3) := by decide +kernel
theorem dX9_wanted_53 : decode cX9_wanted 53 = .ok (.goto 4, 3) := by decide +kernel
theorem dX9_wanted_56 : decode cX9_wanted 56 = .ok (.iconst 0, 1) := by decide +kernel
theorem dX9_wanted_57 : decode cX9_wanted 57 = .ok (.iadd, 1) := by decide +kernel
theorem dX9_wanted_58 : decode cX9_wanted 58 = .ok (.istore_n 2, 1) := by decide +kernel
theorem dX9_wanted_59 : decode cX9_wanted 59 = .ok (.iinc 3 1, 3) := by decide +kernel
theorem dX9_wanted_62 : decode cX9_wanted 62 = .ok (.goto (-45), 3) := by decide +kernel
theorem dX9_wanted_65 : decode cX9_wanted 65 = .ok (.iload_n 2, 1) := by decide +kernel
theorem dX9_wanted_66 : decode cX9_wanted 66 = .ok (.ireturn, 1) := by decide +kernel
theorem dX9_hungry_0 : decode cX9_hungry 0 = .ok (.aload_n 0, 1) := by decide +kernel
theorem dX9_hungry_1 : decode cX9_hungry 1 = .ok (.getfield 7, 3) := by decide +kernel
theorem dX9_hungry_4 : decode cX9_hungry 4 = .ok (.aload_n 0, 1) := by decide +kernel
theorem dX9_hungry_5 : decode cX9_hungry 5 = .ok (.getfield 19, 3) := by decide +kernel
theorem dX9_hungry_8 : decode cX9_hungry 8 = .ok (.invokestatic 117, 3) := by decide +kernel
theorem dX9_hungry_11 : decode cX9_hungry 11 = .ok (.iconst 0, 1) := by decide +kernel
theorem dX9_hungry_12 : decode cX9_hungry 12 = .ok (.istore_n 1, 1) := by decide +kernel
theorem dX9_hungry_13 : decode cX9_hungry 13 = .ok (.iload_n 1, 1) := by decide +kernel
theorem dX9_hungry_14 : decode cX9_hungry 14 = .ok (.bipush 60, 2) := by decide +kernel
theorem dX9_hungry_16 : decode cX9_hungry 16 = .ok (.if_icmp .ge 30, 3) := by decide +kernel
theorem dX9_hungry_19 : decode cX9_hungry 19 = .ok (.aload_n 0, 1) := by decide +kernel
theorem dX9_hungry_20 : decode cX9_hungry 20 = .ok (.getfield 7, 3) := by decide +kernel
theorem dX9_hungry_23 : decode cX9_hungry 23 = .ok (.bipush 12, 2) := by decide +kernel
theorem dX9_hungry_25 : decode cX9_hungry 25 = .ok (.iaload, 1) := by decide +kernel
theorem dX9_hungry_26 : decode cX9_hungry 26 = .ok (.aload_n 0, 1) := by decide +kernel
theorem dX9_hungry_27 : decode cX9_hungry 27 = .ok (.getfield 19, 3) := by decide +kernel
theorem dX9_hungry_30 : decode cX9_hungry 30 = .ok (.bipush 12, 2) := by decide +kernel
theorem dX9_hungry_32 : decode cX9_hungry 32 = .ok (.iaload, 1) := by decide +kernel
theorem dX9_hungry_33 : decode cX9_hungry 33 = .ok (.if_icmp .ne 13, 3) := by decide +kernel
theorem dX9_hungry_36 : decode cX9_hungry 36 = .ok (.aload_n 0, 1) := by decide +kernel
theorem dX9_hungry_37 : decode cX9_hungry 37 = .ok (.invokevirtual 92, 3) := by decide +kernel
theorem dX9_hungry_40 : decode cX9_hungry 40 = .ok (.iinc 1 1, 3) := by decide +kernel
theorem dX9_hungry_43 : decode cX9_hungry 43 = .ok (.goto (-30), 3) := by decide +kernel
theorem dX9_hungry_46 : decode cX9_hungry 46 = .ok (.aload_n 0, 1) := by decide +kernel
theorem dX9_hungry_47 : decode cX9_hungry 47 = .ok (.getfield 7, 3) := by decide +kernel
theorem dX9_hungry_50 : decode cX9_hungry 50 = .ok (.bipush 12, 2) := by decide +kernel
theorem dX9_hungry_52 : decode cX9_hungry 52 = .ok (.iaload, 1) := by decide +kernel
theorem dX9_hungry_53 : decode cX9_hungry 53 = .ok (.aload_n 0, 1) := by decide +kernel
theorem dX9_hungry_54 : decode cX9_hungry 54 = .ok (.getfield 19, 3) := by decide +kernel
theorem dX9_hungry_57 : decode cX9_hungry 57 = .ok (.bipush 12, 2) := by decide +kernel
theorem dX9_hungry_59 : decode cX9_hungry 59 = .ok (.iaload, 1) := by decide +kernel
theorem dX9_hungry_60 : decode cX9_hungry 60 = .ok (.if_icmp .le 7, 3) := by decide +kernel
theorem dX9_hungry_63 : decode cX9_hungry 63 = .ok (.iconst 1, 1) := by decide +kernel
theorem dX9_hungry_64 : decode cX9_hungry 64 = .ok (.goto 4, 3) := by decide +kernel
theorem dX9_hungry_67 : decode cX9_hungry 67 = .ok (.iconst 0, 1) := by decide +kernel
theorem dX9_hungry_68 : decode cX9_hungry 68 = .ok (.istore_n 2, 1) := by decide +kernel
theorem dX9_hungry_69 : decode cX9_hungry 69 = .ok (.aload_n 0, 1) := by decide +kernel
theorem dX9_hungry_70 : decode cX9_hungry 70 = .ok (.getfield 19, 3) := by decide +kernel
theorem dX9_hungry_73 : decode cX9_hungry 73 = .ok (.aload_n 0, 1) := by decide +kernel
theorem dX9_hungry_74 : decode cX9_hungry 74 = .ok (.getfield 7, 3) := by decide +kernel
theorem dX9_hungry_77 : decode cX9_hungry 77 = .ok (.invokestatic 117, 3) := by decide +kernel
theorem dX9_hungry_80 : decode cX9_hungry 80 = .ok (.iload_n 2, 1) := by decide +kernel
theorem dX9_hungry_81 : decode cX9_hungry 81 = .ok (.ifCond .eq 7, 3) := by decide +kernel
theorem dX9_hungry_84 : decode cX9_hungry 84 = .ok (.iload_n 1, 1) := by decide +kernel
theorem dX9_hungry_85 : decode cX9_hungry 85 = .ok (.goto 5, 3) := by decide +kernel
theorem dX9_hungry_88 : decode cX9_hungry 88 = .ok (.ldc 40, 2) := by decide +kernel
theorem dX9_hungry_90 : decode cX9_hungry 90 = .ok (.ireturn, 1) := by decide +kernel
theorem dX9_nextMule_0 : decode cX9_nextMule 0 = .ok (.ldc 40, 2) := by decide +kernel
theorem dX9_nextMule_2 : decode cX9_nextMule 2 = .ok (.istore_n 1, 1) := by decide +kernel
theorem dX9_nextMule_3 : decode cX9_nextMule 3 = .ok (.iconst 0, 1) := by decide +kernel
theorem dX9_nextMule_4 : decode cX9_nextMule 4 = .ok (.istore_n 2, 1) := by decide +kernel
theorem dX9_nextMule_5 : decode cX9_nextMule 5 = .ok (.iload_n 2, 1) := by decide +kernel
theorem dX9_nextMule_6 : decode cX9_nextMule 6 = .ok (.aload_n 0, 1) := by decide +kernel
theorem dX9_nextMule_7 : decode cX9_nextMule 7 = .ok (.getfield 7, 3) := by decide +kernel
theorem dX9_nextMule_10 : decode cX9_nextMule 10 = .ok (.iconst 0, 1) := by decide +kernel
theorem dX9_nextMule_11 : decode cX9_nextMule 11 = .ok (.iaload, 1) := by decide +kernel
theorem dX9_nextMule_12 : decode cX9_nextMule 12 = .ok (.if_icmp .ge 85, 3) := by decide +kernel
theorem dX9_nextMule_15 : decode cX9_nextMule 15 = .ok (.aload_n 0, 1) := by decide +kernel
theorem dX9_nextMule_16 : decode cX9_nextMule 16 = .ok (.iload_n 2, 1) := by decide +kernel
theorem dX9_nextMule_17 : decode cX9_nextMule 17 = .ok (.iconst 2, 1) := by decide +kernel
theorem dX9_nextMule_18 : decode cX9_nextMule 18 = .ok (.invokevirtual 44, 3) := by decide +kernel
theorem dX9_nextMule_21 : decode cX9_nextMule 21 = .ok (.ifCond .ne 58, 3) := by decide +kernel
theorem dX9_nextMule_24 : decode cX9_nextMule 24 = .ok (.iload_n 1, 1) := by decide +kernel
theorem dX9_nextMule_25 : decode cX9_nextMule 25 = .ok (.ifCond .lt 50, 3) := by decide +kernel
theorem dX9_nextMule_28 : decode cX9_nextMule 28 = .ok (.aload_n 0, 1) := by decide +kernel
theorem dX9_nextMule_29 : decode cX9_nextMule 29 = .ok (.iload_n 2, 1) := by decide +kernel
theorem dX9_nextMule_30 : decode cX9_nextMule 30 = .ok (.iconst 0, 1) := by decide +kernel
theorem dX9_nextMule_31 : decode cX9_nextMule 31 = .ok (.invokevirtual 44, 3) := by decide +kernel
theorem dX9_nextMule_34 : decode cX9_nextMule 34 = .ok (.aload_n 0, 1) := by decide +kernel
theorem dX9_nextMule_35 : decode cX9_nextMule 35 = .ok (.iload_n 1, 1) := by decide +kernel
theorem dX9_nextMule_36 : decode cX9_nextMule 36 = .ok (.iconst 0, 1) := by decide +kernel
theorem dX9_nextMule_37 : decode cX9_nextMule 37 = .ok (.invokevirtual 44, 3) := by decide +kernel
theorem dX9_nextMule_40 : decode cX9_nextMule 40 = .ok (.if_icmp .gt 35, 3) := by decide +kernel
theorem dX9_nextMule_43 : decode cX9_nextMule 43 = .ok (.aload_n 0, 1) := by decide +kernel
theorem dX9_nextMule_44 : decode cX9_nextMule 44 = .ok (.iload_n 2, 1) := by decide +kernel
theorem dX9_nextMule_45 : decode cX9_nextMule 45 = .ok (.iconst 0, 1) := by decide +kernel
theorem dX9_nextMule_46 : decode cX9_nextMule 46 = .ok (.invokevirtual 44, 3) := by decide +kernel
theorem dX9_nextMule_49 : decode cX9_nextMule 49 = .ok (.aload_n 0, 1) := by decide +kernel
theorem dX9_nextMule_50 : decode cX9_nextMule 50 = .ok (.iload_n 1, 1) := by decide +kernel
theorem dX9_nextMule_51 : decode cX9_nextMule 51 = .ok (.iconst 0, 1) := by decide +kernel
theorem dX9_nextMule_52 : decode cX9_nextMule 52 = .ok (.invokevirtual 44, 3) := by decide +kernel
theorem dX9_nextMule_55 : decode cX9_nextMule 55 = .ok (.if_icmp .ne 24, 3) := by decide +kernel
theorem dX9_nextMule_58 : decode cX9_nextMule 58 = .ok (.aload_n 0, 1) := by decide +kernel
theorem dX9_nextMule_59 : decode cX9_nextMule 59 = .ok (.iload_n 2, 1) := by decide +kernel
theorem dX9_nextMule_60 : decode cX9_nextMule 60 = .ok (.bipush 6, 2) := by decide +kernel
theorem dX9_nextMule_62 : decode cX9_nextMule 62 = .ok (.invokevirtual 44, 3) := by decide +kernel
theorem dX9_nextMule_65 : decode cX9_nextMule 65 = .ok (.aload_n 0, 1) := by decide +kernel
theorem dX9_nextMule_66 : decode cX9_nextMule 66 = .ok (.iload_n 1, 1) := by decide +kernel
theorem dX9_nextMule_67 : decode cX9_nextMule 67 = .ok (.bipush 6, 2) := by decide +kernel
theorem dX9_nextMule_69 : decode cX9_nextMule 69 = .ok (.invokevirtual 44, 3) := by decide +kernel
theorem dX9_nextMule_72 : decode cX9_nextMule 72 = .ok (.if_icmp .ge 7, 3) := by decide +kernel
theorem dX9_nextMule_75 : decode cX9_nextMule 75 = .ok (.iconst 1, 1) := by decide +kernel
theorem dX9_nextMule_76 : decode cX9_nextMule 76 = .ok (.goto 4, 3) := by decide +kernel
theorem dX9_nextMule_79 : decode cX9_nextMule 79 = .ok (.iconst 0, 1) := by decide +kernel
theorem dX9_nextMule_80 : decode cX9_nextMule 80 = .ok (.istore_n 3, 1) := by decide +kernel
theorem dX9_nextMule_81 : decode cX9_nextMule 81 = .ok (.iload_n 3, 1) := by decide +kernel
theorem dX9_nextMule_82 : decode cX9_nextMule 82 = .ok (.ifCond .eq 7, 3) := by decide +kernel
theorem dX9_nextMule_85 : decode cX9_nextMule 85 = .ok (.iload_n 2, 1) := by decide +kernel
theorem dX9_nextMule_86 : decode cX9_nextMule 86 = .ok (.goto 4, 3) := by decide +kernel
theorem dX9_nextMule_89 : decode cX9_nextMule 89 = .ok (.iload_n 1, 1) := by decide +kernel
theorem dX9_nextMule_90 : decode cX9_nextMule 90 = .ok (.istore_n 1, 1) := by decide +kernel
theorem dX9_nextMule_91 : decode cX9_nextMule 91 = .ok (.iinc 2 1, 3) := by decide +kernel
theorem dX9_nextMule_94 : decode cX9_nextMule 94 = .ok (.goto (-89), 3) := by decide +kernel
theorem dX9_nextMule_97 : decode cX9_nextMule 97 = .ok (.iload_n 1, 1) := by decide +kernel
theorem dX9_nextMule_98 : decode cX9_nextMule 98 = .ok (.ireturn, 1) := by decide +kernel
theorem dX9_next_0 : decode cX9_next 0 = .ok (.iload_n 1, 1) := by decide +kernel
theorem dX9_next_1 : decode cX9_next 1 = .ok (.iconst 0, 1) := by decide +kernel
theorem dX9_next_2 : decode cX9_next 2 = .ok (.iconst 1, 1) := by decide +kernel
theorem dX9_next_3 : decode cX9_next 3 = .ok (.invokestatic 65, 3) := by decide +kernel
theorem dX9_next_6 : decode cX9_next 6 = .ok (.ifCond .ne 6, 3) := by decide +kernel
theorem dX9_next_9 : decode cX9_next 9 = .ok (.ldc 95, 2) := by decide +kernel
theorem dX9_next_11 : decode cX9_next 11 = .ok (.ireturn, 1) := by decide +kernel
theorem dX9_next_12 : decode cX9_next 12 = .ok (.aload_n 0, 1) := by decide +kernel
theorem dX9_next_13 : decode cX9_next 13 = .ok (.invokevirtual 121, 3) := by decide +kernel
theorem dX9_next_16 : decode cX9_next 16 = .ok (.istore_n 2, 1) := by decide +kernel
theorem dX9_next_17 : decode cX9_next 17 = .ok (.iload_n 2, 1) := by decide +kernel
theorem dX9_next_18 : decode cX9_next 18 = .ok (.ifCond .lt 7, 3) := by decide +kernel
theorem dX9_next_21 : decode cX9_next 21 = .ok (.iload_n 1, 1) := by decide +kernel
theorem dX9_next_22 : decode cX9_next 22 = .ok (.ifCond .ne 5, 3) := by decide +kernel
theorem dX9_next_25 : decode cX9_next 25 = .ok (.iload_n 2, 1) := by decide +kernel
theorem dX9_next_26 : decode cX9_next 26 = .ok (.ireturn, 1) := by decide +kernel
theorem dX9_next_27 : decode cX9_next 27 = .ok (.aload_n 0, 1) := by decide +kernel
theorem dX9_next_28 : decode cX9_next 28 = .ok (.getfield 7, 3) := by decide +kernel
theorem dX9_next_31 : decode cX9_next 31 = .ok (.bipush 6, 2) := by decide +kernel
theorem dX9_next_33 : decode cX9_next 33 = .ok (.iaload, 1) := by decide +kernel
theorem dX9_next_34 : decode cX9_next 34 = .ok (.aload_n 0, 1) := by decide +kernel
theorem dX9_next_35 : decode cX9_next 35 = .ok (.getfield 7, 3) := by decide +kernel
theorem dX9_next_38 : decode cX9_next 38 = .ok (.bipush 16, 2) := by decide +kernel
theorem dX9_next_40 : decode cX9_next 40 = .ok (.iaload, 1) := by decide +kernel
theorem dX9_next_41 : decode cX9_next 41 = .ok (.if_icmp .le 7, 3) := by decide +kernel
theorem dX9_next_44 : decode cX9_next 44 = .ok (.iconst 0, 1) := by decide +kernel
theorem dX9_next_45 : decode cX9_next 45 = .ok (.goto 26, 3) := by decide +kernel
theorem dX9_next_48 : decode cX9_next 48 = .ok (.aload_n 0, 1) := by decide +kernel
theorem dX9_next_49 : decode cX9_next 49 = .ok (.getfield 7, 3) := by decide +kernel
theorem dX9_next_52 : decode cX9_next 52 = .ok (.bipush 16, 2) := by decide +kernel
theorem dX9_next_54 : decode cX9_next 54 = .ok (.iaload, 1) := by decide +kernel
theorem dX9_next_55 : decode cX9_next 55 = .ok (.aload_n 0, 1) := by decide +kernel
theorem dX9_next_56 : decode cX9_next 56 = .ok (.getfield 7, 3) := by decide +kernel
theorem dX9_next_59 : decode cX9_next 59 = .ok (.bipush 6, 2) := by decide +kernel
theorem dX9_next_61 : decode cX9_next 61 = .ok (.iaload, 1) := by decide +kernel
theorem dX9_next_62 : decode cX9_next 62 = .ok (.isub, 1) := by decide +kernel
theorem dX9_next_63 : decode cX9_next 63 = .ok (.aload_n 0, 1) := by decide +kernel
theorem dX9_next_64 : decode cX9_next 64 = .ok (.getfield 7, 3) := by decide +kernel
theorem dX9_next_67 : decode cX9_next 67 = .ok (.bipush 15, 2) := by decide +kernel
theorem dX9_next_69 : decode cX9_next 69 = .ok (.iaload, 1) := by decide +kernel
theorem dX9_next_70 : decode cX9_next 70 = .ok (.idiv, 1) := by decide +kernel
theorem dX9_next_71 : decode cX9_next 71 = .ok (.istore_n 3, 1) := by decide +kernel
theorem dX9_next_72 : decode cX9_next 72 = .ok (.iload_n 3, 1) := by decide +kernel
theorem dX9_next_73 : decode cX9_next 73 = .ok (.aload_n 0, 1) := by decide +kernel
theorem dX9_next_74 : decode cX9_next 74 = .ok (.iload_n 2, 1) := by decide +kernel
theorem dX9_next_75 : decode cX9_next 75 = .ok (.iconst 0, 1) := by decide +kernel
theorem dX9_next_76 : decode cX9_next 76 = .ok (.invokevirtual 44, 3) := by decide +kernel
theorem dX9_next_79 : decode cX9_next 79 = .ok (.invokestatic 55, 3) := by decide +kernel
theorem dX9_next_82 : decode cX9_next 82 = .ok (.ireturn, 1) := by decide +kernel
theorem dX9_would_0 : decode cX9_would 0 = .ok (.iload_n 1, 1) := by decide +kernel
theorem dX9_would_1 : decode cX9_would 1 = .ok (.iconst 1, 1) := by decide +kernel
theorem dX9_would_2 : decode cX9_would 2 = .ok (.bipush 60, 2) := by decide +kernel
theorem dX9_would_4 : decode cX9_would 4 = .ok (.invokestatic 65, 3) := by decide +kernel
theorem dX9_would_7 : decode cX9_would 7 = .ok (.ifCond .eq 12, 3) := by decide +kernel
theorem dX9_would_10 : decode cX9_would 10 = .ok (.iload_n 2, 1) := by decide +kernel
theorem dX9_would_11 : decode cX9_would 11 = .ok (.iconst 0, 1) := by decide +kernel
theorem dX9_would_12 : decode cX9_would 12 = .ok (.iconst 3, 1) := by decide +kernel
theorem dX9_would_13 : decode cX9_would 13 = .ok (.invokestatic 65, 3) := by decide +kernel
theorem dX9_would_16 : decode cX9_would 16 = .ok (.ifCond .ne 6, 3) := by decide +kernel
theorem dX9_would_19 : decode cX9_would 19 = .ok (.ldc 95, 2) := by decide +kernel
theorem dX9_would_21 : decode cX9_would 21 = .ok (.ireturn, 1) := by decide +kernel
theorem dX9_would_22 : decode cX9_would 22 = .ok (.aload_n 0, 1) := by decide +kernel
theorem dX9_would_23 : decode cX9_would 23 = .ok (.getfield 7, 3) := by decide +kernel
theorem dX9_would_26 : decode cX9_would 26 = .ok (.aload_n 0, 1) := by decide +kernel
theorem dX9_would_27 : decode cX9_would 27 = .ok (.getfield 19, 3) := by decide +kernel
theorem dX9_would_30 : decode cX9_would 30 = .ok (.invokestatic 117, 3) := by decide +kernel
theorem dX9_would_33 : decode cX9_would 33 = .ok (.aload_n 0, 1) := by decide +kernel
theorem dX9_would_34 : decode cX9_would 34 = .ok (.iload_n 1, 1) := by decide +kernel
theorem dX9_would_35 : decode cX9_would 35 = .ok (.invokevirtual 111, 3) := by decide +kernel
theorem dX9_would_38 : decode cX9_would 38 = .ok (.istore_n 3, 1) := by decide +kernel
theorem dX9_would_39 : decode cX9_would 39 = .ok (.iload_n 2, 1) := by decide +kernel
theorem dX9_would_40 : decode cX9_would 40 = .ok (.ifCond .ne 7, 3) := by decide +kernel
theorem dX9_would_43 : decode cX9_would 43 = .ok (.iload_n 3, 1) := by decide +kernel
theorem dX9_would_44 : decode cX9_would 44 = .ok (.goto 60, 3) := by decide +kernel
theorem dX9_would_47 : decode cX9_would 47 = .ok (.iload_n 2, 1) := by decide +kernel
theorem dX9_would_48 : decode cX9_would 48 = .ok (.iconst 1, 1) := by decide +kernel
theorem dX9_would_49 : decode cX9_would 49 = .ok (.if_icmp .ne 12, 3) := by decide +kernel
theorem dX9_would_52 : decode cX9_would 52 = .ok (.aload_n 0, 1) := by decide +kernel
theorem dX9_would_53 : decode cX9_would 53 = .ok (.getfield 7, 3) := by decide +kernel
theorem dX9_would_56 : decode cX9_would 56 = .ok (.iconst 5, 1) := by decide +kernel
theorem dX9_would_57 : decode cX9_would 57 = .ok (.iaload, 1) := by decide +kernel
theorem dX9_would_58 : decode cX9_would 58 = .ok (.goto 46, 3) := by decide +kernel
theorem dX9_would_61 : decode cX9_would 61 = .ok (.iload_n 2, 1) := by decide +kernel
theorem dX9_would_62 : decode cX9_would 62 = .ok (.iconst 2, 1) := by decide +kernel
theorem dX9_would_63 : decode cX9_would 63 = .ok (.if_icmp .ne 10, 3) := by decide +kernel
theorem dX9_would_66 : decode cX9_would 66 = .ok (.aload_n 0, 1) := by decide +kernel
theorem dX9_would_67 : decode cX9_would 67 = .ok (.invokevirtual 51, 3) := by decide +kernel
theorem dX9_would_70 : decode cX9_would 70 = .ok (.goto 34, 3) := by decide +kernel
theorem dX9_would_73 : decode cX9_would 73 = .ok (.aload_n 0, 1) := by decide +kernel
theorem dX9_would_74 : decode cX9_would 74 = .ok (.getfield 7, 3) := by decide +kernel
theorem dX9_would_77 : decode cX9_would 77 = .ok (.bipush 9, 2) := by decide +kernel
theorem dX9_would_79 : decode cX9_would 79 = .ok (.iaload, 1) := by decide +kernel
theorem dX9_would_80 : decode cX9_would 80 = .ok (.aload_n 0, 1) := by decide +kernel
theorem dX9_would_81 : decode cX9_would 81 = .ok (.getfield 7, 3) := by decide +kernel
theorem dX9_would_84 : decode cX9_would 84 = .ok (.bipush 10, 2) := by decide +kernel
theorem dX9_would_86 : decode cX9_would 86 = .ok (.iaload, 1) := by decide +kernel
theorem dX9_would_87 : decode cX9_would 87 = .ok (.iadd, 1) := by decide +kernel
theorem dX9_would_88 : decode cX9_would 88 = .ok (.aload_n 0, 1) := by decide +kernel
theorem dX9_would_89 : decode cX9_would 89 = .ok (.getfield 19, 3) := by decide +kernel
theorem dX9_would_92 : decode cX9_would 92 = .ok (.bipush 9, 2) := by decide +kernel
theorem dX9_would_94 : decode cX9_would 94 = .ok (.iaload, 1) := by decide +kernel
theorem dX9_would_95 : decode cX9_would 95 = .ok (.isub, 1) := by decide +kernel
theorem dX9_would_96 : decode cX9_would 96 = .ok (.aload_n 0, 1) := by decide +kernel
theorem dX9_would_97 : decode cX9_would 97 = .ok (.getfield 19, 3) := by decide +kernel
theorem dX9_would_100 : decode cX9_would 100 = .ok (.bipush 10, 2) := by decide +kernel
theorem dX9_would_102 : decode cX9_would 102 = .ok (.iaload, 1) := by decide +kernel
theorem dX9_would_103 : decode cX9_would 103 = .ok (.isub, 1) := by decide +kernel
theorem dX9_would_104 : decode cX9_would 104 = .ok (.istore 4, 2) := by decide +kernel
theorem dX9_would_106 : decode cX9_would 106 = .ok (.aload_n 0, 1) := by decide +kernel
theorem dX9_would_107 : decode cX9_would 107 = .ok (.getfield 19, 3) := by decide +kernel
theorem dX9_would_110 : decode cX9_would 110 = .ok (.aload_n 0, 1) := by decide +kernel
theorem dX9_would_111 : decode cX9_would 111 = .ok (.getfield 7, 3) := by decide +kernel
theorem dX9_would_114 : decode cX9_would 114 = .ok (.invokestatic 117, 3) := by decide +kernel
theorem dX9_would_117 : decode cX9_would 117 = .ok (.iload 4, 2) := by decide +kernel
theorem dX9_would_119 : decode cX9_would 119 = .ok (.ireturn, 1) := by decide +kernel
theorem dX9_mean_0 : decode cX9_mean 0 = .ok (.iconst 0, 1) := by decide +kernel
theorem dX9_mean_1 : decode cX9_mean 1 = .ok (.istore_n 1, 1) := by decide +kernel
theorem dX9_mean_2 : decode cX9_mean 2 = .ok (.iconst 0, 1) := by decide +kernel
theorem dX9_mean_3 : decode cX9_mean 3 = .ok (.istore_n 2, 1) := by decide +kernel
theorem dX9_mean_4 : decode cX9_mean 4 = .ok (.iload_n 2, 1) := by decide +kernel
theorem dX9_mean_5 : decode cX9_mean 5 = .ok (.bipush 20, 2) := by decide +kernel
theorem dX9_mean_7 : decode cX9_mean 7 = .ok (.if_icmp .gt 23, 3) := by decide +kernel
theorem dX9_mean_10 : decode cX9_mean 10 = .ok (.iload_n 1, 1) := by decide +kernel
theorem dX9_mean_11 : decode cX9_mean 11 = .ok (.iload_n 2, 1) := by decide +kernel
theorem dX9_mean_12 : decode cX9_mean 12 = .ok (.aload_n 0, 1) := by decide +kernel
theorem dX9_mean_13 : decode cX9_mean 13 = .ok (.getfield 7, 3) := by decide +kernel
theorem dX9_mean_16 : decode cX9_mean 16 = .ok (.bipush 115, 2) := by decide +kernel
theorem dX9_mean_18 : decode cX9_mean 18 = .ok (.iload_n 2, 1) := by decide +kernel
theorem dX9_mean_19 : decode cX9_mean 19 = .ok (.iadd, 1) := by decide +kernel
theorem dX9_mean_20 : decode cX9_mean 20 = .ok (.iaload, 1) := by decide +kernel
theorem dX9_mean_21 : decode cX9_mean 21 = .ok (.imul, 1) := by decide +kernel
theorem dX9_mean_22 : decode cX9_mean 22 = .ok (.iadd, 1) := by decide +kernel
theorem dX9_mean_23 : decode cX9_mean 23 = .ok (.istore_n 1, 1) := by decide +kernel
theorem dX9_mean_24 : decode cX9_mean 24 = .ok (.iinc 2 1, 3) := by decide +kernel
theorem dX9_mean_27 : decode cX9_mean 27 = .ok (.goto (-23), 3) := by decide +kernel
theorem dX9_mean_30 : decode cX9_mean 30 = .ok (.aload_n 0, 1) := by decide +kernel
theorem dX9_mean_31 : decode cX9_mean 31 = .ok (.invokevirtual 51, 3) := by decide +kernel
theorem dX9_mean_34 : decode cX9_mean 34 = .ok (.istore_n 2, 1) := by decide +kernel
theorem dX9_mean_35 : decode cX9_mean 35 = .ok (.iload_n 1, 1) := by decide +kernel
theorem dX9_mean_36 : decode cX9_mean 36 = .ok (.i2f, 1) := by decide +kernel
theorem dX9_mean_37 : decode cX9_mean 37 = .ok (.iload_n 2, 1) := by decide +kernel
theorem dX9_mean_38 : decode cX9_mean 38 = .ok (.ifCond .ne 7, 3) := by decide +kernel
theorem dX9_mean_41 : decode cX9_mean 41 = .ok (.iconst 1, 1) := by decide +kernel
theorem dX9_mean_42 : decode cX9_mean 42 = .ok (.goto 4, 3) := by decide +kernel
theorem dX9_mean_45 : decode cX9_mean 45 = .ok (.iload_n 2, 1) := by decide +kernel
theorem dX9_mean_46 : decode cX9_mean 46 = .ok (.i2f, 1) := by decide +kernel
theorem dX9_mean_47 : decode cX9_mean 47 = .ok (.fdiv, 1) := by decide +kernel
theorem dX9_mean_48 : decode cX9_mean 48 = .ok (.fstore_n 3, 1) := by decide +kernel
theorem dX9_mean_49 : decode cX9_mean 49 = .ok (.iload_n 2, 1) := by decide +kernel
theorem dX9_mean_50 : decode cX9_mean 50 = .ok (.ifCond .ne 8, 3) := by decide +kernel
theorem dX9_mean_53 : decode cX9_mean 53 = .ok (.ldc 40, 2) := by decide +kernel
theorem dX9_mean_55 : decode cX9_mean 55 = .ok (.goto 7, 3) := by decide +kernel
theorem dX9_mean_58 : decode cX9_mean 58 = .ok (.fload_n 3, 1) := by decide +kernel
theorem dX9_mean_59 : decode cX9_mean 59 = .ok (.invokestatic 124, 3) := by decide +kernel
theorem dX9_mean_62 : decode cX9_mean 62 = .ok (.ireturn, 1) := by decide +kernel
theorem dX9_onTheWay_0 : decode cX9_onTheWay 0 = .ok (.iconst 0, 1) := by decide +kernel
theorem dX9_onTheWay_1 : decode cX9_onTheWay 1 = .ok (.istore_n 1, 1) := by decide +kernel
theorem dX9_onTheWay_2 : decode cX9_onTheWay 2 = .ok (.iconst 0, 1) := by decide +kernel
theorem dX9_onTheWay_3 : decode cX9_onTheWay 3 = .ok (.istore_n 2, 1) := by decide +kernel
theorem dX9_onTheWay_4 : decode cX9_onTheWay 4 = .ok (.iload_n 2, 1) := by decide +kernel
theorem dX9_onTheWay_5 : decode cX9_onTheWay 5 = .ok (.aload_n 0, 1) := by decide +kernel
theorem dX9_onTheWay_6 : decode cX9_onTheWay 6 = .ok (.getfield 7, 3) := by decide +kernel
theorem dX9_onTheWay_9 : decode cX9_onTheWay 9 = .ok (.iconst 0, 1) := by decide +kernel
theorem dX9_onTheWay_10 : decode cX9_onTheWay 10 = .ok (.iaload, 1) := by decide +kernel
theorem dX9_onTheWay_11 : decode cX9_onTheWay 11 = .ok (.if_icmp .ge 18, 3) := by decide +kernel
theorem dX9_onTheWay_14 : decode cX9_onTheWay 14 = .ok (.iload_n 1, 1) := by decide +kernel
theorem dX9_onTheWay_15 : decode cX9_onTheWay 15 = .ok (.aload_n 0, 1) := by decide +kernel
theorem dX9_onTheWay_16 : decode cX9_onTheWay 16 = .ok (.iload_n 2, 1) := by decide +kernel
theorem dX9_onTheWay_17 : decode cX9_onTheWay 17 = .ok (.iconst 4, 1) := by decide +kernel
theorem dX9_onTheWay_18 : decode cX9_onTheWay 18 = .ok (.invokevirtual 44, 3) := by decide +kernel
theorem dX9_onTheWay_21 : decode cX9_onTheWay 21 = .ok (.iadd, 1) := by decide +kernel
theorem dX9_onTheWay_22 : decode cX9_onTheWay 22 = .ok (.istore_n 1, 1) := by decide +kernel
theorem dX9_onTheWay_23 : decode cX9_onTheWay 23 = .ok (.iinc 2 1, 3) := by decide +kernel
theorem dX9_onTheWay_26 : decode cX9_onTheWay 26 = .ok (.goto (-22), 3) := by decide +kernel
theorem dX9_onTheWay_29 : decode cX9_onTheWay 29 = .ok (.iload_n 1, 1) := by decide +kernel
theorem dX9_onTheWay_30 : decode cX9_onTheWay 30 = .ok (.ireturn, 1) := by decide +kernel
theorem dX9_count_0 : decode cX9_count 0 = .ok (.iload_n 1, 1) := by decide +kernel
theorem dX9_count_1 : decode cX9_count 1 = .ok (.tableswitch 136 0 19 #[95, 95, 95, 95, 95, 95, 95, 102, 107, 112, 117, 117, 117, 117, 117, 117, 117, 117, 126, 131], 95) := by decide +kernel
theorem dX9_count_96 : decode cX9_count 96 = .ok (.aload_n 0, 1) := by decide +kernel
theorem dX9_count_97 : decode cX9_count 97 = .ok (.getfield 7, 3) := by decide +kernel
theorem dX9_count_100 : decode cX9_count 100 = .ok (.iload_n 1, 1) := by decide +kernel
theorem dX9_count_101 : decode cX9_count 101 = .ok (.iaload, 1) := by decide +kernel
theorem dX9_count_102 : decode cX9_count 102 = .ok (.ireturn, 1) := by decide +kernel
theorem dX9_count_103 : decode cX9_count 103 = .ok (.aload_n 0, 1) := by decide +kernel
theorem dX9_count_104 : decode cX9_count 104 = .ok (.invokevirtual 51, 3) := by decide +kernel
theorem dX9_count_107 : decode cX9_count 107 = .ok (.ireturn, 1) := by decide +kernel
theorem dX9_count_108 : decode cX9_count 108 = .ok (.aload_n 0, 1) := by decide +kernel
theorem dX9_count_109 : decode cX9_count 109 = .ok (.invokevirtual 76, 3) := by decide +kernel
theorem dX9_count_112 : decode cX9_count 112 = .ok (.ireturn, 1) := by decide +kernel
theorem dX9_count_113 : decode cX9_count 113 = .ok (.aload_n 0, 1) := by decide +kernel
theorem dX9_count_114 : decode cX9_count 114 = .ok (.invokevirtual 130, 3) := by decide +kernel
theorem dX9_count_117 : decode cX9_count 117 = .ok (.ireturn, 1) := by decide +kernel
theorem dX9_count_118 : decode cX9_count 118 = .ok (.aload_n 0, 1) := by decide +kernel
theorem dX9_count_119 : decode cX9_count 119 = .ok (.getfield 7, 3) := by decide +kernel
theorem dX9_count_122 : decode cX9_count 122 = .ok (.iload_n 1, 1) := by decide +kernel
theorem dX9_count_123 : decode cX9_count 123 = .ok (.iconst 3, 1) := by decide +kernel
theorem dX9_count_124 : decode cX9_count 124 = .ok (.isub, 1) := by decide +kernel
theorem dX9_count_125 : decode cX9_count 125 = .ok (.iaload, 1) := by decide +kernel
theorem dX9_count_126 : decode cX9_count 126 = .ok (.ireturn, 1) := by decide +kernel
theorem dX9_count_127 : decode cX9_count 127 = .ok (.aload_n 0, 1) := by decide +kernel
theorem dX9_count_128 : decode cX9_count 128 = .ok (.getfield 32, 3) := by decide +kernel
theorem dX9_count_131 : decode cX9_count 131 = .ok (.ireturn, 1) := by decide +kernel
theorem dX9_count_132 : decode cX9_count 132 = .ok (.aload_n 0, 1) := by decide +kernel
theorem dX9_count_133 : decode cX9_count 133 = .ok (.getfield 133, 3) := by decide +kernel
theorem dX9_count_136 : decode cX9_count 136 = .ok (.ireturn, 1) := by decide +kernel
theorem dX9_count_137 : decode cX9_count 137 = .ok (.iload_n 1, 1) := by decide +kernel
theorem dX9_count_138 : decode cX9_count 138 = .ok (.bipush 20, 2) := by decide +kernel
theorem dX9_count_140 : decode cX9_count 140 = .ok (.bipush 23, 2) := by decide +kernel
theorem dX9_count_142 : decode cX9_count 142 = .ok (.invokestatic 65, 3) := by decide +kernel
theorem dX9_count_145 : decode cX9_count 145 = .ok (.ifCond .eq 18, 3) := by decide +kernel
theorem dX9_count_148 : decode cX9_count 148 = .ok (.aload_n 0, 1) := by decide +kernel
theorem dX9_count_149 : decode cX9_count 149 = .ok (.getfield 7, 3) := by decide +kernel
theorem dX9_count_152 : decode cX9_count 152 = .ok (.bipush 15, 2) := by decide +kernel
theorem dX9_count_154 : decode cX9_count 154 = .ok (.iload_n 1, 1) := by decide +kernel
theorem dX9_count_155 : decode cX9_count 155 = .ok (.iadd, 1) := by decide +kernel
theorem dX9_count_156 : decode cX9_count 156 = .ok (.bipush 20, 2) := by decide +kernel
theorem dX9_count_158 : decode cX9_count 158 = .ok (.isub, 1) := by decide +kernel
theorem dX9_count_159 : decode cX9_count 159 = .ok (.iaload, 1) := by decide +kernel
theorem dX9_count_160 : decode cX9_count 160 = .ok (.goto 5, 3) := by decide +kernel
theorem dX9_count_163 : decode cX9_count 163 = .ok (.ldc 95, 2) := by decide +kernel
theorem dX9_count_165 : decode cX9_count 165 = .ok (.ireturn, 1) := by decide +kernel
theorem dX9_undo_0 : decode cX9_undo 0 = .ok (.aload_n 0, 1) := by decide +kernel
theorem dX9_undo_1 : decode cX9_undo 1 = .ok (.getfield 32, 3) := by decide +kernel
theorem dX9_undo_4 : decode cX9_undo 4 = .ok (.ifCond .ne 6, 3) := by decide +kernel
theorem dX9_undo_7 : decode cX9_undo 7 = .ok (.ldc 107, 2) := by decide +kernel
theorem dX9_undo_9 : decode cX9_undo 9 = .ok (.ireturn, 1) := by decide +kernel
theorem dX9_undo_10 : decode cX9_undo 10 = .ok (.aload_n 0, 1) := by decide +kernel
theorem dX9_undo_11 : decode cX9_undo 11 = .ok (.dup, 1) := by decide +kernel
theorem dX9_undo_12 : decode cX9_undo 12 = .ok (.getfield 32, 3) := by decide +kernel
theorem dX9_undo_15 : decode cX9_undo 15 = .ok (.iconst 1, 1) := by decide +kernel
theorem dX9_undo_16 : decode cX9_undo 16 = .ok (.isub, 1) := by decide +kernel
theorem dX9_undo_17 : decode cX9_undo 17 = .ok (.putfield 32, 3) := by decide +kernel
theorem dX9_undo_20 : decode cX9_undo 20 = .ok (.iconst 0, 1) := by decide +kernel
theorem dX9_undo_21 : decode cX9_undo 21 = .ok (.istore_n 1, 1) := by decide +kernel
theorem dX9_undo_22 : decode cX9_undo 22 = .ok (.iload_n 1, 1) := by decide +kernel
theorem dX9_undo_23 : decode cX9_undo 23 = .ok (.sipush 136, 3) := by decide +kernel
theorem dX9_undo_26 : decode cX9_undo 26 = .ok (.if_icmp .ge 30, 3) := by decide +kernel
theorem dX9_undo_29 : decode cX9_undo 29 = .ok (.aload_n 0, 1) := by decide +kernel
theorem dX9_undo_30 : decode cX9_undo 30 = .ok (.getfield 7, 3) := by decide +kernel
theorem dX9_undo_33 : decode cX9_undo 33 = .ok (.iload_n 1, 1) := by decide +kernel
theorem dX9_undo_34 : decode cX9_undo 34 = .ok (.aload_n 0, 1) := by decide +kernel
theorem dX9_undo_35 : decode cX9_undo 35 = .ok (.getfield 13, 3) := by decide +kernel
theorem dX9_undo_38 : decode cX9_undo 38 = .ok (.sipush 136, 3) := by decide +kernel
theorem dX9_undo_41 : decode cX9_undo 41 = .ok (.aload_n 0, 1) := by decide +kernel
theorem dX9_undo_42 : decode cX9_undo 42 = .ok (.getfield 32, 3) := by decide +kernel
theorem dX9_undo_45 : decode cX9_undo 45 = .ok (.imul, 1) := by decide +kernel
theorem dX9_undo_46 : decode cX9_undo 46 = .ok (.iload_n 1, 1) := by decide +kernel
theorem dX9_undo_47 : decode cX9_undo 47 = .ok (.iadd, 1) := by decide +kernel
theorem dX9_undo_48 : decode cX9_undo 48 = .ok (.iaload, 1) := by decide +kernel
theorem dX9_undo_49 : decode cX9_undo 49 = .ok (.iastore, 1) := by decide +kernel
theorem dX9_undo_50 : decode cX9_undo 50 = .ok (.iinc 1 1, 3) := by decide +kernel
theorem dX9_undo_53 : decode cX9_undo 53 = .ok (.goto (-31), 3) := by decide +kernel
theorem dX9_undo_56 : decode cX9_undo 56 = .ok (.aload_n 0, 1) := by decide +kernel
theorem dX9_undo_57 : decode cX9_undo 57 = .ok (.getfield 32, 3) := by decide +kernel
theorem dX9_undo_60 : decode cX9_undo 60 = .ok (.ireturn, 1) := by decide +kernel
theorem dX9_type_0 : decode cX9_type 0 = .ok (.iload_n 1, 1) := by decide +kernel
theorem dX9_type_1 : decode cX9_type 1 = .ok (.bipush 32, 2) := by decide +kernel
theorem dX9_type_3 : decode cX9_type 3 = .ok (.bipush 126, 2) := by decide +kernel
theorem dX9_type_5 : decode cX9_type 5 = .ok (.invokestatic 65, 3) := by decide +kernel
theorem dX9_type_8 : decode cX9_type 8 = .ok (.ifCond .ne 6, 3) := by decide +kernel
theorem dX9_type_11 : decode cX9_type 11 = .ok (.ldc 95, 2) := by decide +kernel
theorem dX9_type_13 : decode cX9_type 13 = .ok (.ireturn, 1) := by decide +kernel
theorem dX9_type_14 : decode cX9_type 14 = .ok (.aload_n 0, 1) := by decide +kernel
theorem dX9_type_15 : decode cX9_type 15 = .ok (.getfield 133, 3) := by decide +kernel
theorem dX9_type_18 : decode cX9_type 18 = .ok (.bipush 60, 2) := by decide +kernel
theorem dX9_type_20 : decode cX9_type 20 = .ok (.if_icmp .ne 6, 3) := by decide +kernel
theorem dX9_type_23 : decode cX9_type 23 = .ok (.ldc 96, 2) := by decide +kernel
theorem dX9_type_25 : decode cX9_type 25 = .ok (.ireturn, 1) := by decide +kernel
theorem dX9_type_26 : decode cX9_type 26 = .ok (.aload_n 0, 1) := by decide +kernel
theorem dX9_type_27 : decode cX9_type 27 = .ok (.getfield 22, 3) := by decide +kernel
theorem dX9_type_30 : decode cX9_type 30 = .ok (.aload_n 0, 1) := by decide +kernel
theorem dX9_type_31 : decode cX9_type 31 = .ok (.getfield 133, 3) := by decide +kernel
theorem dX9_type_34 : decode cX9_type 34 = .ok (.iload_n 1, 1) := by decide +kernel
theorem dX9_type_35 : decode cX9_type 35 = .ok (.iastore, 1) := by decide +kernel
theorem dX9_type_36 : decode cX9_type 36 = .ok (.aload_n 0, 1) := by decide +kernel
theorem dX9_type_37 : decode cX9_type 37 = .ok (.dup, 1) := by decide +kernel
theorem dX9_type_38 : decode cX9_type 38 = .ok (.getfield 133, 3) := by decide +kernel
theorem dX9_type_41 : decode cX9_type 41 = .ok (.iconst 1, 1) := by decide +kernel
theorem dX9_type_42 : decode cX9_type 42 = .ok (.iadd, 1) := by decide +kernel
theorem dX9_type_43 : decode cX9_type 43 = .ok (.putfield 133, 3) := by decide +kernel
theorem dX9_type_46 : decode cX9_type 46 = .ok (.aload_n 0, 1) := by decide +kernel
theorem dX9_type_47 : decode cX9_type 47 = .ok (.getfield 133, 3) := by decide +kernel
theorem dX9_type_50 : decode cX9_type 50 = .ok (.ireturn, 1) := by decide +kernel
theorem dX9_clearText_0 : decode cX9_clearText 0 = .ok (.aload_n 0, 1) := by decide +kernel
theorem dX9_clearText_1 : decode cX9_clearText 1 = .ok (.getfield 133, 3) := by decide +kernel
theorem dX9_clearText_4 : decode cX9_clearText 4 = .ok (.istore_n 1, 1) := by decide +kernel
theorem dX9_clearText_5 : decode cX9_clearText 5 = .ok (.aload_n 0, 1) := by decide +kernel
theorem dX9_clearText_6 : decode cX9_clearText 6 = .ok (.iconst 0, 1) := by decide +kernel
theorem dX9_clearText_7 : decode cX9_clearText 7 = .ok (.putfield 133, 3) := by decide +kernel
theorem dX9_clearText_10 : decode cX9_clearText 10 = .ok (.iload_n 1, 1) := by decide +kernel
theorem dX9_clearText_11 : decode cX9_clearText 11 = .ok (.ireturn, 1) := by decide +kernel
theorem dX9_isAt_0 : decode cX9_isAt 0 = .ok (.aload_n 0, 1) := by decide +kernel
theorem dX9_isAt_1 : decode cX9_isAt 1 = .ok (.getfield 136, 3) := by decide +kernel
theorem dX9_isAt_4 : decode cX9_isAt 4 = .ok (.aload_n 0, 1) := by decide +kernel
theorem dX9_isAt_5 : decode cX9_isAt 5 = .ok (.getfield 133, 3) := by decide +kernel
theorem dX9_isAt_8 : decode cX9_isAt 8 = .ok (.if_icmp .ge 24, 3) := by decide +kernel
theorem dX9_isAt_11 : decode cX9_isAt 11 = .ok (.aload_n 0, 1) := by decide +kernel
theorem dX9_isAt_12 : decode cX9_isAt 12 = .ok (.getfield 22, 3) := by decide +kernel
theorem dX9_isAt_15 : decode cX9_isAt 15 = .ok (.aload_n 0, 1) := by decide +kernel
theorem dX9_isAt_16 : decode cX9_isAt 16 = .ok (.getfield 136, 3) := by decide +kernel
theorem dX9_isAt_19 : decode cX9_isAt 19 = .ok (.iaload, 1) := by decide +kernel
theorem dX9_isAt_20 : decode cX9_isAt 20 = .ok (.iload_n 1, 1) := by decide +kernel
theorem dX9_isAt_21 : decode cX9_isAt 21 = .ok (.iload_n 2, 1) := by decide +kernel
theorem dX9_isAt_22 : decode cX9_isAt 22 = .ok (.invokestatic 65, 3) := by decide +kernel
theorem dX9_isAt_25 : decode cX9_isAt 25 = .ok (.ifCond .eq 7, 3) := by decide +kernel
theorem dX9_isAt_28 : decode cX9_isAt 28 = .ok (.iconst 1, 1) := by decide +kernel
theorem dX9_isAt_29 : decode cX9_isAt 29 = .ok (.goto 4, 3) := by decide +kernel
theorem dX9_isAt_32 : decode cX9_isAt 32 = .ok (.iconst 0, 1) := by decide +kernel
theorem dX9_isAt_33 : decode cX9_isAt 33 = .ok (.ireturn, 1) := by decide +kernel
theorem dX9_sign_0 : decode cX9_sign 0 = .ok (.aload_n 0, 1) := by decide +kernel
theorem dX9_sign_1 : decode cX9_sign 1 = .ok (.iload_n 1, 1) := by decide +kernel
theorem dX9_sign_2 : decode cX9_sign 2 = .ok (.iload_n 1, 1) := by decide +kernel
theorem dX9_sign_3 : decode cX9_sign 3 = .ok (.invokevirtual 139, 3) := by decide +kernel
theorem dX9_sign_6 : decode cX9_sign 6 = .ok (.istore_n 2, 1) := by decide +kernel
theorem dX9_sign_7 : decode cX9_sign 7 = .ok (.aload_n 0, 1) := by decide +kernel
theorem dX9_sign_8 : decode cX9_sign 8 = .ok (.dup, 1) := by decide +kernel
theorem dX9_sign_9 : decode cX9_sign 9 = .ok (.getfield 136, 3) := by decide +kernel
theorem dX9_sign_12 : decode cX9_sign 12 = .ok (.iload_n 2, 1) := by decide +kernel
theorem dX9_sign_13 : decode cX9_sign 13 = .ok (.ifCond .eq 7, 3) := by decide +kernel
theorem dX9_sign_16 : decode cX9_sign 16 = .ok (.iconst 1, 1) := by decide +kernel
theorem dX9_sign_17 : decode cX9_sign 17 = .ok (.goto 4, 3) := by decide +kernel
theorem dX9_sign_20 : decode cX9_sign 20 = .ok (.iconst 0, 1) := by decide +kernel
theorem dX9_sign_21 : decode cX9_sign 21 = .ok (.iadd, 1) := by decide +kernel
theorem dX9_sign_22 : decode cX9_sign 22 = .ok (.putfield 136, 3) := by decide +kernel
theorem dX9_sign_25 : decode cX9_sign 25 = .ok (.iload_n 2, 1) := by decide +kernel
theorem dX9_sign_26 : decode cX9_sign 26 = .ok (.ireturn, 1) := by decide +kernel
theorem dX9_numbered_0 : decode cX9_numbered 0 = .ok (.aload_n 0, 1) := by decide +kernel
theorem dX9_numbered_1 : decode cX9_numbered 1 = .ok (.getfield 136, 3) := by decide +kernel
theorem dX9_numbered_4 : decode cX9_numbered 4 = .ok (.istore_n 2, 1) := by decide +kernel
theorem dX9_numbered_5 : decode cX9_numbered 5 = .ok (.aload_n 0, 1) := by decide +kernel
theorem dX9_numbered_6 : decode cX9_numbered 6 = .ok (.getfield 25, 3) := by decide +kernel
theorem dX9_numbered_9 : decode cX9_numbered 9 = .ok (.iload_n 1, 1) := by decide +kernel
theorem dX9_numbered_10 : decode cX9_numbered 10 = .ok (.iconst 0, 1) := by decide +kernel
theorem dX9_numbered_11 : decode cX9_numbered 11 = .ok (.iastore, 1) := by decide +kernel
theorem dX9_numbered_12 : decode cX9_numbered 12 = .ok (.aload_n 0, 1) := by decide +kernel
theorem dX9_numbered_13 : decode cX9_numbered 13 = .ok (.bipush 48, 2) := by decide +kernel
theorem dX9_numbered_15 : decode cX9_numbered 15 = .ok (.bipush 57, 2) := by decide +kernel
theorem dX9_numbered_17 : decode cX9_numbered 17 = .ok (.invokevirtual 139, 3) := by decide +kernel
theorem dX9_numbered_20 : decode cX9_numbered 20 = .ok (.ifCond .eq 54, 3) := by decide +kernel
theorem dX9_numbered_23 : decode cX9_numbered 23 = .ok (.aload_n 0, 1) := by decide +kernel
theorem dX9_numbered_24 : decode cX9_numbered 24 = .ok (.getfield 136, 3) := by decide +kernel
theorem dX9_numbered_27 : decode cX9_numbered 27 = .ok (.iload_n 2, 1) := by decide +kernel
theorem dX9_numbered_28 : decode cX9_numbered 28 = .ok (.isub, 1) := by decide +kernel
theorem dX9_numbered_29 : decode cX9_numbered 29 = .ok (.iconst 3, 1) := by decide +kernel
theorem dX9_numbered_30 : decode cX9_numbered 30 = .ok (.if_icmp .ge 44, 3) := by decide +kernel
theorem dX9_numbered_33 : decode cX9_numbered 33 = .ok (.aload_n 0, 1) := by decide +kernel
theorem dX9_numbered_34 : decode cX9_numbered 34 = .ok (.getfield 25, 3) := by decide +kernel
theorem dX9_numbered_37 : decode cX9_numbered 37 = .ok (.iload_n 1, 1) := by decide +kernel
theorem dX9_numbered_38 : decode cX9_numbered 38 = .ok (.bipush 10, 2) := by decide +kernel
theorem dX9_numbered_40 : decode cX9_numbered 40 = .ok (.aload_n 0, 1) := by decide +kernel
theorem dX9_numbered_41 : decode cX9_numbered 41 = .ok (.getfield 25, 3) := by decide +kernel
theorem dX9_numbered_44 : decode cX9_numbered 44 = .ok (.iload_n 1, 1) := by decide +kernel
theorem dX9_numbered_45 : decode cX9_numbered 45 = .ok (.iaload, 1) := by decide +kernel
theorem dX9_numbered_46 : decode cX9_numbered 46 = .ok (.imul, 1) := by decide +kernel
theorem dX9_numbered_47 : decode cX9_numbered 47 = .ok (.aload_n 0, 1) := by decide +kernel
theorem dX9_numbered_48 : decode cX9_numbered 48 = .ok (.getfield 22, 3) := by decide +kernel
theorem dX9_numbered_51 : decode cX9_numbered 51 = .ok (.aload_n 0, 1) := by decide +kernel
theorem dX9_numbered_52 : decode cX9_numbered 52 = .ok (.getfield 136, 3) := by decide +kernel
theorem dX9_numbered_55 : decode cX9_numbered 55 = .ok (.iaload, 1) := by decide +kernel
theorem dX9_numbered_56 : decode cX9_numbered 56 = .ok (.iadd, 1) := by decide +kernel
theorem dX9_numbered_57 : decode cX9_numbered 57 = .ok (.bipush 48, 2) := by decide +kernel
theorem dX9_numbered_59 : decode cX9_numbered 59 = .ok (.isub, 1) := by decide +kernel
theorem dX9_numbered_60 : decode cX9_numbered 60 = .ok (.iastore, 1) := by decide +kernel
theorem dX9_numbered_61 : decode cX9_numbered 61 = .ok (.aload_n 0, 1) := by decide +kernel
theorem dX9_numbered_62 : decode cX9_numbered 62 = .ok (.dup, 1) := by decide +kernel
theorem dX9_numbered_63 : decode cX9_numbered 63 = .ok (.getfield 136, 3) := by decide +kernel
theorem dX9_numbered_66 : decode cX9_numbered 66 = .ok (.iconst 1, 1) := by decide +kernel
theorem dX9_numbered_67 : decode cX9_numbered 67 = .ok (.iadd, 1) := by decide +kernel
theorem dX9_numbered_68 : decode cX9_numbered 68 = .ok (.putfield 136, 3) := by decide +kernel
theorem dX9_numbered_71 : decode cX9_numbered 71 = .ok (.goto (-59), 3) := by decide +kernel
theorem dX9_numbered_74 : decode cX9_numbered 74 = .ok (.aload_n 0, 1) := by decide +kernel
theorem dX9_numbered_75 : decode cX9_numbered 75 = .ok (.getfield 136, 3) := by decide +kernel
theorem dX9_numbered_78 : decode cX9_numbered 78 = .ok (.iload_n 2, 1) := by decide +kernel
theorem dX9_numbered_79 : decode cX9_numbered 79 = .ok (.if_icmp .le 7, 3) := by decide +kernel
theorem dX9_numbered_82 : decode cX9_numbered 82 = .ok (.iconst 1, 1) := by decide +kernel
theorem dX9_numbered_83 : decode cX9_numbered 83 = .ok (.goto 4, 3) := by decide +kernel
theorem dX9_numbered_86 : decode cX9_numbered 86 = .ok (.iconst 0, 1) := by decide +kernel
theorem dX9_numbered_87 : decode cX9_numbered 87 = .ok (.ireturn, 1) := by decide +kernel
theorem dX9_numbersOf_0 : decode cX9_numbersOf 0 = .ok (.iload_n 0, 1) := by decide +kernel
theorem dX9_numbersOf_1 : decode cX9_numbersOf 1 = .ok (.lookupswitch 57 #[(100, 55), (103, 51), (112, 55), (115, 53), (120, 55)], 51) := by decide +kernel
theorem dX9_numbersOf_52 : decode cX9_numbersOf 52 = .ok (.iconst 3, 1) := by decide +kernel
theorem dX9_numbersOf_53 : decode cX9_numbersOf 53 = .ok (.ireturn, 1) := by decide +kernel
theorem dX9_numbersOf_54 : decode cX9_numbersOf 54 = .ok (.iconst 2, 1) := by decide +kernel
theorem dX9_numbersOf_55 : decode cX9_numbersOf 55 = .ok (.ireturn, 1) := by decide +kernel
theorem dX9_numbersOf_56 : decode cX9_numbersOf 56 = .ok (.iconst 1, 1) := by decide +kernel
theorem dX9_numbersOf_57 : decode cX9_numbersOf 57 = .ok (.ireturn, 1) := by decide +kernel
theorem dX9_numbersOf_58 : decode cX9_numbersOf 58 = .ok (.iconst 0, 1) := by decide +kernel
theorem dX9_numbersOf_59 : decode cX9_numbersOf 59 = .ok (.ireturn, 1) := by decide +kernel
theorem dX9_reads_0 : decode cX9_reads 0 = .ok (.aload_n 0, 1) := by decide +kernel
theorem dX9_reads_1 : decode cX9_reads 1 = .ok (.aload_n 0, 1) := by decide +kernel
theorem dX9_reads_2 : decode cX9_reads 2 = .ok (.bipush 33, 2) := by decide +kernel
theorem dX9_reads_4 : decode cX9_reads 4 = .ok (.bipush 126, 2) := by decide +kernel
theorem dX9_reads_6 : decode cX9_reads 6 = .ok (.invokevirtual 139, 3) := by decide +kernel
theorem dX9_reads_9 : decode cX9_reads 9 = .ok (.ifCond .eq 15, 3) := by decide +kernel
theorem dX9_reads_12 : decode cX9_reads 12 = .ok (.aload_n 0, 1) := by decide +kernel
theorem dX9_reads_13 : decode cX9_reads 13 = .ok (.getfield 22, 3) := by decide +kernel
theorem dX9_reads_16 : decode cX9_reads 16 = .ok (.aload_n 0, 1) := by decide +kernel
theorem dX9_reads_17 : decode cX9_reads 17 = .ok (.getfield 136, 3) := by decide +kernel
theorem dX9_reads_20 : decode cX9_reads 20 = .ok (.iaload, 1) := by decide +kernel
theorem dX9_reads_21 : decode cX9_reads 21 = .ok (.goto 4, 3) := by decide +kernel
theorem dX9_reads_24 : decode cX9_reads 24 = .ok (.iconst 0, 1) := by decide +kernel
theorem dX9_reads_25 : decode cX9_reads 25 = .ok (.putfield 142, 3) := by decide +kernel
theorem dX9_reads_28 : decode cX9_reads 28 = .ok (.aload_n 0, 1) := by decide +kernel
theorem dX9_reads_29 : decode cX9_reads 29 = .ok (.getfield 142, 3) := by decide +kernel
theorem dX9_reads_32 : decode cX9_reads 32 = .ok (.invokestatic 145, 3) := by decide +kernel
theorem dX9_reads_35 : decode cX9_reads 35 = .ok (.istore_n 1, 1) := by decide +kernel
theorem dX9_reads_36 : decode cX9_reads 36 = .ok (.iload_n 1, 1) := by decide +kernel
theorem dX9_reads_37 : decode cX9_reads 37 = .ok (.ifCond .ne 5, 3) := by decide +kernel
theorem dX9_reads_40 : decode cX9_reads 40 = .ok (.iconst 0, 1) := by decide +kernel
theorem dX9_reads_41 : decode cX9_reads 41 = .ok (.ireturn, 1) := by decide +kernel
theorem dX9_reads_42 : decode cX9_reads 42 = .ok (.aload_n 0, 1) := by decide +kernel
theorem dX9_reads_43 : decode cX9_reads 43 = .ok (.dup, 1) := by decide +kernel
theorem dX9_reads_44 : decode cX9_reads 44 = .ok (.getfield 136, 3) := by decide +kernel
theorem dX9_reads_47 : decode cX9_reads 47 = .ok (.iconst 1, 1) := by decide +kernel
theorem dX9_reads_48 : decode cX9_reads 48 = .ok (.iadd, 1) := by decide +kernel
theorem dX9_reads_49 : decode cX9_reads 49 = .ok (.putfield 136, 3) := by decide +kernel
theorem dX9_reads_52 : decode cX9_reads 52 = .ok (.aload_n 0, 1) := by decide +kernel
theorem dX9_reads_53 : decode cX9_reads 53 = .ok (.iconst 0, 1) := by decide +kernel
theorem dX9_reads_54 : decode cX9_reads 54 = .ok (.invokevirtual 148, 3) := by decide +kernel
theorem dX9_reads_57 : decode cX9_reads 57 = .ok (.istore_n 2, 1) := by decide +kernel
theorem dX9_reads_58 : decode cX9_reads 58 = .ok (.iconst 1, 1) := by decide +kernel
theorem dX9_reads_59 : decode cX9_reads 59 = .ok (.istore_n 3, 1) := by decide +kernel
theorem dX9_reads_60 : decode cX9_reads 60 = .ok (.iload_n 3, 1) := by decide +kernel
theorem dX9_reads_61 : decode cX9_reads 61 = .ok (.iload_n 1, 1) := by decide +kernel
theorem dX9_reads_62 : decode cX9_reads 62 = .ok (.if_icmp .ge 36, 3) := by decide +kernel
theorem dX9_reads_65 : decode cX9_reads 65 = .ok (.iload_n 2, 1) := by decide +kernel
theorem dX9_reads_66 : decode cX9_reads 66 = .ok (.ifCond .eq 32, 3) := by decide +kernel
theorem dX9_reads_69 : decode cX9_reads 69 = .ok (.aload_n 0, 1) := by decide +kernel
theorem dX9_reads_70 : decode cX9_reads 70 = .ok (.bipush 44, 2) := by decide +kernel
theorem dX9_reads_72 : decode cX9_reads 72 = .ok (.invokevirtual 151, 3) := by decide +kernel
theorem dX9_reads_75 : decode cX9_reads 75 = .ok (.ifCond .eq 15, 3) := by decide +kernel
theorem dX9_reads_78 : decode cX9_reads 78 = .ok (.aload_n 0, 1) := by decide +kernel
theorem dX9_reads_79 : decode cX9_reads 79 = .ok (.iload_n 3, 1) := by decide +kernel
theorem dX9_reads_80 : decode cX9_reads 80 = .ok (.invokevirtual 148, 3) := by decide +kernel
theorem dX9_reads_83 : decode cX9_reads 83 = .ok (.ifCond .eq 7, 3) := by decide +kernel
theorem dX9_reads_86 : decode cX9_reads 86 = .ok (.iconst 1, 1) := by decide +kernel
theorem dX9_reads_87 : decode cX9_reads 87 = .ok (.goto 4, 3) := by decide +kernel
theorem dX9_reads_90 : decode cX9_reads 90 = .ok (.iconst 0, 1) := by decide +kernel
theorem dX9_reads_91 : decode cX9_reads 91 = .ok (.istore_n 2, 1) := by decide +kernel
theorem dX9_reads_92 : decode cX9_reads 92 = .ok (.iinc 3 1, 3) := by decide +kernel
theorem dX9_reads_95 : decode cX9_reads 95 = .ok (.goto (-35), 3) := by decide +kernel
theorem dX9_reads_98 : decode cX9_reads 98 = .ok (.iload_n 2, 1) := by decide +kernel
theorem dX9_reads_99 : decode cX9_reads 99 = .ok (.ifCond .eq 16, 3) := by decide +kernel
theorem dX9_reads_102 : decode cX9_reads 102 = .ok (.aload_n 0, 1) := by decide +kernel
theorem dX9_reads_103 : decode cX9_reads 103 = .ok (.bipush 59, 2) := by decide +kernel
theorem dX9_reads_105 : decode cX9_reads 105 = .ok (.invokevirtual 151, 3) := by decide +kernel
theorem dX9_reads_108 : decode cX9_reads 108 = .ok (.ifCond .eq 7, 3) := by decide +kernel
theorem dX9_reads_111 : decode cX9_reads 111 = .ok (.iconst 1, 1) := by decide +kernel
theorem dX9_reads_112 : decode cX9_reads 112 = .ok (.goto 4, 3) := by decide +kernel
theorem dX9_reads_115 : decode cX9_reads 115 = .ok (.iconst 0, 1) := by decide +kernel
theorem dX9_reads_116 : decode cX9_reads 116 = .ok (.ireturn, 1) := by decide +kernel
theorem dX9_calls_0 : decode cX9_calls 0 = .ok (.aload_n 0, 1) := by decide +kernel
theorem dX9_calls_1 : decode cX9_calls 1 = .ok (.getfield 142, 3) := by decide +kernel
theorem dX9_calls_4 : decode cX9_calls 4 = .ok (.lookupswitch 106 #[(103, 61), (112, 95), (115, 44), (120, 84)], 44) := by decide +kernel
theorem dX9_calls_48 : decode cX9_calls 48 = .ok (.aload_n 0, 1) := by decide +kernel
theorem dX9_calls_49 : decode cX9_calls 49 = .ok (.aload_n 0, 1) := by decide +kernel
theorem dX9_calls_50 : decode cX9_calls 50 = .ok (.getfield 25, 3) := by decide +kernel
theorem dX9_calls_53 : decode cX9_calls 53 = .ok (.iconst 0, 1) := by decide +kernel
theorem dX9_calls_54 : decode cX9_calls 54 = .ok (.iaload, 1) := by decide +kernel
theorem dX9_calls_55 : decode cX9_calls 55 = .ok (.aload_n 0, 1) := by decide +kernel
theorem dX9_calls_56 : decode cX9_calls 56 = .ok (.getfield 25, 3) := by decide +kernel
theorem dX9_calls_59 : decode cX9_calls 59 = .ok (.iconst 1, 1) := by decide +kernel
theorem dX9_calls_60 : decode cX9_calls 60 = .ok (.iaload, 1) := by decide +kernel
theorem dX9_calls_61 : decode cX9_calls 61 = .ok (.invokevirtual 154, 3) := by decide +kernel
theorem dX9_calls_64 : decode cX9_calls 64 = .ok (.ireturn, 1) := by decide +kernel
theorem dX9_calls_65 : decode cX9_calls 65 = .ok (.aload_n 0, 1) := by decide +kernel
theorem dX9_calls_66 : decode cX9_calls 66 = .ok (.aload_n 0, 1) := by decide +kernel
theorem dX9_calls_67 : decode cX9_calls 67 = .ok (.getfield 25, 3) := by decide +kernel
theorem dX9_calls_70 : decode cX9_calls 70 = .ok (.iconst 0, 1) := by decide +kernel
theorem dX9_calls_71 : decode cX9_calls 71 = .ok (.iaload, 1) := by decide +kernel
theorem dX9_calls_72 : decode cX9_calls 72 = .ok (.aload_n 0, 1) := by decide +kernel
theorem dX9_calls_73 : decode cX9_calls 73 = .ok (.getfield 25, 3) := by decide +kernel
theorem dX9_calls_76 : decode cX9_calls 76 = .ok (.iconst 1, 1) := by decide +kernel
theorem dX9_calls_77 : decode cX9_calls 77 = .ok (.iaload, 1) := by decide +kernel
theorem dX9_calls_78 : decode cX9_calls 78 = .ok (.aload_n 0, 1) := by decide +kernel
theorem dX9_calls_79 : decode cX9_calls 79 = .ok (.getfield 25, 3) := by decide +kernel
theorem dX9_calls_82 : decode cX9_calls 82 = .ok (.iconst 2, 1) := by decide +kernel
theorem dX9_calls_83 : decode cX9_calls 83 = .ok (.iaload, 1) := by decide +kernel
theorem dX9_calls_84 : decode cX9_calls 84 = .ok (.invokevirtual 157, 3) := by decide +kernel
theorem dX9_calls_87 : decode cX9_calls 87 = .ok (.ireturn, 1) := by decide +kernel
theorem dX9_calls_88 : decode cX9_calls 88 = .ok (.aload_n 0, 1) := by decide +kernel
theorem dX9_calls_89 : decode cX9_calls 89 = .ok (.aload_n 0, 1) := by decide +kernel
theorem dX9_calls_90 : decode cX9_calls 90 = .ok (.getfield 25, 3) := by decide +kernel
theorem dX9_calls_93 : decode cX9_calls 93 = .ok (.iconst 0, 1) := by decide +kernel
theorem dX9_calls_94 : decode cX9_calls 94 = .ok (.iaload, 1) := by decide +kernel
theorem dX9_calls_95 : decode cX9_calls 95 = .ok (.invokevirtual 161, 3) := by decide +kernel
theorem dX9_calls_98 : decode cX9_calls 98 = .ok (.ireturn, 1) := by decide +kernel
theorem dX9_calls_99 : decode cX9_calls 99 = .ok (.aload_n 0, 1) := by decide +kernel
theorem dX9_calls_100 : decode cX9_calls 100 = .ok (.aload_n 0, 1) := by decide +kernel
theorem dX9_calls_101 : decode cX9_calls 101 = .ok (.getfield 25, 3) := by decide +kernel
theorem dX9_calls_104 : decode cX9_calls 104 = .ok (.iconst 0, 1) := by decide +kernel
theorem dX9_calls_105 : decode cX9_calls 105 = .ok (.iaload, 1) := by decide +kernel
theorem dX9_calls_106 : decode cX9_calls 106 = .ok (.invokevirtual 164, 3) := by decide +kernel
theorem dX9_calls_109 : decode cX9_calls 109 = .ok (.ireturn, 1) := by decide +kernel
theorem dX9_calls_110 : decode cX9_calls 110 = .ok (.aload_n 0, 1) := by decide +kernel
theorem dX9_calls_111 : decode cX9_calls 111 = .ok (.aload_n 0, 1) := by decide +kernel
theorem dX9_calls_112 : decode cX9_calls 112 = .ok (.getfield 25, 3) := by decide +kernel
theorem dX9_calls_115 : decode cX9_calls 115 = .ok (.iconst 0, 1) := by decide +kernel
theorem dX9_calls_116 : decode cX9_calls 116 = .ok (.iaload, 1) := by decide +kernel
theorem dX9_calls_117 : decode cX9_calls 117 = .ok (.invokevirtual 167, 3) := by decide +kernel
theorem dX9_calls_120 : decode cX9_calls 120 = .ok (.ireturn, 1) := by decide +kernel
theorem dX9_plays_0 : decode cX9_plays 0 = .ok (.aload_n 0, 1) := by decide +kernel
theorem dX9_plays_1 : decode cX9_plays 1 = .ok (.iconst 1, 1) := by decide +kernel
theorem dX9_plays_2 : decode cX9_plays 2 = .ok (.putfield 28, 3) := by decide +kernel
theorem dX9_plays_5 : decode cX9_plays 5 = .ok (.aload_n 0, 1) := by decide +kernel
theorem dX9_plays_6 : decode cX9_plays 6 = .ok (.iconst 0, 1) := by decide +kernel
theorem dX9_plays_7 : decode cX9_plays 7 = .ok (.putfield 136, 3) := by decide +kernel
theorem dX9_plays_10 : decode cX9_plays 10 = .ok (.aload_n 0, 1) := by decide +kernel
theorem dX9_plays_11 : decode cX9_plays 11 = .ok (.iconst 0, 1) := by decide +kernel
theorem dX9_plays_12 : decode cX9_plays 12 = .ok (.putfield 170, 3) := by decide +kernel
theorem dX9_plays_15 : decode cX9_plays 15 = .ok (.aload_n 0, 1) := by decide +kernel
theorem dX9_plays_16 : decode cX9_plays 16 = .ok (.iconst 0, 1) := by decide +kernel
theorem dX9_plays_17 : decode cX9_plays 17 = .ok (.putfield 173, 3) := by decide +kernel
theorem dX9_plays_20 : decode cX9_plays 20 = .ok (.iconst 1, 1) := by decide +kernel
theorem dX9_plays_21 : decode cX9_plays 21 = .ok (.istore_n 1, 1) := by decide +kernel
theorem dX9_plays_22 : decode cX9_plays 22 = .ok (.aload_n 0, 1) := by decide +kernel
theorem dX9_plays_23 : decode cX9_plays 23 = .ok (.getfield 136, 3) := by decide +kernel
theorem dX9_plays_26 : decode cX9_plays 26 = .ok (.aload_n 0, 1) := by decide +kernel
theorem dX9_plays_27 : decode cX9_plays 27 = .ok (.getfield 133, 3) := by decide +kernel
theorem dX9_plays_30 : decode cX9_plays 30 = .ok (.if_icmp .ge 94, 3) := by decide +kernel
theorem dX9_plays_33 : decode cX9_plays 33 = .ok (.iload_n 1, 1) := by decide +kernel
theorem dX9_plays_34 : decode cX9_plays 34 = .ok (.ifCond .eq 90, 3) := by decide +kernel
theorem dX9_plays_37 : decode cX9_plays 37 = .ok (.aload_n 0, 1) := by decide +kernel
theorem dX9_plays_38 : decode cX9_plays 38 = .ok (.aload_n 0, 1) := by decide +kernel
theorem dX9_plays_39 : decode cX9_plays 39 = .ok (.getfield 136, 3) := by decide +kernel
theorem dX9_plays_42 : decode cX9_plays 42 = .ok (.putfield 170, 3) := by decide +kernel
theorem dX9_plays_45 : decode cX9_plays 45 = .ok (.aload_n 0, 1) := by decide +kernel
theorem dX9_plays_46 : decode cX9_plays 46 = .ok (.invokevirtual 176, 3) := by decide +kernel
theorem dX9_plays_49 : decode cX9_plays 49 = .ok (.istore_n 2, 1) := by decide +kernel
theorem dX9_plays_50 : decode cX9_plays 50 = .ok (.iload_n 2, 1) := by decide +kernel
theorem dX9_plays_51 : decode cX9_plays 51 = .ok (.ifCond .eq 10, 3) := by decide +kernel
theorem dX9_plays_54 : decode cX9_plays 54 = .ok (.aload_n 0, 1) := by decide +kernel
theorem dX9_plays_55 : decode cX9_plays 55 = .ok (.invokevirtual 180, 3) := by decide +kernel
theorem dX9_plays_58 : decode cX9_plays 58 = .ok (.goto 4, 3) := by decide +kernel
theorem dX9_plays_61 : decode cX9_plays 61 = .ok (.iconst 0, 1) := by decide +kernel
theorem dX9_plays_62 : decode cX9_plays 62 = .ok (.istore_n 3, 1) := by decide +kernel
theorem dX9_plays_63 : decode cX9_plays 63 = .ok (.iload_n 2, 1) := by decide +kernel
theorem dX9_plays_64 : decode cX9_plays 64 = .ok (.ifCond .eq 11, 3) := by decide +kernel
theorem dX9_plays_67 : decode cX9_plays 67 = .ok (.iload_n 3, 1) := by decide +kernel
theorem dX9_plays_68 : decode cX9_plays 68 = .ok (.ifCond .lt 7, 3) := by decide +kernel
theorem dX9_plays_71 : decode cX9_plays 71 = .ok (.iconst 1, 1) := by decide +kernel
theorem dX9_plays_72 : decode cX9_plays 72 = .ok (.goto 4, 3) := by decide +kernel
theorem dX9_plays_75 : decode cX9_plays 75 = .ok (.iconst 0, 1) := by decide +kernel
theorem dX9_plays_76 : decode cX9_plays 76 = .ok (.istore_n 1, 1) := by decide +kernel
theorem dX9_plays_77 : decode cX9_plays 77 = .ok (.aload_n 0, 1) := by decide +kernel
theorem dX9_plays_78 : decode cX9_plays 78 = .ok (.iload_n 2, 1) := by decide +kernel
theorem dX9_plays_79 : decode cX9_plays 79 = .ok (.ifCond .eq 7, 3) := by decide +kernel
theorem dX9_plays_82 : decode cX9_plays 82 = .ok (.iconst 2, 1) := by decide +kernel
theorem dX9_plays_83 : decode cX9_plays 83 = .ok (.goto 4, 3) := by decide +kernel
theorem dX9_plays_86 : decode cX9_plays 86 = .ok (.iconst 1, 1) := by decide +kernel
theorem dX9_plays_87 : decode cX9_plays 87 = .ok (.putfield 183, 3) := by decide +kernel
theorem dX9_plays_90 : decode cX9_plays 90 = .ok (.aload_n 0, 1) := by decide +kernel
theorem dX9_plays_91 : decode cX9_plays 91 = .ok (.iload_n 2, 1) := by decide +kernel
theorem dX9_plays_92 : decode cX9_plays 92 = .ok (.ifCond .eq 7, 3) := by decide +kernel
theorem dX9_plays_95 : decode cX9_plays 95 = .ok (.iload_n 3, 1) := by decide +kernel
theorem dX9_plays_96 : decode cX9_plays 96 = .ok (.goto 12, 3) := by decide +kernel
theorem dX9_plays_99 : decode cX9_plays 99 = .ok (.aload_n 0, 1) := by decide +kernel
theorem dX9_plays_100 : decode cX9_plays 100 = .ok (.getfield 136, 3) := by decide +kernel
theorem dX9_plays_103 : decode cX9_plays 103 = .ok (.aload_n 0, 1) := by decide +kernel
theorem dX9_plays_104 : decode cX9_plays 104 = .ok (.getfield 170, 3) := by decide +kernel
theorem dX9_plays_107 : decode cX9_plays 107 = .ok (.isub, 1) := by decide +kernel
theorem dX9_plays_108 : decode cX9_plays 108 = .ok (.putfield 186, 3) := by decide +kernel
theorem dX9_plays_111 : decode cX9_plays 111 = .ok (.aload_n 0, 1) := by decide +kernel
theorem dX9_plays_112 : decode cX9_plays 112 = .ok (.dup, 1) := by decide +kernel
theorem dX9_plays_113 : decode cX9_plays 113 = .ok (.getfield 173, 3) := by decide +kernel
theorem dX9_plays_116 : decode cX9_plays 116 = .ok (.iconst 1, 1) := by decide +kernel
theorem dX9_plays_117 : decode cX9_plays 117 = .ok (.iadd, 1) := by decide +kernel
theorem dX9_plays_118 : decode cX9_plays 118 = .ok (.putfield 173, 3) := by decide +kernel
theorem dX9_plays_121 : decode cX9_plays 121 = .ok (.goto (-99), 3) := by decide +kernel
theorem dX9_plays_124 : decode cX9_plays 124 = .ok (.aload_n 0, 1) := by decide +kernel
theorem dX9_plays_125 : decode cX9_plays 125 = .ok (.iconst 0, 1) := by decide +kernel
theorem dX9_plays_126 : decode cX9_plays 126 = .ok (.putfield 28, 3) := by decide +kernel
theorem dX9_plays_129 : decode cX9_plays 129 = .ok (.iload_n 1, 1) := by decide +kernel
theorem dX9_plays_130 : decode cX9_plays 130 = .ok (.ireturn, 1) := by decide +kernel
theorem dX9_fault_0 : decode cX9_fault 0 = .ok (.iload_n 1, 1) := by decide +kernel
theorem dX9_fault_1 : decode cX9_fault 1 = .ok (.iconst 0, 1) := by decide +kernel
theorem dX9_fault_2 : decode cX9_fault 2 = .ok (.iconst 2, 1) := by decide +kernel
theorem dX9_fault_3 : decode cX9_fault 3 = .ok (.invokestatic 65, 3) := by decide +kernel
theorem dX9_fault_6 : decode cX9_fault 6 = .ok (.ifCond .ne 6, 3) := by decide +kernel
theorem dX9_fault_9 : decode cX9_fault 9 = .ok (.ldc 95, 2) := by decide +kernel
theorem dX9_fault_11 : decode cX9_fault 11 = .ok (.ireturn, 1) := by decide +kernel
theorem dX9_fault_12 : decode cX9_fault 12 = .ok (.aload_n 0, 1) := by decide +kernel
theorem dX9_fault_13 : decode cX9_fault 13 = .ok (.getfield 7, 3) := by decide +kernel
theorem dX9_fault_16 : decode cX9_fault 16 = .ok (.aload_n 0, 1) := by decide +kernel
theorem dX9_fault_17 : decode cX9_fault 17 = .ok (.getfield 16, 3) := by decide +kernel
theorem dX9_fault_20 : decode cX9_fault 20 = .ok (.invokestatic 117, 3) := by decide +kernel
theorem dX9_fault_23 : decode cX9_fault 23 = .ok (.aload_n 0, 1) := by decide +kernel
theorem dX9_fault_24 : decode cX9_fault 24 = .ok (.invokevirtual 189, 3) := by decide +kernel
theorem dX9_fault_27 : decode cX9_fault 27 = .ok (.istore_n 2, 1) := by decide +kernel
theorem dX9_fault_28 : decode cX9_fault 28 = .ok (.aload_n 0, 1) := by decide +kernel
theorem dX9_fault_29 : decode cX9_fault 29 = .ok (.getfield 16, 3) := by decide +kernel
theorem dX9_fault_32 : decode cX9_fault 32 = .ok (.aload_n 0, 1) := by decide +kernel
theorem dX9_fault_33 : decode cX9_fault 33 = .ok (.getfield 7, 3) := by decide +kernel
theorem dX9_fault_36 : decode cX9_fault 36 = .ok (.invokestatic 117, 3) := by decide +kernel
theorem dX9_fault_39 : decode cX9_fault 39 = .ok (.iload_n 2, 1) := by decide +kernel
theorem dX9_fault_40 : decode cX9_fault 40 = .ok (.ifCond .eq 8, 3) := by decide +kernel
theorem dX9_fault_43 : decode cX9_fault 43 = .ok (.ldc 40, 2) := by decide +kernel
theorem dX9_fault_45 : decode cX9_fault 45 = .ok (.goto 30, 3) := by decide +kernel
theorem dX9_fault_48 : decode cX9_fault 48 = .ok (.iload_n 1, 1) := by decide +kernel
theorem dX9_fault_49 : decode cX9_fault 49 = .ok (.ifCond .ne 10, 3) := by decide +kernel
theorem dX9_fault_52 : decode cX9_fault 52 = .ok (.aload_n 0, 1) := by decide +kernel
theorem dX9_fault_53 : decode cX9_fault 53 = .ok (.getfield 170, 3) := by decide +kernel
theorem dX9_fault_56 : decode cX9_fault 56 = .ok (.goto 19, 3) := by decide +kernel
theorem dX9_fault_59 : decode cX9_fault 59 = .ok (.iload_n 1, 1) := by decide +kernel
theorem dX9_fault_60 : decode cX9_fault 60 = .ok (.iconst 1, 1) := by decide +kernel
theorem dX9_fault_61 : decode cX9_fault 61 = .ok (.if_icmp .ne 10, 3) := by decide +kernel
theorem dX9_fault_64 : decode cX9_fault 64 = .ok (.aload_n 0, 1) := by decide +kernel
theorem dX9_fault_65 : decode cX9_fault 65 = .ok (.getfield 183, 3) := by decide +kernel
theorem dX9_fault_68 : decode cX9_fault 68 = .ok (.goto 7, 3) := by decide +kernel
theorem dX9_fault_71 : decode cX9_fault 71 = .ok (.aload_n 0, 1) := by decide +kernel
theorem dX9_fault_72 : decode cX9_fault 72 = .ok (.getfield 186, 3) := by decide +kernel
theorem dX9_fault_75 : decode cX9_fault 75 = .ok (.ireturn, 1) := by decide +kernel
theorem dX9_play_0 : decode cX9_play 0 = .ok (.aload_n 0, 1) := by decide +kernel
theorem dX9_play_1 : decode cX9_play 1 = .ok (.getfield 7, 3) := by decide +kernel
theorem dX9_play_4 : decode cX9_play 4 = .ok (.aload_n 0, 1) := by decide +kernel
theorem dX9_play_5 : decode cX9_play 5 = .ok (.getfield 16, 3) := by decide +kernel
theorem dX9_play_8 : decode cX9_play 8 = .ok (.invokestatic 117, 3) := by decide +kernel
theorem dX9_play_11 : decode cX9_play 11 = .ok (.aload_n 0, 1) := by decide +kernel
theorem dX9_play_12 : decode cX9_play 12 = .ok (.invokevirtual 189, 3) := by decide +kernel
theorem dX9_play_15 : decode cX9_play 15 = .ok (.istore_n 1, 1) := by decide +kernel
theorem dX9_play_16 : decode cX9_play 16 = .ok (.aload_n 0, 1) := by decide +kernel
theorem dX9_play_17 : decode cX9_play 17 = .ok (.getfield 16, 3) := by decide +kernel
theorem dX9_play_20 : decode cX9_play 20 = .ok (.aload_n 0, 1) := by decide +kernel
theorem dX9_play_21 : decode cX9_play 21 = .ok (.getfield 7, 3) := by decide +kernel
theorem dX9_play_24 : decode cX9_play 24 = .ok (.invokestatic 117, 3) := by decide +kernel
theorem dX9_play_27 : decode cX9_play 27 = .ok (.iload_n 1, 1) := by decide +kernel
theorem dX9_play_28 : decode cX9_play 28 = .ok (.ifCond .ne 6, 3) := by decide +kernel
theorem dX9_play_31 : decode cX9_play 31 = .ok (.ldc 107, 2) := by decide +kernel
theorem dX9_play_33 : decode cX9_play 33 = .ok (.ireturn, 1) := by decide +kernel
theorem dX9_play_34 : decode cX9_play 34 = .ok (.aload_n 0, 1) := by decide +kernel
theorem dX9_play_35 : decode cX9_play 35 = .ok (.invokevirtual 97, 3) := by decide +kernel
theorem dX9_play_38 : decode cX9_play 38 = .ok (.aload_n 0, 1) := by decide +kernel
theorem dX9_play_39 : decode cX9_play 39 = .ok (.invokevirtual 189, 3) := by decide +kernel
theorem dX9_play_42 : decode cX9_play 42 = .ok (.ifCond .eq 10, 3) := by decide +kernel
theorem dX9_play_45 : decode cX9_play 45 = .ok (.aload_n 0, 1) := by decide +kernel
theorem dX9_play_46 : decode cX9_play 46 = .ok (.getfield 173, 3) := by decide +kernel
theorem dX9_play_49 : decode cX9_play 49 = .ok (.goto 5, 3) := by decide +kernel
theorem dX9_play_52 : decode cX9_play 52 = .ok (.ldc 40, 2) := by decide +kernel
theorem dX9_play_54 : decode cX9_play 54 = .ok (.ireturn, 1) := by decide +kernel
theorem dL_law_0 : decode cL_law 0 = .ok (.new 7, 3) := by decide +kernel
theorem dL_law_3 : decode cL_law 3 = .ok (.dup, 1) := by decide +kernel
theorem dL_law_4 : decode cL_law 4 = .ok (.invokespecial 9, 3) := by decide +kernel
theorem dL_law_7 : decode cL_law 7 = .ok (.astore_n 1, 1) := by decide +kernel
theorem dL_law_8 : decode cL_law 8 = .ok (.new 10, 3) := by decide +kernel
theorem dL_law_11 : decode cL_law 11 = .ok (.dup, 1) := by decide +kernel
theorem dL_law_12 : decode cL_law 12 = .ok (.invokespecial 12, 3) := by decide +kernel
theorem dL_law_15 : decode cL_law 15 = .ok (.astore_n 2, 1) := by decide +kernel
theorem dL_law_16 : decode cL_law 16 = .ok (.iconst 0, 1) := by decide +kernel
theorem dL_law_17 : decode cL_law 17 = .ok (.istore_n 3, 1) := by decide +kernel
theorem dL_law_18 : decode cL_law 18 = .ok (.iload_n 3, 1) := by decide +kernel
theorem dL_law_19 : decode cL_law 19 = .ok (.aload_n 0, 1) := by decide +kernel
theorem dL_law_20 : decode cL_law 20 = .ok (.arraylength, 1) := by decide +kernel
theorem dL_law_21 : decode cL_law 21 = .ok (.iconst 4, 1) := by decide +kernel
theorem dL_law_22 : decode cL_law 22 = .ok (.isub, 1) := by decide +kernel
theorem dL_law_23 : decode cL_law 23 = .ok (.if_icmp .gt 719, 3) := by decide +kernel
theorem dL_law_26 : decode cL_law 26 = .ok (.aload_n 0, 1) := by decide +kernel
theorem dL_law_27 : decode cL_law 27 = .ok (.iload_n 3, 1) := by decide +kernel
theorem dL_law_28 : decode cL_law 28 = .ok (.iaload, 1) := by decide +kernel
theorem dL_law_29 : decode cL_law 29 = .ok (.bipush 31, 2) := by decide +kernel
theorem dL_law_31 : decode cL_law 31 = .ok (.iand, 1) := by decide +kernel
theorem dL_law_32 : decode cL_law 32 = .ok (.tableswitch 704 0 23 #[112, 145, 178, 201, 224, 267, 290, 313, 346, 379, 412, 435, 458, 491, 514, 527, 550, 583, 596, 619, 632, 655, 668, 691], 112) := by decide +kernel
theorem dL_law_144 : decode cL_law 144 = .ok (.aload_n 1, 1) := by decide +kernel
theorem dL_law_145 : decode cL_law 145 = .ok (.aload_n 0, 1) := by decide +kernel
theorem dL_law_146 : decode cL_law 146 = .ok (.iload_n 3, 1) := by decide +kernel
theorem dL_law_147 : decode cL_law 147 = .ok (.iconst 1, 1) := by decide +kernel
theorem dL_law_148 : decode cL_law 148 = .ok (.iadd, 1) := by decide +kernel
theorem dL_law_149 : decode cL_law 149 = .ok (.iaload, 1) := by decide +kernel
theorem dL_law_150 : decode cL_law 150 = .ok (.aload_n 0, 1) := by decide +kernel
theorem dL_law_151 : decode cL_law 151 = .ok (.iload_n 3, 1) := by decide +kernel
theorem dL_law_152 : decode cL_law 152 = .ok (.iconst 2, 1) := by decide +kernel
theorem dL_law_153 : decode cL_law 153 = .ok (.iadd, 1) := by decide +kernel
theorem dL_law_154 : decode cL_law 154 = .ok (.iaload, 1) := by decide +kernel
theorem dL_law_155 : decode cL_law 155 = .ok (.invokevirtual 13, 3) := by decide +kernel
theorem dL_law_158 : decode cL_law 158 = .ok (.aload_n 2, 1) := by decide +kernel
theorem dL_law_159 : decode cL_law 159 = .ok (.aload_n 0, 1) := by decide +kernel
theorem dL_law_160 : decode cL_law 160 = .ok (.iload_n 3, 1) := by decide +kernel
theorem dL_law_161 : decode cL_law 161 = .ok (.iconst 1, 1) := by decide +kernel
theorem dL_law_162 : decode cL_law 162 = .ok (.iadd, 1) := by decide +kernel
theorem dL_law_163 : decode cL_law 163 = .ok (.iaload, 1) := by decide +kernel
theorem dL_law_164 : decode cL_law 164 = .ok (.aload_n 0, 1) := by decide +kernel
theorem dL_law_165 : decode cL_law 165 = .ok (.iload_n 3, 1) := by decide +kernel
theorem dL_law_166 : decode cL_law 166 = .ok (.iconst 2, 1) := by decide +kernel
theorem dL_law_167 : decode cL_law 167 = .ok (.iadd, 1) := by decide +kernel
theorem dL_law_168 : decode cL_law 168 = .ok (.iaload, 1) := by decide +kernel
theorem dL_law_169 : decode cL_law 169 = .ok (.invokevirtual 17, 3) := by decide +kernel
theorem dL_law_172 : decode cL_law 172 = .ok (.if_icmp .eq 564, 3) := by decide +kernel
theorem dL_law_175 : decode cL_law 175 = .ok (.iconst 0, 1) := by decide +kernel
theorem dL_law_176 : decode cL_law 176 = .ok (.ireturn, 1) := by decide +kernel
theorem dL_law_177 : decode cL_law 177 = .ok (.aload_n 1, 1) := by decide +kernel
theorem dL_law_178 : decode cL_law 178 = .ok (.aload_n 0, 1) := by decide +kernel
theorem dL_law_179 : decode cL_law 179 = .ok (.iload_n 3, 1) := by decide +kernel
theorem dL_law_180 : decode cL_law 180 = .ok (.iconst 1, 1) := by decide +kernel
theorem dL_law_181 : decode cL_law 181 = .ok (.iadd, 1) := by decide +kernel
theorem dL_law_182 : decode cL_law 182 = .ok (.iaload, 1) := by decide +kernel
theorem dL_law_183 : decode cL_law 183 = .ok (.aload_n 0, 1) := by decide +kernel
theorem dL_law_184 : decode cL_law 184 = .ok (.iload_n 3, 1) := by decide +kernel
theorem dL_law_185 : decode cL_law 185 = .ok (.iconst 2, 1) := by decide +kernel
theorem dL_law_186 : decode cL_law 186 = .ok (.iadd, 1) := by decide +kernel
theorem dL_law_187 : decode cL_law 187 = .ok (.iaload, 1) := by decide +kernel
theorem dL_law_188 : decode cL_law 188 = .ok (.invokevirtual 18, 3) := by decide +kernel
theorem dL_law_191 : decode cL_law 191 = .ok (.aload_n 2, 1) := by decide +kernel
theorem dL_law_192 : decode cL_law 192 = .ok (.aload_n 0, 1) := by decide +kernel
theorem dL_law_193 : decode cL_law 193 = .ok (.iload_n 3, 1) := by decide +kernel
theorem dL_law_194 : decode cL_law 194 = .ok (.iconst 1, 1) := by decide +kernel
theorem dL_law_195 : decode cL_law 195 = .ok (.iadd, 1) := by decide +kernel
theorem dL_law_196 : decode cL_law 196 = .ok (.iaload, 1) := by decide +kernel
theorem dL_law_197 : decode cL_law 197 = .ok (.aload_n 0, 1) := by decide +kernel
theorem dL_law_198 : decode cL_law 198 = .ok (.iload_n 3, 1) := by decide +kernel
theorem dL_law_199 : decode cL_law 199 = .ok (.iconst 2, 1) := by decide +kernel
theorem dL_law_200 : decode cL_law 200 = .ok (.iadd, 1) := by decide +kernel
theorem dL_law_201 : decode cL_law 201 = .ok (.iaload, 1) := by decide +kernel
theorem dL_law_202 : decode cL_law 202 = .ok (.invokevirtual 21, 3) := by decide +kernel
theorem dL_law_205 : decode cL_law 205 = .ok (.if_icmp .eq 531, 3) := by decide +kernel
theorem dL_law_208 : decode cL_law 208 = .ok (.iconst 0, 1) := by decide +kernel
theorem dL_law_209 : decode cL_law 209 = .ok (.ireturn, 1) := by decide +kernel
theorem dL_law_210 : decode cL_law 210 = .ok (.aload_n 1, 1) := by decide +kernel
theorem dL_law_211 : decode cL_law 211 = .ok (.aload_n 0, 1) := by decide +kernel
theorem dL_law_212 : decode cL_law 212 = .ok (.iload_n 3, 1) := by decide +kernel
theorem dL_law_213 : decode cL_law 213 = .ok (.iconst 1, 1) := by decide +kernel
theorem dL_law_214 : decode cL_law 214 = .ok (.iadd, 1) := by decide +kernel
theorem dL_law_215 : decode cL_law 215 = .ok (.iaload, 1) := by decide +kernel
theorem dL_law_216 : decode cL_law 216 = .ok (.invokevirtual 22, 3) := by decide +kernel
theorem dL_law_219 : decode cL_law 219 = .ok (.aload_n 2, 1) := by decide +kernel
theorem dL_law_220 : decode cL_law 220 = .ok (.aload_n 0, 1) := by decide +kernel
theorem dL_law_221 : decode cL_law 221 = .ok (.iload_n 3, 1) := by decide +kernel
theorem dL_law_222 : decode cL_law 222 = .ok (.iconst 1, 1) := by decide +kernel
theorem dL_law_223 : decode cL_law 223 = .ok (.iadd, 1) := by decide +kernel
theorem dL_law_224 : decode cL_law 224 = .ok (.iaload, 1) := by decide +kernel
theorem dL_law_225 : decode cL_law 225 = .ok (.invokevirtual 26, 3) := by decide +kernel
theorem dL_law_228 : decode cL_law 228 = .ok (.if_icmp .eq 508, 3) := by decide +kernel
theorem dL_law_231 : decode cL_law 231 = .ok (.iconst 0, 1) := by decide +kernel
theorem dL_law_232 : decode cL_law 232 = .ok (.ireturn, 1) := by decide +kernel
theorem dL_law_233 : decode cL_law 233 = .ok (.aload_n 1, 1) := by decide +kernel
theorem dL_law_234 : decode cL_law 234 = .ok (.aload_n 0, 1) := by decide +kernel
theorem dL_law_235 : decode cL_law 235 = .ok (.iload_n 3, 1) := by decide +kernel
theorem dL_law_236 : decode cL_law 236 = .ok (.iconst 1, 1) := by decide +kernel
theorem dL_law_237 : decode cL_law 237 = .ok (.iadd, 1) := by decide +kernel
theorem dL_law_238 : decode cL_law 238 = .ok (.iaload, 1) := by decide +kernel
theorem dL_law_239 : decode cL_law 239 = .ok (.invokevirtual 27, 3) := by decide +kernel
theorem dL_law_242 : decode cL_law 242 = .ok (.aload_n 2, 1) := by decide +kernel
theorem dL_law_243 : decode cL_law 243 = .ok (.aload_n 0, 1) := by decide +kernel
theorem dL_law_244 : decode cL_law 244 = .ok (.iload_n 3, 1) := by decide +kernel
theorem dL_law_245 : decode cL_law 245 = .ok (.iconst 1, 1) := by decide +kernel
theorem dL_law_246 : decode cL_law 246 = .ok (.iadd, 1) := by decide +kernel
theorem dL_law_247 : decode cL_law 247 = .ok (.iaload, 1) := by decide +kernel
theorem dL_law_248 : decode cL_law 248 = .ok (.invokevirtual 30, 3) := by decide +kernel
theorem dL_law_251 : decode cL_law 251 = .ok (.if_icmp .eq 485, 3) := by decide +kernel
theorem dL_law_254 : decode cL_law 254 = .ok (.iconst 0, 1) := by decide +kernel
theorem dL_law_255 : decode cL_law 255 = .ok (.ireturn, 1) := by decide +kernel
theorem dL_law_256 : decode cL_law 256 = .ok (.aload_n 1, 1) := by decide +kernel
theorem dL_law_257 : decode cL_law 257 = .ok (.aload_n 0, 1) := by decide +kernel
theorem dL_law_258 : decode cL_law 258 = .ok (.iload_n 3, 1) := by decide +kernel
theorem dL_law_259 : decode cL_law 259 = .ok (.iconst 1, 1) := by decide +kernel
theorem dL_law_260 : decode cL_law 260 = .ok (.iadd, 1) := by decide +kernel
theorem dL_law_261 : decode cL_law 261 = .ok (.iaload, 1) := by decide +kernel
theorem dL_law_262 : decode cL_law 262 = .ok (.aload_n 0, 1) := by decide +kernel
theorem dL_law_263 : decode cL_law 263 = .ok (.iload_n 3, 1) := by decide +kernel
theorem dL_law_264 : decode cL_law 264 = .ok (.iconst 2, 1) := by decide +kernel
theorem dL_law_265 : decode cL_law 265 = .ok (.iadd, 1) := by decide +kernel
theorem dL_law_266 : decode cL_law 266 = .ok (.iaload, 1) := by decide +kernel
theorem dL_law_267 : decode cL_law 267 = .ok (.aload_n 0, 1) := by decide +kernel
theorem dL_law_268 : decode cL_law 268 = .ok (.iload_n 3, 1) := by decide +kernel
theorem dL_law_269 : decode cL_law 269 = .ok (.iconst 3, 1) := by decide +kernel
theorem dL_law_270 : decode cL_law 270 = .ok (.iadd, 1) := by decide +kernel
theorem dL_law_271 : decode cL_law 271 = .ok (.iaload, 1) := by decide +kernel
theorem dL_law_272 : decode cL_law 272 = .ok (.invokevirtual 31, 3) := by decide +kernel
theorem dL_law_275 : decode cL_law 275 = .ok (.aload_n 2, 1) := by decide +kernel
theorem dL_law_276 : decode cL_law 276 = .ok (.aload_n 0, 1) := by decide +kernel
theorem dL_law_277 : decode cL_law 277 = .ok (.iload_n 3, 1) := by decide +kernel
theorem dL_law_278 : decode cL_law 278 = .ok (.iconst 1, 1) := by decide +kernel
theorem dL_law_279 : decode cL_law 279 = .ok (.iadd, 1) := by decide +kernel
theorem dL_law_280 : decode cL_law 280 = .ok (.iaload, 1) := by decide +kernel
theorem dL_law_281 : decode cL_law 281 = .ok (.aload_n 0, 1) := by decide +kernel
theorem dL_law_282 : decode cL_law 282 = .ok (.iload_n 3, 1) := by decide +kernel
theorem dL_law_283 : decode cL_law 283 = .ok (.iconst 2, 1) := by decide +kernel
theorem dL_law_284 : decode cL_law 284 = .ok (.iadd, 1) := by decide +kernel
theorem dL_law_285 : decode cL_law 285 = .ok (.iaload, 1) := by decide +kernel
theorem dL_law_286 : decode cL_law 286 = .ok (.aload_n 0, 1) := by decide +kernel
theorem dL_law_287 : decode cL_law 287 = .ok (.iload_n 3, 1) := by decide +kernel
theorem dL_law_288 : decode cL_law 288 = .ok (.iconst 3, 1) := by decide +kernel
theorem dL_law_289 : decode cL_law 289 = .ok (.iadd, 1) := by decide +kernel
theorem dL_law_290 : decode cL_law 290 = .ok (.iaload, 1) := by decide +kernel
theorem dL_law_291 : decode cL_law 291 = .ok (.invokevirtual 35, 3) := by decide +kernel
theorem dL_law_294 : decode cL_law 294 = .ok (.if_icmp .eq 442, 3) := by decide +kernel
theorem dL_law_297 : decode cL_law 297 = .ok (.iconst 0, 1) := by decide +kernel
theorem dL_law_298 : decode cL_law 298 = .ok (.ireturn, 1) := by decide +kernel
theorem dL_law_299 : decode cL_law 299 = .ok (.aload_n 1, 1) := by decide +kernel
theorem dL_law_300 : decode cL_law 300 = .ok (.aload_n 0, 1) := by decide +kernel
theorem dL_law_301 : decode cL_law 301 = .ok (.iload_n 3, 1) := by decide +kernel
theorem dL_law_302 : decode cL_law 302 = .ok (.iconst 1, 1) := by decide +kernel
theorem dL_law_303 : decode cL_law 303 = .ok (.iadd, 1) := by decide +kernel
theorem dL_law_304 : decode cL_law 304 = .ok (.iaload, 1) := by decide +kernel
theorem dL_law_305 : decode cL_law 305 = .ok (.invokevirtual 36, 3) := by decide +kernel
theorem dL_law_308 : decode cL_law 308 = .ok (.aload_n 2, 1) := by decide +kernel
theorem dL_law_309 : decode cL_law 309 = .ok (.aload_n 0, 1) := by decide +kernel
theorem dL_law_310 : decode cL_law 310 = .ok (.iload_n 3, 1) := by decide +kernel
theorem dL_law_311 : decode cL_law 311 = .ok (.iconst 1, 1) := by decide +kernel
theorem dL_law_312 : decode cL_law 312 = .ok (.iadd, 1) := by decide +kernel
theorem dL_law_313 : decode cL_law 313 = .ok (.iaload, 1) := by decide +kernel
theorem dL_law_314 : decode cL_law 314 = .ok (.invokevirtual 39, 3) := by decide +kernel
theorem dL_law_317 : decode cL_law 317 = .ok (.if_icmp .eq 419, 3) := by decide +kernel
theorem dL_law_320 : decode cL_law 320 = .ok (.iconst 0, 1) := by decide +kernel
theorem dL_law_321 : decode cL_law 321 = .ok (.ireturn, 1) := by decide +kernel
theorem dL_law_322 : decode cL_law 322 = .ok (.aload_n 1, 1) := by decide +kernel
theorem dL_law_323 : decode cL_law 323 = .ok (.aload_n 0, 1) := by decide +kernel
theorem dL_law_324 : decode cL_law 324 = .ok (.iload_n 3, 1) := by decide +kernel
theorem dL_law_325 : decode cL_law 325 = .ok (.iconst 1, 1) := by decide +kernel
theorem dL_law_326 : decode cL_law 326 = .ok (.iadd, 1) := by decide +kernel
theorem dL_law_327 : decode cL_law 327 = .ok (.iaload, 1) := by decide +kernel
theorem dL_law_328 : decode cL_law 328 = .ok (.invokevirtual 40, 3) := by decide +kernel
theorem dL_law_331 : decode cL_law 331 = .ok (.aload_n 2, 1) := by decide +kernel
theorem dL_law_332 : decode cL_law 332 = .ok (.aload_n 0, 1) := by decide +kernel
theorem dL_law_333 : decode cL_law 333 = .ok (.iload_n 3, 1) := by decide +kernel
theorem dL_law_334 : decode cL_law 334 = .ok (.iconst 1, 1) := by decide +kernel
theorem dL_law_335 : decode cL_law 335 = .ok (.iadd, 1) := by decide +kernel
theorem dL_law_336 : decode cL_law 336 = .ok (.iaload, 1) := by decide +kernel
theorem dL_law_337 : decode cL_law 337 = .ok (.invokevirtual 43, 3) := by decide +kernel
theorem dL_law_340 : decode cL_law 340 = .ok (.if_icmp .eq 396, 3) := by decide +kernel
theorem dL_law_343 : decode cL_law 343 = .ok (.iconst 0, 1) := by decide +kernel
theorem dL_law_344 : decode cL_law 344 = .ok (.ireturn, 1) := by decide +kernel
theorem dL_law_345 : decode cL_law 345 = .ok (.aload_n 1, 1) := by decide +kernel
theorem dL_law_346 : decode cL_law 346 = .ok (.aload_n 0, 1) := by decide +kernel
theorem dL_law_347 : decode cL_law 347 = .ok (.iload_n 3, 1) := by decide +kernel
theorem dL_law_348 : decode cL_law 348 = .ok (.iconst 1, 1) := by decide +kernel
theorem dL_law_349 : decode cL_law 349 = .ok (.iadd, 1) := by decide +kernel
theorem dL_law_350 : decode cL_law 350 = .ok (.iaload, 1) := by decide +kernel
theorem dL_law_351 : decode cL_law 351 = .ok (.aload_n 0, 1) := by decide +kernel
theorem dL_law_352 : decode cL_law 352 = .ok (.iload_n 3, 1) := by decide +kernel
theorem dL_law_353 : decode cL_law 353 = .ok (.iconst 2, 1) := by decide +kernel
theorem dL_law_354 : decode cL_law 354 = .ok (.iadd, 1) := by decide +kernel
theorem dL_law_355 : decode cL_law 355 = .ok (.iaload, 1) := by decide +kernel
theorem dL_law_356 : decode cL_law 356 = .ok (.invokevirtual 44, 3) := by decide +kernel
theorem dL_law_359 : decode cL_law 359 = .ok (.aload_n 2, 1) := by decide +kernel
theorem dL_law_360 : decode cL_law 360 = .ok (.aload_n 0, 1) := by decide +kernel
theorem dL_law_361 : decode cL_law 361 = .ok (.iload_n 3, 1) := by decide +kernel
theorem dL_law_362 : decode cL_law 362 = .ok (.iconst 1, 1) := by decide +kernel
theorem dL_law_363 : decode cL_law 363 = .ok (.iadd, 1) := by decide +kernel
theorem dL_law_364 : decode cL_law 364 = .ok (.iaload, 1) := by decide +kernel
theorem dL_law_365 : decode cL_law 365 = .ok (.aload_n 0, 1) := by decide +kernel
theorem dL_law_366 : decode cL_law 366 = .ok (.iload_n 3, 1) := by decide +kernel
theorem dL_law_367 : decode cL_law 367 = .ok (.iconst 2, 1) := by decide +kernel
theorem dL_law_368 : decode cL_law 368 = .ok (.iadd, 1) := by decide +kernel
theorem dL_law_369 : decode cL_law 369 = .ok (.iaload, 1) := by decide +kernel
theorem dL_law_370 : decode cL_law 370 = .ok (.invokevirtual 47, 3) := by decide +kernel
theorem dL_law_373 : decode cL_law 373 = .ok (.if_icmp .eq 363, 3) := by decide +kernel
theorem dL_law_376 : decode cL_law 376 = .ok (.iconst 0, 1) := by decide +kernel
theorem dL_law_377 : decode cL_law 377 = .ok (.ireturn, 1) := by decide +kernel
theorem dL_law_378 : decode cL_law 378 = .ok (.aload_n 1, 1) := by decide +kernel
theorem dL_law_379 : decode cL_law 379 = .ok (.aload_n 0, 1) := by decide +kernel
theorem dL_law_380 : decode cL_law 380 = .ok (.iload_n 3, 1) := by decide +kernel
theorem dL_law_381 : decode cL_law 381 = .ok (.iconst 1, 1) := by decide +kernel
theorem dL_law_382 : decode cL_law 382 = .ok (.iadd, 1) := by decide +kernel
theorem dL_law_383 : decode cL_law 383 = .ok (.iaload, 1) := by decide +kernel
theorem dL_law_384 : decode cL_law 384 = .ok (.aload_n 0, 1) := by decide +kernel
theorem dL_law_385 : decode cL_law 385 = .ok (.iload_n 3, 1) := by decide +kernel
theorem dL_law_386 : decode cL_law 386 = .ok (.iconst 2, 1) := by decide +kernel
theorem dL_law_387 : decode cL_law 387 = .ok (.iadd, 1) := by decide +kernel
theorem dL_law_388 : decode cL_law 388 = .ok (.iaload, 1) := by decide +kernel
theorem dL_law_389 : decode cL_law 389 = .ok (.invokevirtual 48, 3) := by decide +kernel
theorem dL_law_392 : decode cL_law 392 = .ok (.aload_n 2, 1) := by decide +kernel
theorem dL_law_393 : decode cL_law 393 = .ok (.aload_n 0, 1) := by decide +kernel
theorem dL_law_394 : decode cL_law 394 = .ok (.iload_n 3, 1) := by decide +kernel
theorem dL_law_395 : decode cL_law 395 = .ok (.iconst 1, 1) := by decide +kernel
theorem dL_law_396 : decode cL_law 396 = .ok (.iadd, 1) := by decide +kernel
theorem dL_law_397 : decode cL_law 397 = .ok (.iaload, 1) := by decide +kernel
theorem dL_law_398 : decode cL_law 398 = .ok (.aload_n 0, 1) := by decide +kernel
theorem dL_law_399 : decode cL_law 399 = .ok (.iload_n 3, 1) := by decide +kernel
theorem dL_law_400 : decode cL_law 400 = .ok (.iconst 2, 1) := by decide +kernel
theorem dL_law_401 : decode cL_law 401 = .ok (.iadd, 1) := by decide +kernel
theorem dL_law_402 : decode cL_law 402 = .ok (.iaload, 1) := by decide +kernel
theorem dL_law_403 : decode cL_law 403 = .ok (.invokevirtual 51, 3) := by decide +kernel
theorem dL_law_406 : decode cL_law 406 = .ok (.if_icmp .eq 330, 3) := by decide +kernel
theorem dL_law_409 : decode cL_law 409 = .ok (.iconst 0, 1) := by decide +kernel
theorem dL_law_410 : decode cL_law 410 = .ok (.ireturn, 1) := by decide +kernel
theorem dL_law_411 : decode cL_law 411 = .ok (.aload_n 1, 1) := by decide +kernel
theorem dL_law_412 : decode cL_law 412 = .ok (.aload_n 0, 1) := by decide +kernel
theorem dL_law_413 : decode cL_law 413 = .ok (.iload_n 3, 1) := by decide +kernel
theorem dL_law_414 : decode cL_law 414 = .ok (.iconst 1, 1) := by decide +kernel
theorem dL_law_415 : decode cL_law 415 = .ok (.iadd, 1) := by decide +kernel
theorem dL_law_416 : decode cL_law 416 = .ok (.iaload, 1) := by decide +kernel
theorem dL_law_417 : decode cL_law 417 = .ok (.aload_n 0, 1) := by decide +kernel
theorem dL_law_418 : decode cL_law 418 = .ok (.iload_n 3, 1) := by decide +kernel
theorem dL_law_419 : decode cL_law 419 = .ok (.iconst 2, 1) := by decide +kernel
theorem dL_law_420 : decode cL_law 420 = .ok (.iadd, 1) := by decide +kernel
theorem dL_law_421 : decode cL_law 421 = .ok (.iaload, 1) := by decide +kernel
theorem dL_law_422 : decode cL_law 422 = .ok (.invokevirtual 52, 3) := by decide +kernel
theorem dL_law_425 : decode cL_law 425 = .ok (.aload_n 2, 1) := by decide +kernel
theorem dL_law_426 : decode cL_law 426 = .ok (.aload_n 0, 1) := by decide +kernel
theorem dL_law_427 : decode cL_law 427 = .ok (.iload_n 3, 1) := by decide +kernel
theorem dL_law_428 : decode cL_law 428 = .ok (.iconst 1, 1) := by decide +kernel
theorem dL_law_429 : decode cL_law 429 = .ok (.iadd, 1) := by decide +kernel
theorem dL_law_430 : decode cL_law 430 = .ok (.iaload, 1) := by decide +kernel
theorem dL_law_431 : decode cL_law 431 = .ok (.aload_n 0, 1) := by decide +kernel
theorem dL_law_432 : decode cL_law 432 = .ok (.iload_n 3, 1) := by decide +kernel
theorem dL_law_433 : decode cL_law 433 = .ok (.iconst 2, 1) := by decide +kernel
theorem dL_law_434 : decode cL_law 434 = .ok (.iadd, 1) := by decide +kernel
theorem dL_law_435 : decode cL_law 435 = .ok (.iaload, 1) := by decide +kernel
theorem dL_law_436 : decode cL_law 436 = .ok (.invokevirtual 55, 3) := by decide +kernel
theorem dL_law_439 : decode cL_law 439 = .ok (.if_icmp .eq 297, 3) := by decide +kernel
theorem dL_law_442 : decode cL_law 442 = .ok (.iconst 0, 1) := by decide +kernel
theorem dL_law_443 : decode cL_law 443 = .ok (.ireturn, 1) := by decide +kernel
theorem dL_law_444 : decode cL_law 444 = .ok (.aload_n 1, 1) := by decide +kernel
theorem dL_law_445 : decode cL_law 445 = .ok (.aload_n 0, 1) := by decide +kernel
theorem dL_law_446 : decode cL_law 446 = .ok (.iload_n 3, 1) := by decide +kernel
theorem dL_law_447 : decode cL_law 447 = .ok (.iconst 1, 1) := by decide +kernel
theorem dL_law_448 : decode cL_law 448 = .ok (.iadd, 1) := by decide +kernel
theorem dL_law_449 : decode cL_law 449 = .ok (.iaload, 1) := by decide +kernel
theorem dL_law_450 : decode cL_law 450 = .ok (.invokevirtual 56, 3) := by decide +kernel
theorem dL_law_453 : decode cL_law 453 = .ok (.aload_n 2, 1) := by decide +kernel
theorem dL_law_454 : decode cL_law 454 = .ok (.aload_n 0, 1) := by decide +kernel
theorem dL_law_455 : decode cL_law 455 = .ok (.iload_n 3, 1) := by decide +kernel
theorem dL_law_456 : decode cL_law 456 = .ok (.iconst 1, 1) := by decide +kernel
theorem dL_law_457 : decode cL_law 457 = .ok (.iadd, 1) := by decide +kernel
theorem dL_law_458 : decode cL_law 458 = .ok (.iaload, 1) := by decide +kernel
theorem dL_law_459 : decode cL_law 459 = .ok (.invokevirtual 59, 3) := by decide +kernel
theorem dL_law_462 : decode cL_law 462 = .ok (.if_icmp .eq 274, 3) := by decide +kernel
theorem dL_law_465 : decode cL_law 465 = .ok (.iconst 0, 1) := by decide +kernel
theorem dL_law_466 : decode cL_law 466 = .ok (.ireturn, 1) := by decide +kernel
theorem dL_law_467 : decode cL_law 467 = .ok (.aload_n 1, 1) := by decide +kernel
theorem dL_law_468 : decode cL_law 468 = .ok (.aload_n 0, 1) := by decide +kernel
theorem dL_law_469 : decode cL_law 469 = .ok (.iload_n 3, 1) := by decide +kernel
theorem dL_law_470 : decode cL_law 470 = .ok (.iconst 1, 1) := by decide +kernel
theorem dL_law_471 : decode cL_law 471 = .ok (.iadd, 1) := by decide +kernel
theorem dL_law_472 : decode cL_law 472 = .ok (.iaload, 1) := by decide +kernel
theorem dL_law_473 : decode cL_law 473 = .ok (.invokevirtual 60, 3) := by decide +kernel
theorem dL_law_476 : decode cL_law 476 = .ok (.aload_n 2, 1) := by decide +kernel
theorem dL_law_477 : decode cL_law 477 = .ok (.aload_n 0, 1) := by decide +kernel
theorem dL_law_478 : decode cL_law 478 = .ok (.iload_n 3, 1) := by decide +kernel
theorem dL_law_479 : decode cL_law 479 = .ok (.iconst 1, 1) := by decide +kernel
theorem dL_law_480 : decode cL_law 480 = .ok (.iadd, 1) := by decide +kernel
theorem dL_law_481 : decode cL_law 481 = .ok (.iaload, 1) := by decide +kernel
theorem dL_law_482 : decode cL_law 482 = .ok (.invokevirtual 63, 3) := by decide +kernel
theorem dL_law_485 : decode cL_law 485 = .ok (.if_icmp .eq 251, 3) := by decide +kernel
theorem dL_law_488 : decode cL_law 488 = .ok (.iconst 0, 1) := by decide +kernel
theorem dL_law_489 : decode cL_law 489 = .ok (.ireturn, 1) := by decide +kernel
theorem dL_law_490 : decode cL_law 490 = .ok (.aload_n 1, 1) := by decide +kernel
theorem dL_law_491 : decode cL_law 491 = .ok (.aload_n 0, 1) := by decide +kernel
theorem dL_law_492 : decode cL_law 492 = .ok (.iload_n 3, 1) := by decide +kernel
theorem dL_law_493 : decode cL_law 493 = .ok (.iconst 1, 1) := by decide +kernel
theorem dL_law_494 : decode cL_law 494 = .ok (.iadd, 1) := by decide +kernel
theorem dL_law_495 : decode cL_law 495 = .ok (.iaload, 1) := by decide +kernel
theorem dL_law_496 : decode cL_law 496 = .ok (.aload_n 0, 1) := by decide +kernel
theorem dL_law_497 : decode cL_law 497 = .ok (.iload_n 3, 1) := by decide +kernel
theorem dL_law_498 : decode cL_law 498 = .ok (.iconst 2, 1) := by decide +kernel
theorem dL_law_499 : decode cL_law 499 = .ok (.iadd, 1) := by decide +kernel
theorem dL_law_500 : decode cL_law 500 = .ok (.iaload, 1) := by decide +kernel
theorem dL_law_501 : decode cL_law 501 = .ok (.invokevirtual 64, 3) := by decide +kernel
theorem dL_law_504 : decode cL_law 504 = .ok (.aload_n 2, 1) := by decide +kernel
theorem dL_law_505 : decode cL_law 505 = .ok (.aload_n 0, 1) := by decide +kernel
theorem dL_law_506 : decode cL_law 506 = .ok (.iload_n 3, 1) := by decide +kernel
theorem dL_law_507 : decode cL_law 507 = .ok (.iconst 1, 1) := by decide +kernel
theorem dL_law_508 : decode cL_law 508 = .ok (.iadd, 1) := by decide +kernel
theorem dL_law_509 : decode cL_law 509 = .ok (.iaload, 1) := by decide +kernel
theorem dL_law_510 : decode cL_law 510 = .ok (.aload_n 0, 1) := by decide +kernel
theorem dL_law_511 : decode cL_law 511 = .ok (.iload_n 3, 1) := by decide +kernel
theorem dL_law_512 : decode cL_law 512 = .ok (.iconst 2, 1) := by decide +kernel
theorem dL_law_513 : decode cL_law 513 = .ok (.iadd, 1) := by decide +kernel
theorem dL_law_514 : decode cL_law 514 = .ok (.iaload, 1) := by decide +kernel
theorem dL_law_515 : decode cL_law 515 = .ok (.invokevirtual 67, 3) := by decide +kernel
theorem dL_law_518 : decode cL_law 518 = .ok (.if_icmp .eq 218, 3) := by decide +kernel
theorem dL_law_521 : decode cL_law 521 = .ok (.iconst 0, 1) := by decide +kernel
theorem dL_law_522 : decode cL_law 522 = .ok (.ireturn, 1) := by decide +kernel
theorem dL_law_523 : decode cL_law 523 = .ok (.aload_n 1, 1) := by decide +kernel
theorem dL_law_524 : decode cL_law 524 = .ok (.aload_n 0, 1) := by decide +kernel
theorem dL_law_525 : decode cL_law 525 = .ok (.iload_n 3, 1) := by decide +kernel
theorem dL_law_526 : decode cL_law 526 = .ok (.iconst 1, 1) := by decide +kernel
theorem dL_law_527 : decode cL_law 527 = .ok (.iadd, 1) := by decide +kernel
theorem dL_law_528 : decode cL_law 528 = .ok (.iaload, 1) := by decide +kernel
theorem dL_law_529 : decode cL_law 529 = .ok (.invokevirtual 68, 3) := by decide +kernel
theorem dL_law_532 : decode cL_law 532 = .ok (.aload_n 2, 1) := by decide +kernel
theorem dL_law_533 : decode cL_law 533 = .ok (.aload_n 0, 1) := by decide +kernel
theorem dL_law_534 : decode cL_law 534 = .ok (.iload_n 3, 1) := by decide +kernel
theorem dL_law_535 : decode cL_law 535 = .ok (.iconst 1, 1) := by decide +kernel
theorem dL_law_536 : decode cL_law 536 = .ok (.iadd, 1) := by decide +kernel
theorem dL_law_537 : decode cL_law 537 = .ok (.iaload, 1) := by decide +kernel
theorem dL_law_538 : decode cL_law 538 = .ok (.invokevirtual 71, 3) := by decide +kernel
theorem dL_law_541 : decode cL_law 541 = .ok (.if_icmp .eq 195, 3) := by decide +kernel
theorem dL_law_544 : decode cL_law 544 = .ok (.iconst 0, 1) := by decide +kernel
theorem dL_law_545 : decode cL_law 545 = .ok (.ireturn, 1) := by decide +kernel
theorem dL_law_546 : decode cL_law 546 = .ok (.aload_n 1, 1) := by decide +kernel
theorem dL_law_547 : decode cL_law 547 = .ok (.invokevirtual 72, 3) := by decide +kernel
theorem dL_law_550 : decode cL_law 550 = .ok (.aload_n 2, 1) := by decide +kernel
theorem dL_law_551 : decode cL_law 551 = .ok (.invokevirtual 76, 3) := by decide +kernel
theorem dL_law_554 : decode cL_law 554 = .ok (.if_icmp .eq 182, 3) := by decide +kernel
theorem dL_law_557 : decode cL_law 557 = .ok (.iconst 0, 1) := by decide +kernel
theorem dL_law_558 : decode cL_law 558 = .ok (.ireturn, 1) := by decide +kernel
theorem dL_law_559 : decode cL_law 559 = .ok (.aload_n 1, 1) := by decide +kernel
theorem dL_law_560 : decode cL_law 560 = .ok (.aload_n 0, 1) := by decide +kernel
theorem dL_law_561 : decode cL_law 561 = .ok (.iload_n 3, 1) := by decide +kernel
theorem dL_law_562 : decode cL_law 562 = .ok (.iconst 1, 1) := by decide +kernel
theorem dL_law_563 : decode cL_law 563 = .ok (.iadd, 1) := by decide +kernel
theorem dL_law_564 : decode cL_law 564 = .ok (.iaload, 1) := by decide +kernel
theorem dL_law_565 : decode cL_law 565 = .ok (.invokevirtual 77, 3) := by decide +kernel
theorem dL_law_568 : decode cL_law 568 = .ok (.aload_n 2, 1) := by decide +kernel
theorem dL_law_569 : decode cL_law 569 = .ok (.aload_n 0, 1) := by decide +kernel
theorem dL_law_570 : decode cL_law 570 = .ok (.iload_n 3, 1) := by decide +kernel
theorem dL_law_571 : decode cL_law 571 = .ok (.iconst 1, 1) := by decide +kernel
theorem dL_law_572 : decode cL_law 572 = .ok (.iadd, 1) := by decide +kernel
theorem dL_law_573 : decode cL_law 573 = .ok (.iaload, 1) := by decide +kernel
theorem dL_law_574 : decode cL_law 574 = .ok (.invokevirtual 80, 3) := by decide +kernel
theorem dL_law_577 : decode cL_law 577 = .ok (.if_icmp .eq 159, 3) := by decide +kernel
theorem dL_law_580 : decode cL_law 580 = .ok (.iconst 0, 1) := by decide +kernel
theorem dL_law_581 : decode cL_law 581 = .ok (.ireturn, 1) := by decide +kernel
theorem dL_law_582 : decode cL_law 582 = .ok (.aload_n 1, 1) := by decide +kernel
theorem dL_law_583 : decode cL_law 583 = .ok (.aload_n 0, 1) := by decide +kernel
theorem dL_law_584 : decode cL_law 584 = .ok (.iload_n 3, 1) := by decide +kernel
theorem dL_law_585 : decode cL_law 585 = .ok (.iconst 1, 1) := by decide +kernel
theorem dL_law_586 : decode cL_law 586 = .ok (.iadd, 1) := by decide +kernel
theorem dL_law_587 : decode cL_law 587 = .ok (.iaload, 1) := by decide +kernel
theorem dL_law_588 : decode cL_law 588 = .ok (.aload_n 0, 1) := by decide +kernel
theorem dL_law_589 : decode cL_law 589 = .ok (.iload_n 3, 1) := by decide +kernel
theorem dL_law_590 : decode cL_law 590 = .ok (.iconst 2, 1) := by decide +kernel
theorem dL_law_591 : decode cL_law 591 = .ok (.iadd, 1) := by decide +kernel
theorem dL_law_592 : decode cL_law 592 = .ok (.iaload, 1) := by decide +kernel
theorem dL_law_593 : decode cL_law 593 = .ok (.invokevirtual 81, 3) := by decide +kernel
theorem dL_law_596 : decode cL_law 596 = .ok (.aload_n 2, 1) := by decide +kernel
theorem dL_law_597 : decode cL_law 597 = .ok (.aload_n 0, 1) := by decide +kernel
theorem dL_law_598 : decode cL_law 598 = .ok (.iload_n 3, 1) := by decide +kernel
theorem dL_law_599 : decode cL_law 599 = .ok (.iconst 1, 1) := by decide +kernel
theorem dL_law_600 : decode cL_law 600 = .ok (.iadd, 1) := by decide +kernel
theorem dL_law_601 : decode cL_law 601 = .ok (.iaload, 1) := by decide +kernel
theorem dL_law_602 : decode cL_law 602 = .ok (.aload_n 0, 1) := by decide +kernel
theorem dL_law_603 : decode cL_law 603 = .ok (.iload_n 3, 1) := by decide +kernel
theorem dL_law_604 : decode cL_law 604 = .ok (.iconst 2, 1) := by decide +kernel
theorem dL_law_605 : decode cL_law 605 = .ok (.iadd, 1) := by decide +kernel
theorem dL_law_606 : decode cL_law 606 = .ok (.iaload, 1) := by decide +kernel
theorem dL_law_607 : decode cL_law 607 = .ok (.invokevirtual 84, 3) := by decide +kernel
theorem dL_law_610 : decode cL_law 610 = .ok (.if_icmp .eq 126, 3) := by decide +kernel
theorem dL_law_613 : decode cL_law 613 = .ok (.iconst 0, 1) := by decide +kernel
theorem dL_law_614 : decode cL_law 614 = .ok (.ireturn, 1) := by decide +kernel
theorem dL_law_615 : decode cL_law 615 = .ok (.aload_n 1, 1) := by decide +kernel
theorem dL_law_616 : decode cL_law 616 = .ok (.invokevirtual 85, 3) := by decide +kernel
theorem dL_law_619 : decode cL_law 619 = .ok (.aload_n 2, 1) := by decide +kernel
theorem dL_law_620 : decode cL_law 620 = .ok (.invokevirtual 88, 3) := by decide +kernel
theorem dL_law_623 : decode cL_law 623 = .ok (.if_icmp .eq 113, 3) := by decide +kernel
theorem dL_law_626 : decode cL_law 626 = .ok (.iconst 0, 1) := by decide +kernel
theorem dL_law_627 : decode cL_law 627 = .ok (.ireturn, 1) := by decide +kernel
theorem dL_law_628 : decode cL_law 628 = .ok (.aload_n 1, 1) := by decide +kernel
theorem dL_law_629 : decode cL_law 629 = .ok (.aload_n 0, 1) := by decide +kernel
theorem dL_law_630 : decode cL_law 630 = .ok (.iload_n 3, 1) := by decide +kernel
theorem dL_law_631 : decode cL_law 631 = .ok (.iconst 1, 1) := by decide +kernel
theorem dL_law_632 : decode cL_law 632 = .ok (.iadd, 1) := by decide +kernel
theorem dL_law_633 : decode cL_law 633 = .ok (.iaload, 1) := by decide +kernel
theorem dL_law_634 : decode cL_law 634 = .ok (.invokevirtual 89, 3) := by decide +kernel
theorem dL_law_637 : decode cL_law 637 = .ok (.aload_n 2, 1) := by decide +kernel
theorem dL_law_638 : decode cL_law 638 = .ok (.aload_n 0, 1) := by decide +kernel
theorem dL_law_639 : decode cL_law 639 = .ok (.iload_n 3, 1) := by decide +kernel
theorem dL_law_640 : decode cL_law 640 = .ok (.iconst 1, 1) := by decide +kernel
theorem dL_law_641 : decode cL_law 641 = .ok (.iadd, 1) := by decide +kernel
theorem dL_law_642 : decode cL_law 642 = .ok (.iaload, 1) := by decide +kernel
theorem dL_law_643 : decode cL_law 643 = .ok (.invokevirtual 92, 3) := by decide +kernel
theorem dL_law_646 : decode cL_law 646 = .ok (.if_icmp .eq 90, 3) := by decide +kernel
theorem dL_law_649 : decode cL_law 649 = .ok (.iconst 0, 1) := by decide +kernel
theorem dL_law_650 : decode cL_law 650 = .ok (.ireturn, 1) := by decide +kernel
theorem dL_law_651 : decode cL_law 651 = .ok (.aload_n 1, 1) := by decide +kernel
theorem dL_law_652 : decode cL_law 652 = .ok (.invokevirtual 93, 3) := by decide +kernel
theorem dL_law_655 : decode cL_law 655 = .ok (.aload_n 2, 1) := by decide +kernel
theorem dL_law_656 : decode cL_law 656 = .ok (.invokevirtual 96, 3) := by decide +kernel
theorem dL_law_659 : decode cL_law 659 = .ok (.if_icmp .eq 77, 3) := by decide +kernel
theorem dL_law_662 : decode cL_law 662 = .ok (.iconst 0, 1) := by decide +kernel
theorem dL_law_663 : decode cL_law 663 = .ok (.ireturn, 1) := by decide +kernel
theorem dL_law_664 : decode cL_law 664 = .ok (.aload_n 1, 1) := by decide +kernel
theorem dL_law_665 : decode cL_law 665 = .ok (.aload_n 0, 1) := by decide +kernel
theorem dL_law_666 : decode cL_law 666 = .ok (.iload_n 3, 1) := by decide +kernel
theorem dL_law_667 : decode cL_law 667 = .ok (.iconst 1, 1) := by decide +kernel
theorem dL_law_668 : decode cL_law 668 = .ok (.iadd, 1) := by decide +kernel
theorem dL_law_669 : decode cL_law 669 = .ok (.iaload, 1) := by decide +kernel
theorem dL_law_670 : decode cL_law 670 = .ok (.invokevirtual 97, 3) := by decide +kernel
theorem dL_law_673 : decode cL_law 673 = .ok (.aload_n 2, 1) := by decide +kernel
theorem dL_law_674 : decode cL_law 674 = .ok (.aload_n 0, 1) := by decide +kernel
theorem dL_law_675 : decode cL_law 675 = .ok (.iload_n 3, 1) := by decide +kernel
theorem dL_law_676 : decode cL_law 676 = .ok (.iconst 1, 1) := by decide +kernel
theorem dL_law_677 : decode cL_law 677 = .ok (.iadd, 1) := by decide +kernel
theorem dL_law_678 : decode cL_law 678 = .ok (.iaload, 1) := by decide +kernel
theorem dL_law_679 : decode cL_law 679 = .ok (.invokevirtual 100, 3) := by decide +kernel
theorem dL_law_682 : decode cL_law 682 = .ok (.if_icmp .eq 54, 3) := by decide +kernel
theorem dL_law_685 : decode cL_law 685 = .ok (.iconst 0, 1) := by decide +kernel
theorem dL_law_686 : decode cL_law 686 = .ok (.ireturn, 1) := by decide +kernel
theorem dL_law_687 : decode cL_law 687 = .ok (.aload_n 1, 1) := by decide +kernel
theorem dL_law_688 : decode cL_law 688 = .ok (.invokevirtual 101, 3) := by decide +kernel
theorem dL_law_691 : decode cL_law 691 = .ok (.aload_n 2, 1) := by decide +kernel
theorem dL_law_692 : decode cL_law 692 = .ok (.invokevirtual 104, 3) := by decide +kernel
theorem dL_law_695 : decode cL_law 695 = .ok (.if_icmp .eq 41, 3) := by decide +kernel
theorem dL_law_698 : decode cL_law 698 = .ok (.iconst 0, 1) := by decide +kernel
theorem dL_law_699 : decode cL_law 699 = .ok (.ireturn, 1) := by decide +kernel
theorem dL_law_700 : decode cL_law 700 = .ok (.aload_n 1, 1) := by decide +kernel
theorem dL_law_701 : decode cL_law 701 = .ok (.aload_n 0, 1) := by decide +kernel
theorem dL_law_702 : decode cL_law 702 = .ok (.iload_n 3, 1) := by decide +kernel
theorem dL_law_703 : decode cL_law 703 = .ok (.iconst 1, 1) := by decide +kernel
theorem dL_law_704 : decode cL_law 704 = .ok (.iadd, 1) := by decide +kernel
theorem dL_law_705 : decode cL_law 705 = .ok (.iaload, 1) := by decide +kernel
theorem dL_law_706 : decode cL_law 706 = .ok (.invokevirtual 105, 3) := by decide +kernel
theorem dL_law_709 : decode cL_law 709 = .ok (.aload_n 2, 1) := by decide +kernel
theorem dL_law_710 : decode cL_law 710 = .ok (.aload_n 0, 1) := by decide +kernel
theorem dL_law_711 : decode cL_law 711 = .ok (.iload_n 3, 1) := by decide +kernel
theorem dL_law_712 : decode cL_law 712 = .ok (.iconst 1, 1) := by decide +kernel
theorem dL_law_713 : decode cL_law 713 = .ok (.iadd, 1) := by decide +kernel
theorem dL_law_714 : decode cL_law 714 = .ok (.iaload, 1) := by decide +kernel
theorem dL_law_715 : decode cL_law 715 = .ok (.invokevirtual 108, 3) := by decide +kernel
theorem dL_law_718 : decode cL_law 718 = .ok (.if_icmp .eq 18, 3) := by decide +kernel
theorem dL_law_721 : decode cL_law 721 = .ok (.iconst 0, 1) := by decide +kernel
theorem dL_law_722 : decode cL_law 722 = .ok (.ireturn, 1) := by decide +kernel
theorem dL_law_723 : decode cL_law 723 = .ok (.aload_n 1, 1) := by decide +kernel
theorem dL_law_724 : decode cL_law 724 = .ok (.invokevirtual 109, 3) := by decide +kernel
theorem dL_law_727 : decode cL_law 727 = .ok (.aload_n 2, 1) := by decide +kernel
theorem dL_law_728 : decode cL_law 728 = .ok (.invokevirtual 112, 3) := by decide +kernel
theorem dL_law_731 : decode cL_law 731 = .ok (.if_icmp .eq 5, 3) := by decide +kernel
theorem dL_law_734 : decode cL_law 734 = .ok (.iconst 0, 1) := by decide +kernel
theorem dL_law_735 : decode cL_law 735 = .ok (.ireturn, 1) := by decide +kernel
theorem dL_law_736 : decode cL_law 736 = .ok (.iinc 3 4, 3) := by decide +kernel
theorem dL_law_739 : decode cL_law 739 = .ok (.goto (-721), 3) := by decide +kernel
theorem dL_law_742 : decode cL_law 742 = .ok (.iconst 1, 1) := by decide +kernel
theorem dL_law_743 : decode cL_law 743 = .ok (.ireturn, 1) := by decide +kernel
