theorem dX7_init_0 : decode cX7_init 0 = .ok (.aload_n 0, 1) := by decide +kernel
theorem dX7_init_1 : decode cX7_init 1 = .ok (.invokespecial 1, 3) := by decide +kernel
theorem dX7_init_4 : decode cX7_init 4 = .ok (.aload_n 0, 1) := by decide +kernel
theorem dX7_init_5 : decode cX7_init 5 = .ok (.sipush 400, 3) := by decide +kernel
theorem dX7_init_8 : decode cX7_init 8 = .ok (.newarray .int, 2) := by decide +kernel
theorem dX7_init_10 : decode cX7_init 10 = .ok (.putfield 7, 3) := by decide +kernel
theorem dX7_init_13 : decode cX7_init 13 = .ok (.aload_n 0, 1) := by decide +kernel
theorem dX7_init_14 : decode cX7_init 14 = .ok (.sipush 400, 3) := by decide +kernel
theorem dX7_init_17 : decode cX7_init 17 = .ok (.newarray .int, 2) := by decide +kernel
theorem dX7_init_19 : decode cX7_init 19 = .ok (.putfield 13, 3) := by decide +kernel
theorem dX7_init_22 : decode cX7_init 22 = .ok (.aload_n 0, 1) := by decide +kernel
theorem dX7_init_23 : decode cX7_init 23 = .ok (.sipush 400, 3) := by decide +kernel
theorem dX7_init_26 : decode cX7_init 26 = .ok (.newarray .boolean, 2) := by decide +kernel
theorem dX7_init_28 : decode cX7_init 28 = .ok (.putfield 16, 3) := by decide +kernel
theorem dX7_init_31 : decode cX7_init 31 = .ok (.aload_n 0, 1) := by decide +kernel
theorem dX7_init_32 : decode cX7_init 32 = .ok (.iconst 4, 1) := by decide +kernel
theorem dX7_init_33 : decode cX7_init 33 = .ok (.newarray .int, 2) := by decide +kernel
theorem dX7_init_35 : decode cX7_init 35 = .ok (.putfield 20, 3) := by decide +kernel
theorem dX7_init_38 : decode cX7_init 38 = .ok (.aload_n 0, 1) := by decide +kernel
theorem dX7_init_39 : decode cX7_init 39 = .ok (.iconst 4, 1) := by decide +kernel
theorem dX7_init_40 : decode cX7_init 40 = .ok (.newarray .int, 2) := by decide +kernel
theorem dX7_init_42 : decode cX7_init 42 = .ok (.dup, 1) := by decide +kernel
theorem dX7_init_43 : decode cX7_init 43 = .ok (.iconst 0, 1) := by decide +kernel
theorem dX7_init_44 : decode cX7_init 44 = .ok (.iconst 1, 1) := by decide +kernel
theorem dX7_init_45 : decode cX7_init 45 = .ok (.iastore, 1) := by decide +kernel
theorem dX7_init_46 : decode cX7_init 46 = .ok (.dup, 1) := by decide +kernel
theorem dX7_init_47 : decode cX7_init 47 = .ok (.iconst 1, 1) := by decide +kernel
theorem dX7_init_48 : decode cX7_init 48 = .ok (.iconst 1, 1) := by decide +kernel
theorem dX7_init_49 : decode cX7_init 49 = .ok (.iastore, 1) := by decide +kernel
theorem dX7_init_50 : decode cX7_init 50 = .ok (.dup, 1) := by decide +kernel
theorem dX7_init_51 : decode cX7_init 51 = .ok (.iconst 2, 1) := by decide +kernel
theorem dX7_init_52 : decode cX7_init 52 = .ok (.iconst 1, 1) := by decide +kernel
theorem dX7_init_53 : decode cX7_init 53 = .ok (.iastore, 1) := by decide +kernel
theorem dX7_init_54 : decode cX7_init 54 = .ok (.dup, 1) := by decide +kernel
theorem dX7_init_55 : decode cX7_init 55 = .ok (.iconst 3, 1) := by decide +kernel
theorem dX7_init_56 : decode cX7_init 56 = .ok (.iconst 1, 1) := by decide +kernel
theorem dX7_init_57 : decode cX7_init 57 = .ok (.iastore, 1) := by decide +kernel
theorem dX7_init_58 : decode cX7_init 58 = .ok (.putfield 23, 3) := by decide +kernel
theorem dX7_init_61 : decode cX7_init 61 = .ok (.aload_n 0, 1) := by decide +kernel
theorem dX7_init_62 : decode cX7_init 62 = .ok (.sipush 240, 3) := by decide +kernel
theorem dX7_init_65 : decode cX7_init 65 = .ok (.newarray .int, 2) := by decide +kernel
theorem dX7_init_67 : decode cX7_init 67 = .ok (.putfield 26, 3) := by decide +kernel
theorem dX7_init_70 : decode cX7_init 70 = .ok (.aload_n 0, 1) := by decide +kernel
theorem dX7_init_71 : decode cX7_init 71 = .ok (.sipush 160, 3) := by decide +kernel
theorem dX7_init_74 : decode cX7_init 74 = .ok (.newarray .int, 2) := by decide +kernel
theorem dX7_init_76 : decode cX7_init 76 = .ok (.putfield 29, 3) := by decide +kernel
theorem dX7_init_79 : decode cX7_init 79 = .ok (.aload_n 0, 1) := by decide +kernel
theorem dX7_init_80 : decode cX7_init 80 = .ok (.sipush 160, 3) := by decide +kernel
theorem dX7_init_83 : decode cX7_init 83 = .ok (.newarray .int, 2) := by decide +kernel
theorem dX7_init_85 : decode cX7_init 85 = .ok (.putfield 32, 3) := by decide +kernel
theorem dX7_init_88 : decode cX7_init 88 = .ok (.aload_n 0, 1) := by decide +kernel
theorem dX7_init_89 : decode cX7_init 89 = .ok (.iconst 3, 1) := by decide +kernel
theorem dX7_init_90 : decode cX7_init 90 = .ok (.newarray .int, 2) := by decide +kernel
theorem dX7_init_92 : decode cX7_init 92 = .ok (.putfield 35, 3) := by decide +kernel
theorem dX7_init_95 : decode cX7_init 95 = .ok (.aload_n 0, 1) := by decide +kernel
theorem dX7_init_96 : decode cX7_init 96 = .ok (.bipush 6, 2) := by decide +kernel
theorem dX7_init_98 : decode cX7_init 98 = .ok (.newarray .int, 2) := by decide +kernel
theorem dX7_init_100 : decode cX7_init 100 = .ok (.putfield 38, 3) := by decide +kernel
theorem dX7_init_103 : decode cX7_init 103 = .ok (.aload_n 0, 1) := by decide +kernel
theorem dX7_init_104 : decode cX7_init 104 = .ok (.sipush 400, 3) := by decide +kernel
theorem dX7_init_107 : decode cX7_init 107 = .ok (.newarray .int, 2) := by decide +kernel
theorem dX7_init_109 : decode cX7_init 109 = .ok (.putfield 41, 3) := by decide +kernel
theorem dX7_init_112 : decode cX7_init 112 = .ok (.aload_n 0, 1) := by decide +kernel
theorem dX7_init_113 : decode cX7_init 113 = .ok (.sipush 400, 3) := by decide +kernel
theorem dX7_init_116 : decode cX7_init 116 = .ok (.newarray .boolean, 2) := by decide +kernel
theorem dX7_init_118 : decode cX7_init 118 = .ok (.putfield 44, 3) := by decide +kernel
theorem dX7_init_121 : decode cX7_init 121 = .ok (.aload_n 0, 1) := by decide +kernel
theorem dX7_init_122 : decode cX7_init 122 = .ok (.iconst 3, 1) := by decide +kernel
theorem dX7_init_123 : decode cX7_init 123 = .ok (.newarray .int, 2) := by decide +kernel
theorem dX7_init_125 : decode cX7_init 125 = .ok (.putfield 47, 3) := by decide +kernel
theorem dX7_init_128 : decode cX7_init 128 = .ok (.aload_n 0, 1) := by decide +kernel
theorem dX7_init_129 : decode cX7_init 129 = .ok (.iconst 3, 1) := by decide +kernel
theorem dX7_init_130 : decode cX7_init 130 = .ok (.newarray .int, 2) := by decide +kernel
theorem dX7_init_132 : decode cX7_init 132 = .ok (.putfield 50, 3) := by decide +kernel
theorem dX7_init_135 : decode cX7_init 135 = .ok (.aload_n 0, 1) := by decide +kernel
theorem dX7_init_136 : decode cX7_init 136 = .ok (.iload_n 1, 1) := by decide +kernel
theorem dX7_init_137 : decode cX7_init 137 = .ok (.iconst 2, 1) := by decide +kernel
theorem dX7_init_138 : decode cX7_init 138 = .ok (.if_icmp .ge 7, 3) := by decide +kernel
theorem dX7_init_141 : decode cX7_init 141 = .ok (.iconst 2, 1) := by decide +kernel
theorem dX7_init_142 : decode cX7_init 142 = .ok (.goto 15, 3) := by decide +kernel
theorem dX7_init_145 : decode cX7_init 145 = .ok (.iload_n 1, 1) := by decide +kernel
theorem dX7_init_146 : decode cX7_init 146 = .ok (.bipush 20, 2) := by decide +kernel
theorem dX7_init_148 : decode cX7_init 148 = .ok (.if_icmp .le 8, 3) := by decide +kernel
theorem dX7_init_151 : decode cX7_init 151 = .ok (.bipush 20, 2) := by decide +kernel
theorem dX7_init_153 : decode cX7_init 153 = .ok (.goto 4, 3) := by decide +kernel
theorem dX7_init_156 : decode cX7_init 156 = .ok (.iload_n 1, 1) := by decide +kernel
theorem dX7_init_157 : decode cX7_init 157 = .ok (.putfield 53, 3) := by decide +kernel
theorem dX7_init_160 : decode cX7_init 160 = .ok (.iconst 0, 1) := by decide +kernel
theorem dX7_init_161 : decode cX7_init 161 = .ok (.istore_n 2, 1) := by decide +kernel
theorem dX7_init_162 : decode cX7_init 162 = .ok (.iload_n 2, 1) := by decide +kernel
theorem dX7_init_163 : decode cX7_init 163 = .ok (.sipush 400, 3) := by decide +kernel
theorem dX7_init_166 : decode cX7_init 166 = .ok (.if_icmp .ge 25, 3) := by decide +kernel
theorem dX7_init_169 : decode cX7_init 169 = .ok (.aload_n 0, 1) := by decide +kernel
theorem dX7_init_170 : decode cX7_init 170 = .ok (.getfield 7, 3) := by decide +kernel
theorem dX7_init_173 : decode cX7_init 173 = .ok (.iload_n 2, 1) := by decide +kernel
theorem dX7_init_174 : decode cX7_init 174 = .ok (.bipush 100, 2) := by decide +kernel
theorem dX7_init_176 : decode cX7_init 176 = .ok (.iastore, 1) := by decide +kernel
theorem dX7_init_177 : decode cX7_init 177 = .ok (.aload_n 0, 1) := by decide +kernel
theorem dX7_init_178 : decode cX7_init 178 = .ok (.getfield 13, 3) := by decide +kernel
theorem dX7_init_181 : decode cX7_init 181 = .ok (.iload_n 2, 1) := by decide +kernel
theorem dX7_init_182 : decode cX7_init 182 = .ok (.bipush 100, 2) := by decide +kernel
theorem dX7_init_184 : decode cX7_init 184 = .ok (.iastore, 1) := by decide +kernel
theorem dX7_init_185 : decode cX7_init 185 = .ok (.iinc 2 1, 3) := by decide +kernel
theorem dX7_init_188 : decode cX7_init 188 = .ok (.goto (-26), 3) := by decide +kernel
theorem dX7_init_191 : decode cX7_init 191 = .ok (.return_, 1) := by decide +kernel
theorem dX7_thrown_0 : decode cX7_thrown 0 = .ok (.aload_n 0, 1) := by decide +kernel
theorem dX7_thrown_1 : decode cX7_thrown 1 = .ok (.getfield 57, 3) := by decide +kernel
theorem dX7_thrown_4 : decode cX7_thrown 4 = .ok (.ireturn, 1) := by decide +kernel
theorem dX7_isIn_0 : decode cX7_isIn 0 = .ok (.iload_n 0, 1) := by decide +kernel
theorem dX7_isIn_1 : decode cX7_isIn 1 = .ok (.iload_n 1, 1) := by decide +kernel
theorem dX7_isIn_2 : decode cX7_isIn 2 = .ok (.if_icmp .lt 12, 3) := by decide +kernel
theorem dX7_isIn_5 : decode cX7_isIn 5 = .ok (.iload_n 0, 1) := by decide +kernel
theorem dX7_isIn_6 : decode cX7_isIn 6 = .ok (.iload_n 2, 1) := by decide +kernel
theorem dX7_isIn_7 : decode cX7_isIn 7 = .ok (.if_icmp .gt 7, 3) := by decide +kernel
theorem dX7_isIn_10 : decode cX7_isIn 10 = .ok (.iconst 1, 1) := by decide +kernel
theorem dX7_isIn_11 : decode cX7_isIn 11 = .ok (.goto 4, 3) := by decide +kernel
theorem dX7_isIn_14 : decode cX7_isIn 14 = .ok (.iconst 0, 1) := by decide +kernel
theorem dX7_isIn_15 : decode cX7_isIn 15 = .ok (.ireturn, 1) := by decide +kernel
theorem dX7_isCell_0 : decode cX7_isCell 0 = .ok (.iload_n 1, 1) := by decide +kernel
theorem dX7_isCell_1 : decode cX7_isCell 1 = .ok (.iconst 0, 1) := by decide +kernel
theorem dX7_isCell_2 : decode cX7_isCell 2 = .ok (.aload_n 0, 1) := by decide +kernel
theorem dX7_isCell_3 : decode cX7_isCell 3 = .ok (.getfield 53, 3) := by decide +kernel
theorem dX7_isCell_6 : decode cX7_isCell 6 = .ok (.iconst 1, 1) := by decide +kernel
theorem dX7_isCell_7 : decode cX7_isCell 7 = .ok (.isub, 1) := by decide +kernel
theorem dX7_isCell_8 : decode cX7_isCell 8 = .ok (.invokestatic 60, 3) := by decide +kernel
theorem dX7_isCell_11 : decode cX7_isCell 11 = .ok (.ifCond .eq 21, 3) := by decide +kernel
theorem dX7_isCell_14 : decode cX7_isCell 14 = .ok (.iload_n 2, 1) := by decide +kernel
theorem dX7_isCell_15 : decode cX7_isCell 15 = .ok (.iconst 0, 1) := by decide +kernel
theorem dX7_isCell_16 : decode cX7_isCell 16 = .ok (.aload_n 0, 1) := by decide +kernel
theorem dX7_isCell_17 : decode cX7_isCell 17 = .ok (.getfield 53, 3) := by decide +kernel
theorem dX7_isCell_20 : decode cX7_isCell 20 = .ok (.iconst 1, 1) := by decide +kernel
theorem dX7_isCell_21 : decode cX7_isCell 21 = .ok (.isub, 1) := by decide +kernel
theorem dX7_isCell_22 : decode cX7_isCell 22 = .ok (.invokestatic 60, 3) := by decide +kernel
theorem dX7_isCell_25 : decode cX7_isCell 25 = .ok (.ifCond .eq 7, 3) := by decide +kernel
theorem dX7_isCell_28 : decode cX7_isCell 28 = .ok (.iconst 1, 1) := by decide +kernel
theorem dX7_isCell_29 : decode cX7_isCell 29 = .ok (.goto 4, 3) := by decide +kernel
theorem dX7_isCell_32 : decode cX7_isCell 32 = .ok (.iconst 0, 1) := by decide +kernel
theorem dX7_isCell_33 : decode cX7_isCell 33 = .ok (.ireturn, 1) := by decide +kernel
theorem dX7_spanFault_0 : decode cX7_spanFault 0 = .ok (.aload_n 0, 1) := by decide +kernel
theorem dX7_spanFault_1 : decode cX7_spanFault 1 = .ok (.iload_n 1, 1) := by decide +kernel
theorem dX7_spanFault_2 : decode cX7_spanFault 2 = .ok (.iload_n 2, 1) := by decide +kernel
theorem dX7_spanFault_3 : decode cX7_spanFault 3 = .ok (.invokevirtual 64, 3) := by decide +kernel
theorem dX7_spanFault_6 : decode cX7_spanFault 6 = .ok (.ifCond .eq 13, 3) := by decide +kernel
theorem dX7_spanFault_9 : decode cX7_spanFault 9 = .ok (.aload_n 0, 1) := by decide +kernel
theorem dX7_spanFault_10 : decode cX7_spanFault 10 = .ok (.iload_n 3, 1) := by decide +kernel
theorem dX7_spanFault_11 : decode cX7_spanFault 11 = .ok (.iload 4, 2) := by decide +kernel
theorem dX7_spanFault_13 : decode cX7_spanFault 13 = .ok (.invokevirtual 64, 3) := by decide +kernel
theorem dX7_spanFault_16 : decode cX7_spanFault 16 = .ok (.ifCond .ne 7, 3) := by decide +kernel
theorem dX7_spanFault_19 : decode cX7_spanFault 19 = .ok (.iconst 1, 1) := by decide +kernel
theorem dX7_spanFault_20 : decode cX7_spanFault 20 = .ok (.goto 24, 3) := by decide +kernel
theorem dX7_spanFault_23 : decode cX7_spanFault 23 = .ok (.iload_n 3, 1) := by decide +kernel
theorem dX7_spanFault_24 : decode cX7_spanFault 24 = .ok (.iload_n 1, 1) := by decide +kernel
theorem dX7_spanFault_25 : decode cX7_spanFault 25 = .ok (.if_icmp .lt 18, 3) := by decide +kernel
theorem dX7_spanFault_28 : decode cX7_spanFault 28 = .ok (.iload 4, 2) := by decide +kernel
theorem dX7_spanFault_30 : decode cX7_spanFault 30 = .ok (.iload_n 2, 1) := by decide +kernel
theorem dX7_spanFault_31 : decode cX7_spanFault 31 = .ok (.if_icmp .lt 12, 3) := by decide +kernel
theorem dX7_spanFault_34 : decode cX7_spanFault 34 = .ok (.iload 5, 2) := by decide +kernel
theorem dX7_spanFault_36 : decode cX7_spanFault 36 = .ok (.ifCond .eq 7, 3) := by decide +kernel
theorem dX7_spanFault_39 : decode cX7_spanFault 39 = .ok (.iconst 0, 1) := by decide +kernel
theorem dX7_spanFault_40 : decode cX7_spanFault 40 = .ok (.goto 4, 3) := by decide +kernel
theorem dX7_spanFault_43 : decode cX7_spanFault 43 = .ok (.iconst 2, 1) := by decide +kernel
theorem dX7_spanFault_44 : decode cX7_spanFault 44 = .ok (.ireturn, 1) := by decide +kernel
theorem dX7_target_0 : decode cX7_target 0 = .ok (.aload_n 0, 1) := by decide +kernel
theorem dX7_target_1 : decode cX7_target 1 = .ok (.aload_n 0, 1) := by decide +kernel
theorem dX7_target_2 : decode cX7_target 2 = .ok (.iload_n 1, 1) := by decide +kernel
theorem dX7_target_3 : decode cX7_target 3 = .ok (.iload_n 2, 1) := by decide +kernel
theorem dX7_target_4 : decode cX7_target 4 = .ok (.iload_n 3, 1) := by decide +kernel
theorem dX7_target_5 : decode cX7_target 5 = .ok (.iload 4, 2) := by decide +kernel
theorem dX7_target_7 : decode cX7_target 7 = .ok (.iload 5, 2) := by decide +kernel
theorem dX7_target_9 : decode cX7_target 9 = .ok (.iconst 0, 1) := by decide +kernel
theorem dX7_target_10 : decode cX7_target 10 = .ok (.bipush 100, 2) := by decide +kernel
theorem dX7_target_12 : decode cX7_target 12 = .ok (.invokestatic 60, 3) := by decide +kernel
theorem dX7_target_15 : decode cX7_target 15 = .ok (.invokevirtual 68, 3) := by decide +kernel
theorem dX7_target_18 : decode cX7_target 18 = .ok (.putfield 57, 3) := by decide +kernel
theorem dX7_target_21 : decode cX7_target 21 = .ok (.iload_n 2, 1) := by decide +kernel
theorem dX7_target_22 : decode cX7_target 22 = .ok (.istore 6, 2) := by decide +kernel
theorem dX7_target_24 : decode cX7_target 24 = .ok (.aload_n 0, 1) := by decide +kernel
theorem dX7_target_25 : decode cX7_target 25 = .ok (.getfield 57, 3) := by decide +kernel
theorem dX7_target_28 : decode cX7_target 28 = .ok (.ifCond .ne 46, 3) := by decide +kernel
theorem dX7_target_31 : decode cX7_target 31 = .ok (.iload 6, 2) := by decide +kernel
theorem dX7_target_33 : decode cX7_target 33 = .ok (.iload 4, 2) := by decide +kernel
theorem dX7_target_35 : decode cX7_target 35 = .ok (.if_icmp .gt 39, 3) := by decide +kernel
theorem dX7_target_38 : decode cX7_target 38 = .ok (.iload_n 1, 1) := by decide +kernel
theorem dX7_target_39 : decode cX7_target 39 = .ok (.istore 7, 2) := by decide +kernel
theorem dX7_target_41 : decode cX7_target 41 = .ok (.iload 7, 2) := by decide +kernel
theorem dX7_target_43 : decode cX7_target 43 = .ok (.iload_n 3, 1) := by decide +kernel
theorem dX7_target_44 : decode cX7_target 44 = .ok (.if_icmp .gt 24, 3) := by decide +kernel
theorem dX7_target_47 : decode cX7_target 47 = .ok (.aload_n 0, 1) := by decide +kernel
theorem dX7_target_48 : decode cX7_target 48 = .ok (.getfield 13, 3) := by decide +kernel
theorem dX7_target_51 : decode cX7_target 51 = .ok (.bipush 20, 2) := by decide +kernel
theorem dX7_target_53 : decode cX7_target 53 = .ok (.iload 6, 2) := by decide +kernel
theorem dX7_target_55 : decode cX7_target 55 = .ok (.imul, 1) := by decide +kernel
theorem dX7_target_56 : decode cX7_target 56 = .ok (.iload 7, 2) := by decide +kernel
theorem dX7_target_58 : decode cX7_target 58 = .ok (.iadd, 1) := by decide +kernel
theorem dX7_target_59 : decode cX7_target 59 = .ok (.iload 5, 2) := by decide +kernel
theorem dX7_target_61 : decode cX7_target 61 = .ok (.iastore, 1) := by decide +kernel
theorem dX7_target_62 : decode cX7_target 62 = .ok (.iinc 7 1, 3) := by decide +kernel
theorem dX7_target_65 : decode cX7_target 65 = .ok (.goto (-24), 3) := by decide +kernel
theorem dX7_target_68 : decode cX7_target 68 = .ok (.iinc 6 1, 3) := by decide +kernel
theorem dX7_target_71 : decode cX7_target 71 = .ok (.goto (-47), 3) := by decide +kernel
theorem dX7_target_74 : decode cX7_target 74 = .ok (.return_, 1) := by decide +kernel
theorem dX7_keep_0 : decode cX7_keep 0 = .ok (.aload_n 0, 1) := by decide +kernel
theorem dX7_keep_1 : decode cX7_keep 1 = .ok (.aload_n 0, 1) := by decide +kernel
theorem dX7_keep_2 : decode cX7_keep 2 = .ok (.iload_n 1, 1) := by decide +kernel
theorem dX7_keep_3 : decode cX7_keep 3 = .ok (.iload_n 2, 1) := by decide +kernel
theorem dX7_keep_4 : decode cX7_keep 4 = .ok (.iload_n 3, 1) := by decide +kernel
theorem dX7_keep_5 : decode cX7_keep 5 = .ok (.iload 4, 2) := by decide +kernel
theorem dX7_keep_7 : decode cX7_keep 7 = .ok (.iconst 1, 1) := by decide +kernel
theorem dX7_keep_8 : decode cX7_keep 8 = .ok (.invokevirtual 68, 3) := by decide +kernel
theorem dX7_keep_11 : decode cX7_keep 11 = .ok (.putfield 57, 3) := by decide +kernel
theorem dX7_keep_14 : decode cX7_keep 14 = .ok (.iload_n 2, 1) := by decide +kernel
theorem dX7_keep_15 : decode cX7_keep 15 = .ok (.istore 6, 2) := by decide +kernel
theorem dX7_keep_17 : decode cX7_keep 17 = .ok (.aload_n 0, 1) := by decide +kernel
theorem dX7_keep_18 : decode cX7_keep 18 = .ok (.getfield 57, 3) := by decide +kernel
theorem dX7_keep_21 : decode cX7_keep 21 = .ok (.ifCond .ne 46, 3) := by decide +kernel
theorem dX7_keep_24 : decode cX7_keep 24 = .ok (.iload 6, 2) := by decide +kernel
theorem dX7_keep_26 : decode cX7_keep 26 = .ok (.iload 4, 2) := by decide +kernel
theorem dX7_keep_28 : decode cX7_keep 28 = .ok (.if_icmp .gt 39, 3) := by decide +kernel
theorem dX7_keep_31 : decode cX7_keep 31 = .ok (.iload_n 1, 1) := by decide +kernel
theorem dX7_keep_32 : decode cX7_keep 32 = .ok (.istore 7, 2) := by decide +kernel
theorem dX7_keep_34 : decode cX7_keep 34 = .ok (.iload 7, 2) := by decide +kernel
theorem dX7_keep_36 : decode cX7_keep 36 = .ok (.iload_n 3, 1) := by decide +kernel
theorem dX7_keep_37 : decode cX7_keep 37 = .ok (.if_icmp .gt 24, 3) := by decide +kernel
theorem dX7_keep_40 : decode cX7_keep 40 = .ok (.aload_n 0, 1) := by decide +kernel
theorem dX7_keep_41 : decode cX7_keep 41 = .ok (.getfield 16, 3) := by decide +kernel
theorem dX7_keep_44 : decode cX7_keep 44 = .ok (.bipush 20, 2) := by decide +kernel
theorem dX7_keep_46 : decode cX7_keep 46 = .ok (.iload 6, 2) := by decide +kernel
theorem dX7_keep_48 : decode cX7_keep 48 = .ok (.imul, 1) := by decide +kernel
theorem dX7_keep_49 : decode cX7_keep 49 = .ok (.iload 7, 2) := by decide +kernel
theorem dX7_keep_51 : decode cX7_keep 51 = .ok (.iadd, 1) := by decide +kernel
theorem dX7_keep_52 : decode cX7_keep 52 = .ok (.iload 5, 2) := by decide +kernel
theorem dX7_keep_54 : decode cX7_keep 54 = .ok (.bastore, 1) := by decide +kernel
theorem dX7_keep_55 : decode cX7_keep 55 = .ok (.iinc 7 1, 3) := by decide +kernel
theorem dX7_keep_58 : decode cX7_keep 58 = .ok (.goto (-24), 3) := by decide +kernel
theorem dX7_keep_61 : decode cX7_keep 61 = .ok (.iinc 6 1, 3) := by decide +kernel
theorem dX7_keep_64 : decode cX7_keep 64 = .ok (.goto (-47), 3) := by decide +kernel
theorem dX7_keep_67 : decode cX7_keep 67 = .ok (.return_, 1) := by decide +kernel
theorem dX7_tool_0 : decode cX7_tool 0 = .ok (.aload_n 0, 1) := by decide +kernel
theorem dX7_tool_1 : decode cX7_tool 1 = .ok (.iload_n 1, 1) := by decide +kernel
theorem dX7_tool_2 : decode cX7_tool 2 = .ok (.iconst 0, 1) := by decide +kernel
theorem dX7_tool_3 : decode cX7_tool 3 = .ok (.iconst 3, 1) := by decide +kernel
theorem dX7_tool_4 : decode cX7_tool 4 = .ok (.invokestatic 60, 3) := by decide +kernel
theorem dX7_tool_7 : decode cX7_tool 7 = .ok (.ifCond .ne 7, 3) := by decide +kernel
theorem dX7_tool_10 : decode cX7_tool 10 = .ok (.iconst 1, 1) := by decide +kernel
theorem dX7_tool_11 : decode cX7_tool 11 = .ok (.goto 28, 3) := by decide +kernel
theorem dX7_tool_14 : decode cX7_tool 14 = .ok (.iload_n 2, 1) := by decide +kernel
theorem dX7_tool_15 : decode cX7_tool 15 = .ok (.iconst 0, 1) := by decide +kernel
theorem dX7_tool_16 : decode cX7_tool 16 = .ok (.bipush 6, 2) := by decide +kernel
theorem dX7_tool_18 : decode cX7_tool 18 = .ok (.invokestatic 60, 3) := by decide +kernel
theorem dX7_tool_21 : decode cX7_tool 21 = .ok (.ifCond .eq 17, 3) := by decide +kernel
theorem dX7_tool_24 : decode cX7_tool 24 = .ok (.iload_n 3, 1) := by decide +kernel
theorem dX7_tool_25 : decode cX7_tool 25 = .ok (.iconst 1, 1) := by decide +kernel
theorem dX7_tool_26 : decode cX7_tool 26 = .ok (.bipush 10, 2) := by decide +kernel
theorem dX7_tool_28 : decode cX7_tool 28 = .ok (.invokestatic 60, 3) := by decide +kernel
theorem dX7_tool_31 : decode cX7_tool 31 = .ok (.ifCond .eq 7, 3) := by decide +kernel
theorem dX7_tool_34 : decode cX7_tool 34 = .ok (.iconst 0, 1) := by decide +kernel
theorem dX7_tool_35 : decode cX7_tool 35 = .ok (.goto 4, 3) := by decide +kernel
theorem dX7_tool_38 : decode cX7_tool 38 = .ok (.iconst 2, 1) := by decide +kernel
theorem dX7_tool_39 : decode cX7_tool 39 = .ok (.putfield 57, 3) := by decide +kernel
theorem dX7_tool_42 : decode cX7_tool 42 = .ok (.aload_n 0, 1) := by decide +kernel
theorem dX7_tool_43 : decode cX7_tool 43 = .ok (.getfield 57, 3) := by decide +kernel
theorem dX7_tool_46 : decode cX7_tool 46 = .ok (.ifCond .ne 17, 3) := by decide +kernel
theorem dX7_tool_49 : decode cX7_tool 49 = .ok (.aload_n 0, 1) := by decide +kernel
theorem dX7_tool_50 : decode cX7_tool 50 = .ok (.getfield 20, 3) := by decide +kernel
theorem dX7_tool_53 : decode cX7_tool 53 = .ok (.iload_n 1, 1) := by decide +kernel
theorem dX7_tool_54 : decode cX7_tool 54 = .ok (.iload_n 2, 1) := by decide +kernel
theorem dX7_tool_55 : decode cX7_tool 55 = .ok (.iastore, 1) := by decide +kernel
theorem dX7_tool_56 : decode cX7_tool 56 = .ok (.aload_n 0, 1) := by decide +kernel
theorem dX7_tool_57 : decode cX7_tool 57 = .ok (.getfield 23, 3) := by decide +kernel
theorem dX7_tool_60 : decode cX7_tool 60 = .ok (.iload_n 1, 1) := by decide +kernel
theorem dX7_tool_61 : decode cX7_tool 61 = .ok (.iload_n 3, 1) := by decide +kernel
theorem dX7_tool_62 : decode cX7_tool 62 = .ok (.iastore, 1) := by decide +kernel
theorem dX7_tool_63 : decode cX7_tool 63 = .ok (.return_, 1) := by decide +kernel
theorem dX7_unit_0 : decode cX7_unit 0 = .ok (.aload_n 0, 1) := by decide +kernel
theorem dX7_unit_1 : decode cX7_unit 1 = .ok (.iconst 0, 1) := by decide +kernel
theorem dX7_unit_2 : decode cX7_unit 2 = .ok (.putfield 57, 3) := by decide +kernel
theorem dX7_unit_5 : decode cX7_unit 5 = .ok (.iload_n 1, 1) := by decide +kernel
theorem dX7_unit_6 : decode cX7_unit 6 = .ok (.bipush 32, 2) := by decide +kernel
theorem dX7_unit_8 : decode cX7_unit 8 = .ok (.bipush 126, 2) := by decide +kernel
theorem dX7_unit_10 : decode cX7_unit 10 = .ok (.invokestatic 60, 3) := by decide +kernel
theorem dX7_unit_13 : decode cX7_unit 13 = .ok (.ifCond .eq 17, 3) := by decide +kernel
theorem dX7_unit_16 : decode cX7_unit 16 = .ok (.aload_n 0, 1) := by decide +kernel
theorem dX7_unit_17 : decode cX7_unit 17 = .ok (.getfield 72, 3) := by decide +kernel
theorem dX7_unit_20 : decode cX7_unit 20 = .ok (.sipush 240, 3) := by decide +kernel
theorem dX7_unit_23 : decode cX7_unit 23 = .ok (.if_icmp .ge 7, 3) := by decide +kernel
theorem dX7_unit_26 : decode cX7_unit 26 = .ok (.iconst 1, 1) := by decide +kernel
theorem dX7_unit_27 : decode cX7_unit 27 = .ok (.goto 4, 3) := by decide +kernel
theorem dX7_unit_30 : decode cX7_unit 30 = .ok (.iconst 0, 1) := by decide +kernel
theorem dX7_unit_31 : decode cX7_unit 31 = .ok (.istore_n 2, 1) := by decide +kernel
theorem dX7_unit_32 : decode cX7_unit 32 = .ok (.iload_n 2, 1) := by decide +kernel
theorem dX7_unit_33 : decode cX7_unit 33 = .ok (.ifCond .eq 23, 3) := by decide +kernel
theorem dX7_unit_36 : decode cX7_unit 36 = .ok (.aload_n 0, 1) := by decide +kernel
theorem dX7_unit_37 : decode cX7_unit 37 = .ok (.getfield 26, 3) := by decide +kernel
theorem dX7_unit_40 : decode cX7_unit 40 = .ok (.aload_n 0, 1) := by decide +kernel
theorem dX7_unit_41 : decode cX7_unit 41 = .ok (.getfield 72, 3) := by decide +kernel
theorem dX7_unit_44 : decode cX7_unit 44 = .ok (.iload_n 1, 1) := by decide +kernel
theorem dX7_unit_45 : decode cX7_unit 45 = .ok (.iastore, 1) := by decide +kernel
theorem dX7_unit_46 : decode cX7_unit 46 = .ok (.aload_n 0, 1) := by decide +kernel
theorem dX7_unit_47 : decode cX7_unit 47 = .ok (.dup, 1) := by decide +kernel
theorem dX7_unit_48 : decode cX7_unit 48 = .ok (.getfield 72, 3) := by decide +kernel
theorem dX7_unit_51 : decode cX7_unit 51 = .ok (.iconst 1, 1) := by decide +kernel
theorem dX7_unit_52 : decode cX7_unit 52 = .ok (.iadd, 1) := by decide +kernel
theorem dX7_unit_53 : decode cX7_unit 53 = .ok (.putfield 72, 3) := by decide +kernel
theorem dX7_unit_56 : decode cX7_unit 56 = .ok (.iload_n 2, 1) := by decide +kernel
theorem dX7_unit_57 : decode cX7_unit 57 = .ok (.ireturn, 1) := by decide +kernel
theorem dX7_now_0 : decode cX7_now 0 = .ok (.aload_n 0, 1) := by decide +kernel
theorem dX7_now_1 : decode cX7_now 1 = .ok (.getfield 75, 3) := by decide +kernel
theorem dX7_now_4 : decode cX7_now 4 = .ok (.aload_n 0, 1) := by decide +kernel
theorem dX7_now_5 : decode cX7_now 5 = .ok (.getfield 72, 3) := by decide +kernel
theorem dX7_now_8 : decode cX7_now 8 = .ok (.if_icmp .ge 15, 3) := by decide +kernel
theorem dX7_now_11 : decode cX7_now 11 = .ok (.aload_n 0, 1) := by decide +kernel
theorem dX7_now_12 : decode cX7_now 12 = .ok (.getfield 26, 3) := by decide +kernel
theorem dX7_now_15 : decode cX7_now 15 = .ok (.aload_n 0, 1) := by decide +kernel
theorem dX7_now_16 : decode cX7_now 16 = .ok (.getfield 75, 3) := by decide +kernel
theorem dX7_now_19 : decode cX7_now 19 = .ok (.iaload, 1) := by decide +kernel
theorem dX7_now_20 : decode cX7_now 20 = .ok (.goto 4, 3) := by decide +kernel
theorem dX7_now_23 : decode cX7_now 23 = .ok (.iconst (-1), 1) := by decide +kernel
theorem dX7_now_24 : decode cX7_now 24 = .ok (.ireturn, 1) := by decide +kernel
theorem dX7_must_0 : decode cX7_must 0 = .ok (.aload_n 0, 1) := by decide +kernel
theorem dX7_must_1 : decode cX7_must 1 = .ok (.getfield 78, 3) := by decide +kernel
theorem dX7_must_4 : decode cX7_must 4 = .ok (.iconst (-1), 1) := by decide +kernel
theorem dX7_must_5 : decode cX7_must 5 = .ok (.if_icmp .ne 15, 3) := by decide +kernel
theorem dX7_must_8 : decode cX7_must 8 = .ok (.iload_n 1, 1) := by decide +kernel
theorem dX7_must_9 : decode cX7_must 9 = .ok (.ifCond .ne 11, 3) := by decide +kernel
theorem dX7_must_12 : decode cX7_must 12 = .ok (.aload_n 0, 1) := by decide +kernel
theorem dX7_must_13 : decode cX7_must 13 = .ok (.aload_n 0, 1) := by decide +kernel
theorem dX7_must_14 : decode cX7_must 14 = .ok (.getfield 75, 3) := by decide +kernel
theorem dX7_must_17 : decode cX7_must 17 = .ok (.putfield 78, 3) := by decide +kernel
theorem dX7_must_20 : decode cX7_must 20 = .ok (.aload_n 0, 1) := by decide +kernel
theorem dX7_must_21 : decode cX7_must 21 = .ok (.getfield 78, 3) := by decide +kernel
theorem dX7_must_24 : decode cX7_must 24 = .ok (.iconst (-1), 1) := by decide +kernel
theorem dX7_must_25 : decode cX7_must 25 = .ok (.if_icmp .ne 13, 3) := by decide +kernel
theorem dX7_must_28 : decode cX7_must 28 = .ok (.aload_n 0, 1) := by decide +kernel
theorem dX7_must_29 : decode cX7_must 29 = .ok (.dup, 1) := by decide +kernel
theorem dX7_must_30 : decode cX7_must 30 = .ok (.getfield 75, 3) := by decide +kernel
theorem dX7_must_33 : decode cX7_must 33 = .ok (.iconst 1, 1) := by decide +kernel
theorem dX7_must_34 : decode cX7_must 34 = .ok (.iadd, 1) := by decide +kernel
theorem dX7_must_35 : decode cX7_must 35 = .ok (.putfield 75, 3) := by decide +kernel
theorem dX7_must_38 : decode cX7_must 38 = .ok (.return_, 1) := by decide +kernel
theorem dX7_spaces_0 : decode cX7_spaces 0 = .ok (.aload_n 0, 1) := by decide +kernel
theorem dX7_spaces_1 : decode cX7_spaces 1 = .ok (.getfield 78, 3) := by decide +kernel
theorem dX7_spaces_4 : decode cX7_spaces 4 = .ok (.iconst (-1), 1) := by decide +kernel
theorem dX7_spaces_5 : decode cX7_spaces 5 = .ok (.if_icmp .ne 25, 3) := by decide +kernel
theorem dX7_spaces_8 : decode cX7_spaces 8 = .ok (.aload_n 0, 1) := by decide +kernel
theorem dX7_spaces_9 : decode cX7_spaces 9 = .ok (.invokevirtual 81, 3) := by decide +kernel
theorem dX7_spaces_12 : decode cX7_spaces 12 = .ok (.bipush 32, 2) := by decide +kernel
theorem dX7_spaces_14 : decode cX7_spaces 14 = .ok (.if_icmp .ne 16, 3) := by decide +kernel
theorem dX7_spaces_17 : decode cX7_spaces 17 = .ok (.aload_n 0, 1) := by decide +kernel
theorem dX7_spaces_18 : decode cX7_spaces 18 = .ok (.dup, 1) := by decide +kernel
theorem dX7_spaces_19 : decode cX7_spaces 19 = .ok (.getfield 75, 3) := by decide +kernel
theorem dX7_spaces_22 : decode cX7_spaces 22 = .ok (.iconst 1, 1) := by decide +kernel
theorem dX7_spaces_23 : decode cX7_spaces 23 = .ok (.iadd, 1) := by decide +kernel
theorem dX7_spaces_24 : decode cX7_spaces 24 = .ok (.putfield 75, 3) := by decide +kernel
theorem dX7_spaces_27 : decode cX7_spaces 27 = .ok (.goto (-27), 3) := by decide +kernel
theorem dX7_spaces_30 : decode cX7_spaces 30 = .ok (.return_, 1) := by decide +kernel
theorem dX7_digit_0 : decode cX7_digit 0 = .ok (.aload_n 0, 1) := by decide +kernel
theorem dX7_digit_1 : decode cX7_digit 1 = .ok (.invokevirtual 81, 3) := by decide +kernel
theorem dX7_digit_4 : decode cX7_digit 4 = .ok (.bipush 48, 2) := by decide +kernel
theorem dX7_digit_6 : decode cX7_digit 6 = .ok (.isub, 1) := by decide +kernel
theorem dX7_digit_7 : decode cX7_digit 7 = .ok (.istore_n 2, 1) := by decide +kernel
theorem dX7_digit_8 : decode cX7_digit 8 = .ok (.aload_n 0, 1) := by decide +kernel
theorem dX7_digit_9 : decode cX7_digit 9 = .ok (.iload_n 2, 1) := by decide +kernel
theorem dX7_digit_10 : decode cX7_digit 10 = .ok (.iconst 0, 1) := by decide +kernel
theorem dX7_digit_11 : decode cX7_digit 11 = .ok (.iload_n 1, 1) := by decide +kernel
theorem dX7_digit_12 : decode cX7_digit 12 = .ok (.invokestatic 60, 3) := by decide +kernel
theorem dX7_digit_15 : decode cX7_digit 15 = .ok (.invokevirtual 85, 3) := by decide +kernel
theorem dX7_digit_18 : decode cX7_digit 18 = .ok (.iload_n 2, 1) := by decide +kernel
theorem dX7_digit_19 : decode cX7_digit 19 = .ok (.ireturn, 1) := by decide +kernel
theorem dX7_number_0 : decode cX7_number 0 = .ok (.aload_n 0, 1) := by decide +kernel
theorem dX7_number_1 : decode cX7_number 1 = .ok (.getfield 75, 3) := by decide +kernel
theorem dX7_number_4 : decode cX7_number 4 = .ok (.istore_n 2, 1) := by decide +kernel
theorem dX7_number_5 : decode cX7_number 5 = .ok (.aload_n 0, 1) := by decide +kernel
theorem dX7_number_6 : decode cX7_number 6 = .ok (.bipush 9, 2) := by decide +kernel
theorem dX7_number_8 : decode cX7_number 8 = .ok (.invokevirtual 89, 3) := by decide +kernel
theorem dX7_number_11 : decode cX7_number 11 = .ok (.istore_n 3, 1) := by decide +kernel
theorem dX7_number_12 : decode cX7_number 12 = .ok (.iconst 1, 1) := by decide +kernel
theorem dX7_number_13 : decode cX7_number 13 = .ok (.istore 4, 2) := by decide +kernel
theorem dX7_number_15 : decode cX7_number 15 = .ok (.aload_n 0, 1) := by decide +kernel
theorem dX7_number_16 : decode cX7_number 16 = .ok (.getfield 78, 3) := by decide +kernel
theorem dX7_number_19 : decode cX7_number 19 = .ok (.iconst (-1), 1) := by decide +kernel
theorem dX7_number_20 : decode cX7_number 20 = .ok (.if_icmp .ne 41, 3) := by decide +kernel
theorem dX7_number_23 : decode cX7_number 23 = .ok (.iload 4, 2) := by decide +kernel
theorem dX7_number_25 : decode cX7_number 25 = .ok (.iconst 3, 1) := by decide +kernel
theorem dX7_number_26 : decode cX7_number 26 = .ok (.if_icmp .ge 35, 3) := by decide +kernel
theorem dX7_number_29 : decode cX7_number 29 = .ok (.aload_n 0, 1) := by decide +kernel
theorem dX7_number_30 : decode cX7_number 30 = .ok (.invokevirtual 81, 3) := by decide +kernel
theorem dX7_number_33 : decode cX7_number 33 = .ok (.bipush 48, 2) := by decide +kernel
theorem dX7_number_35 : decode cX7_number 35 = .ok (.bipush 57, 2) := by decide +kernel
theorem dX7_number_37 : decode cX7_number 37 = .ok (.invokestatic 60, 3) := by decide +kernel
theorem dX7_number_40 : decode cX7_number 40 = .ok (.ifCond .eq 21, 3) := by decide +kernel
theorem dX7_number_43 : decode cX7_number 43 = .ok (.bipush 10, 2) := by decide +kernel
theorem dX7_number_45 : decode cX7_number 45 = .ok (.iload_n 3, 1) := by decide +kernel
theorem dX7_number_46 : decode cX7_number 46 = .ok (.imul, 1) := by decide +kernel
theorem dX7_number_47 : decode cX7_number 47 = .ok (.aload_n 0, 1) := by decide +kernel
theorem dX7_number_48 : decode cX7_number 48 = .ok (.bipush 9, 2) := by decide +kernel
theorem dX7_number_50 : decode cX7_number 50 = .ok (.invokevirtual 89, 3) := by decide +kernel
theorem dX7_number_53 : decode cX7_number 53 = .ok (.iadd, 1) := by decide +kernel
theorem dX7_number_54 : decode cX7_number 54 = .ok (.istore_n 3, 1) := by decide +kernel
theorem dX7_number_55 : decode cX7_number 55 = .ok (.iinc 4 1, 3) := by decide +kernel
theorem dX7_number_58 : decode cX7_number 58 = .ok (.goto (-43), 3) := by decide +kernel
theorem dX7_number_61 : decode cX7_number 61 = .ok (.aload_n 0, 1) := by decide +kernel
theorem dX7_number_62 : decode cX7_number 62 = .ok (.getfield 78, 3) := by decide +kernel
theorem dX7_number_65 : decode cX7_number 65 = .ok (.iconst (-1), 1) := by decide +kernel
theorem dX7_number_66 : decode cX7_number 66 = .ok (.if_icmp .ne 13, 3) := by decide +kernel
theorem dX7_number_69 : decode cX7_number 69 = .ok (.iload_n 3, 1) := by decide +kernel
theorem dX7_number_70 : decode cX7_number 70 = .ok (.iload_n 1, 1) := by decide +kernel
theorem dX7_number_71 : decode cX7_number 71 = .ok (.if_icmp .le 8, 3) := by decide +kernel
theorem dX7_number_74 : decode cX7_number 74 = .ok (.aload_n 0, 1) := by decide +kernel
theorem dX7_number_75 : decode cX7_number 75 = .ok (.iload_n 2, 1) := by decide +kernel
theorem dX7_number_76 : decode cX7_number 76 = .ok (.putfield 78, 3) := by decide +kernel
theorem dX7_number_79 : decode cX7_number 79 = .ok (.iload_n 3, 1) := by decide +kernel
theorem dX7_number_80 : decode cX7_number 80 = .ok (.ireturn, 1) := by decide +kernel
theorem dX7_statement_0 : decode cX7_statement 0 = .ok (.aload_n 0, 1) := by decide +kernel
theorem dX7_statement_1 : decode cX7_statement 1 = .ok (.invokevirtual 81, 3) := by decide +kernel
theorem dX7_statement_4 : decode cX7_statement 4 = .ok (.istore_n 2, 1) := by decide +kernel
theorem dX7_statement_5 : decode cX7_statement 5 = .ok (.aload_n 0, 1) := by decide +kernel
theorem dX7_statement_6 : decode cX7_statement 6 = .ok (.iload_n 2, 1) := by decide +kernel
theorem dX7_statement_7 : decode cX7_statement 7 = .ok (.bipush 84, 2) := by decide +kernel
theorem dX7_statement_9 : decode cX7_statement 9 = .ok (.if_icmp .eq 9, 3) := by decide +kernel
theorem dX7_statement_12 : decode cX7_statement 12 = .ok (.iload_n 2, 1) := by decide +kernel
theorem dX7_statement_13 : decode cX7_statement 13 = .ok (.bipush 71, 2) := by decide +kernel
theorem dX7_statement_15 : decode cX7_statement 15 = .ok (.if_icmp .ne 7, 3) := by decide +kernel
theorem dX7_statement_18 : decode cX7_statement 18 = .ok (.iconst 1, 1) := by decide +kernel
theorem dX7_statement_19 : decode cX7_statement 19 = .ok (.goto 4, 3) := by decide +kernel
theorem dX7_statement_22 : decode cX7_statement 22 = .ok (.iconst 0, 1) := by decide +kernel
theorem dX7_statement_23 : decode cX7_statement 23 = .ok (.invokevirtual 85, 3) := by decide +kernel
theorem dX7_statement_26 : decode cX7_statement 26 = .ok (.iconst 1, 1) := by decide +kernel
theorem dX7_statement_27 : decode cX7_statement 27 = .ok (.istore_n 3, 1) := by decide +kernel
theorem dX7_statement_28 : decode cX7_statement 28 = .ok (.iload_n 3, 1) := by decide +kernel
theorem dX7_statement_29 : decode cX7_statement 29 = .ok (.iconst 5, 1) := by decide +kernel
theorem dX7_statement_30 : decode cX7_statement 30 = .ok (.if_icmp .ge 20, 3) := by decide +kernel
theorem dX7_statement_33 : decode cX7_statement 33 = .ok (.aload_n 0, 1) := by decide +kernel
theorem dX7_statement_34 : decode cX7_statement 34 = .ok (.getfield 32, 3) := by decide +kernel
theorem dX7_statement_37 : decode cX7_statement 37 = .ok (.iconst 5, 1) := by decide +kernel
theorem dX7_statement_38 : decode cX7_statement 38 = .ok (.iload_n 1, 1) := by decide +kernel
theorem dX7_statement_39 : decode cX7_statement 39 = .ok (.imul, 1) := by decide +kernel
theorem dX7_statement_40 : decode cX7_statement 40 = .ok (.iload_n 3, 1) := by decide +kernel
theorem dX7_statement_41 : decode cX7_statement 41 = .ok (.iadd, 1) := by decide +kernel
theorem dX7_statement_42 : decode cX7_statement 42 = .ok (.iconst (-1), 1) := by decide +kernel
theorem dX7_statement_43 : decode cX7_statement 43 = .ok (.iastore, 1) := by decide +kernel
theorem dX7_statement_44 : decode cX7_statement 44 = .ok (.iinc 3 1, 3) := by decide +kernel
theorem dX7_statement_47 : decode cX7_statement 47 = .ok (.goto (-19), 3) := by decide +kernel
theorem dX7_statement_50 : decode cX7_statement 50 = .ok (.iload_n 2, 1) := by decide +kernel
theorem dX7_statement_51 : decode cX7_statement 51 = .ok (.bipush 84, 2) := by decide +kernel
theorem dX7_statement_53 : decode cX7_statement 53 = .ok (.if_icmp .ne 34, 3) := by decide +kernel
theorem dX7_statement_56 : decode cX7_statement 56 = .ok (.aload_n 0, 1) := by decide +kernel
theorem dX7_statement_57 : decode cX7_statement 57 = .ok (.getfield 32, 3) := by decide +kernel
theorem dX7_statement_60 : decode cX7_statement 60 = .ok (.iconst 5, 1) := by decide +kernel
theorem dX7_statement_61 : decode cX7_statement 61 = .ok (.iload_n 1, 1) := by decide +kernel
theorem dX7_statement_62 : decode cX7_statement 62 = .ok (.imul, 1) := by decide +kernel
theorem dX7_statement_63 : decode cX7_statement 63 = .ok (.iconst 2, 1) := by decide +kernel
theorem dX7_statement_64 : decode cX7_statement 64 = .ok (.iastore, 1) := by decide +kernel
theorem dX7_statement_65 : decode cX7_statement 65 = .ok (.aload_n 0, 1) := by decide +kernel
theorem dX7_statement_66 : decode cX7_statement 66 = .ok (.getfield 32, 3) := by decide +kernel
theorem dX7_statement_69 : decode cX7_statement 69 = .ok (.iconst 5, 1) := by decide +kernel
theorem dX7_statement_70 : decode cX7_statement 70 = .ok (.iload_n 1, 1) := by decide +kernel
theorem dX7_statement_71 : decode cX7_statement 71 = .ok (.imul, 1) := by decide +kernel
theorem dX7_statement_72 : decode cX7_statement 72 = .ok (.iconst 4, 1) := by decide +kernel
theorem dX7_statement_73 : decode cX7_statement 73 = .ok (.iadd, 1) := by decide +kernel
theorem dX7_statement_74 : decode cX7_statement 74 = .ok (.aload_n 0, 1) := by decide +kernel
theorem dX7_statement_75 : decode cX7_statement 75 = .ok (.iconst 3, 1) := by decide +kernel
theorem dX7_statement_76 : decode cX7_statement 76 = .ok (.invokevirtual 89, 3) := by decide +kernel
theorem dX7_statement_79 : decode cX7_statement 79 = .ok (.iastore, 1) := by decide +kernel
theorem dX7_statement_80 : decode cX7_statement 80 = .ok (.aload_n 0, 1) := by decide +kernel
theorem dX7_statement_81 : decode cX7_statement 81 = .ok (.invokevirtual 93, 3) := by decide +kernel
theorem dX7_statement_84 : decode cX7_statement 84 = .ok (.goto 122, 3) := by decide +kernel
theorem dX7_statement_87 : decode cX7_statement 87 = .ok (.aload_n 0, 1) := by decide +kernel
theorem dX7_statement_88 : decode cX7_statement 88 = .ok (.getfield 32, 3) := by decide +kernel
theorem dX7_statement_91 : decode cX7_statement 91 = .ok (.iconst 5, 1) := by decide +kernel
theorem dX7_statement_92 : decode cX7_statement 92 = .ok (.iload_n 1, 1) := by decide +kernel
theorem dX7_statement_93 : decode cX7_statement 93 = .ok (.imul, 1) := by decide +kernel
theorem dX7_statement_94 : decode cX7_statement 94 = .ok (.aload_n 0, 1) := by decide +kernel
theorem dX7_statement_95 : decode cX7_statement 95 = .ok (.iconst 1, 1) := by decide +kernel
theorem dX7_statement_96 : decode cX7_statement 96 = .ok (.invokevirtual 89, 3) := by decide +kernel
theorem dX7_statement_99 : decode cX7_statement 99 = .ok (.iastore, 1) := by decide +kernel
theorem dX7_statement_100 : decode cX7_statement 100 = .ok (.aload_n 0, 1) := by decide +kernel
theorem dX7_statement_101 : decode cX7_statement 101 = .ok (.invokevirtual 93, 3) := by decide +kernel
theorem dX7_statement_104 : decode cX7_statement 104 = .ok (.iconst (-1), 1) := by decide +kernel
theorem dX7_statement_105 : decode cX7_statement 105 = .ok (.istore_n 3, 1) := by decide +kernel
theorem dX7_statement_106 : decode cX7_statement 106 = .ok (.aload_n 0, 1) := by decide +kernel
theorem dX7_statement_107 : decode cX7_statement 107 = .ok (.getfield 78, 3) := by decide +kernel
theorem dX7_statement_110 : decode cX7_statement 110 = .ok (.iconst (-1), 1) := by decide +kernel
theorem dX7_statement_111 : decode cX7_statement 111 = .ok (.if_icmp .ne 95, 3) := by decide +kernel
theorem dX7_statement_114 : decode cX7_statement 114 = .ok (.iload_n 3, 1) := by decide +kernel
theorem dX7_statement_115 : decode cX7_statement 115 = .ok (.iconst (-1), 1) := by decide +kernel
theorem dX7_statement_116 : decode cX7_statement 116 = .ok (.if_icmp .eq 12, 3) := by decide +kernel
theorem dX7_statement_119 : decode cX7_statement 119 = .ok (.aload_n 0, 1) := by decide +kernel
theorem dX7_statement_120 : decode cX7_statement 120 = .ok (.invokevirtual 81, 3) := by decide +kernel
theorem dX7_statement_123 : decode cX7_statement 123 = .ok (.bipush 59, 2) := by decide +kernel
theorem dX7_statement_125 : decode cX7_statement 125 = .ok (.if_icmp .eq 81, 3) := by decide +kernel
theorem dX7_statement_128 : decode cX7_statement 128 = .ok (.aload_n 0, 1) := by decide +kernel
theorem dX7_statement_129 : decode cX7_statement 129 = .ok (.invokevirtual 81, 3) := by decide +kernel
theorem dX7_statement_132 : decode cX7_statement 132 = .ok (.bipush 88, 2) := by decide +kernel
theorem dX7_statement_134 : decode cX7_statement 134 = .ok (.isub, 1) := by decide +kernel
theorem dX7_statement_135 : decode cX7_statement 135 = .ok (.istore 4, 2) := by decide +kernel
theorem dX7_statement_137 : decode cX7_statement 137 = .ok (.aload_n 0, 1) := by decide +kernel
theorem dX7_statement_138 : decode cX7_statement 138 = .ok (.iload 4, 2) := by decide +kernel
theorem dX7_statement_140 : decode cX7_statement 140 = .ok (.iload_n 3, 1) := by decide +kernel
theorem dX7_statement_141 : decode cX7_statement 141 = .ok (.iconst 1, 1) := by decide +kernel
theorem dX7_statement_142 : decode cX7_statement 142 = .ok (.iadd, 1) := by decide +kernel
theorem dX7_statement_143 : decode cX7_statement 143 = .ok (.iconst 2, 1) := by decide +kernel
theorem dX7_statement_144 : decode cX7_statement 144 = .ok (.invokestatic 60, 3) := by decide +kernel
theorem dX7_statement_147 : decode cX7_statement 147 = .ok (.invokevirtual 85, 3) := by decide +kernel
theorem dX7_statement_150 : decode cX7_statement 150 = .ok (.aload_n 0, 1) := by decide +kernel
theorem dX7_statement_151 : decode cX7_statement 151 = .ok (.iload 4, 2) := by decide +kernel
theorem dX7_statement_153 : decode cX7_statement 153 = .ok (.iconst 2, 1) := by decide +kernel
theorem dX7_statement_154 : decode cX7_statement 154 = .ok (.if_icmp .ne 8, 3) := by decide +kernel
theorem dX7_statement_157 : decode cX7_statement 157 = .ok (.bipush 100, 2) := by decide +kernel
theorem dX7_statement_159 : decode cX7_statement 159 = .ok (.goto 9, 3) := by decide +kernel
theorem dX7_statement_162 : decode cX7_statement 162 = .ok (.aload_n 0, 1) := by decide +kernel
theorem dX7_statement_163 : decode cX7_statement 163 = .ok (.getfield 53, 3) := by decide +kernel
theorem dX7_statement_166 : decode cX7_statement 166 = .ok (.iconst 1, 1) := by decide +kernel
theorem dX7_statement_167 : decode cX7_statement 167 = .ok (.isub, 1) := by decide +kernel
theorem dX7_statement_168 : decode cX7_statement 168 = .ok (.invokevirtual 96, 3) := by decide +kernel
theorem dX7_statement_171 : decode cX7_statement 171 = .ok (.istore 5, 2) := by decide +kernel
theorem dX7_statement_173 : decode cX7_statement 173 = .ok (.aload_n 0, 1) := by decide +kernel
theorem dX7_statement_174 : decode cX7_statement 174 = .ok (.getfield 78, 3) := by decide +kernel
theorem dX7_statement_177 : decode cX7_statement 177 = .ok (.iconst (-1), 1) := by decide +kernel
theorem dX7_statement_178 : decode cX7_statement 178 = .ok (.if_icmp .ne 21, 3) := by decide +kernel
theorem dX7_statement_181 : decode cX7_statement 181 = .ok (.aload_n 0, 1) := by decide +kernel
theorem dX7_statement_182 : decode cX7_statement 182 = .ok (.getfield 32, 3) := by decide +kernel
theorem dX7_statement_185 : decode cX7_statement 185 = .ok (.iconst 5, 1) := by decide +kernel
theorem dX7_statement_186 : decode cX7_statement 186 = .ok (.iload_n 1, 1) := by decide +kernel
theorem dX7_statement_187 : decode cX7_statement 187 = .ok (.imul, 1) := by decide +kernel
theorem dX7_statement_188 : decode cX7_statement 188 = .ok (.iconst 1, 1) := by decide +kernel
theorem dX7_statement_189 : decode cX7_statement 189 = .ok (.iadd, 1) := by decide +kernel
theorem dX7_statement_190 : decode cX7_statement 190 = .ok (.iload 4, 2) := by decide +kernel
theorem dX7_statement_192 : decode cX7_statement 192 = .ok (.iadd, 1) := by decide +kernel
theorem dX7_statement_193 : decode cX7_statement 193 = .ok (.iload 5, 2) := by decide +kernel
theorem dX7_statement_195 : decode cX7_statement 195 = .ok (.iastore, 1) := by decide +kernel
theorem dX7_statement_196 : decode cX7_statement 196 = .ok (.iload 4, 2) := by decide +kernel
theorem dX7_statement_198 : decode cX7_statement 198 = .ok (.istore_n 3, 1) := by decide +kernel
theorem dX7_statement_199 : decode cX7_statement 199 = .ok (.aload_n 0, 1) := by decide +kernel
theorem dX7_statement_200 : decode cX7_statement 200 = .ok (.invokevirtual 93, 3) := by decide +kernel
theorem dX7_statement_203 : decode cX7_statement 203 = .ok (.goto (-97), 3) := by decide +kernel
theorem dX7_statement_206 : decode cX7_statement 206 = .ok (.aload_n 0, 1) := by decide +kernel
theorem dX7_statement_207 : decode cX7_statement 207 = .ok (.aload_n 0, 1) := by decide +kernel
theorem dX7_statement_208 : decode cX7_statement 208 = .ok (.invokevirtual 81, 3) := by decide +kernel
theorem dX7_statement_211 : decode cX7_statement 211 = .ok (.bipush 59, 2) := by decide +kernel
theorem dX7_statement_213 : decode cX7_statement 213 = .ok (.if_icmp .ne 7, 3) := by decide +kernel
theorem dX7_statement_216 : decode cX7_statement 216 = .ok (.iconst 1, 1) := by decide +kernel
theorem dX7_statement_217 : decode cX7_statement 217 = .ok (.goto 4, 3) := by decide +kernel
theorem dX7_statement_220 : decode cX7_statement 220 = .ok (.iconst 0, 1) := by decide +kernel
theorem dX7_statement_221 : decode cX7_statement 221 = .ok (.invokevirtual 85, 3) := by decide +kernel
theorem dX7_statement_224 : decode cX7_statement 224 = .ok (.return_, 1) := by decide +kernel
theorem dX7_read_0 : decode cX7_read 0 = .ok (.aload_n 0, 1) := by decide +kernel
theorem dX7_read_1 : decode cX7_read 1 = .ok (.iconst 0, 1) := by decide +kernel
theorem dX7_read_2 : decode cX7_read 2 = .ok (.putfield 57, 3) := by decide +kernel
theorem dX7_read_5 : decode cX7_read 5 = .ok (.aload_n 0, 1) := by decide +kernel
theorem dX7_read_6 : decode cX7_read 6 = .ok (.iconst 0, 1) := by decide +kernel
theorem dX7_read_7 : decode cX7_read 7 = .ok (.putfield 75, 3) := by decide +kernel
theorem dX7_read_10 : decode cX7_read 10 = .ok (.aload_n 0, 1) := by decide +kernel
theorem dX7_read_11 : decode cX7_read 11 = .ok (.iconst (-1), 1) := by decide +kernel
theorem dX7_read_12 : decode cX7_read 12 = .ok (.putfield 78, 3) := by decide +kernel
theorem dX7_read_15 : decode cX7_read 15 = .ok (.iconst 0, 1) := by decide +kernel
theorem dX7_read_16 : decode cX7_read 16 = .ok (.istore_n 1, 1) := by decide +kernel
theorem dX7_read_17 : decode cX7_read 17 = .ok (.aload_n 0, 1) := by decide +kernel
theorem dX7_read_18 : decode cX7_read 18 = .ok (.getfield 78, 3) := by decide +kernel
theorem dX7_read_21 : decode cX7_read 21 = .ok (.iconst (-1), 1) := by decide +kernel
theorem dX7_read_22 : decode cX7_read 22 = .ok (.if_icmp .ne 39, 3) := by decide +kernel
theorem dX7_read_25 : decode cX7_read 25 = .ok (.iload_n 1, 1) := by decide +kernel
theorem dX7_read_26 : decode cX7_read 26 = .ok (.ifCond .eq 14, 3) := by decide +kernel
theorem dX7_read_29 : decode cX7_read 29 = .ok (.aload_n 0, 1) := by decide +kernel
theorem dX7_read_30 : decode cX7_read 30 = .ok (.getfield 75, 3) := by decide +kernel
theorem dX7_read_33 : decode cX7_read 33 = .ok (.aload_n 0, 1) := by decide +kernel
theorem dX7_read_34 : decode cX7_read 34 = .ok (.getfield 72, 3) := by decide +kernel
theorem dX7_read_37 : decode cX7_read 37 = .ok (.if_icmp .ge 24, 3) := by decide +kernel
theorem dX7_read_40 : decode cX7_read 40 = .ok (.iload_n 1, 1) := by decide +kernel
theorem dX7_read_41 : decode cX7_read 41 = .ok (.bipush 32, 2) := by decide +kernel
theorem dX7_read_43 : decode cX7_read 43 = .ok (.if_icmp .ge 18, 3) := by decide +kernel
theorem dX7_read_46 : decode cX7_read 46 = .ok (.aload_n 0, 1) := by decide +kernel
theorem dX7_read_47 : decode cX7_read 47 = .ok (.invokevirtual 93, 3) := by decide +kernel
theorem dX7_read_50 : decode cX7_read 50 = .ok (.aload_n 0, 1) := by decide +kernel
theorem dX7_read_51 : decode cX7_read 51 = .ok (.iload_n 1, 1) := by decide +kernel
theorem dX7_read_52 : decode cX7_read 52 = .ok (.invokevirtual 99, 3) := by decide +kernel
theorem dX7_read_55 : decode cX7_read 55 = .ok (.iinc 1 1, 3) := by decide +kernel
theorem dX7_read_58 : decode cX7_read 58 = .ok (.goto (-41), 3) := by decide +kernel
theorem dX7_read_61 : decode cX7_read 61 = .ok (.aload_n 0, 1) := by decide +kernel
theorem dX7_read_62 : decode cX7_read 62 = .ok (.getfield 78, 3) := by decide +kernel
theorem dX7_read_65 : decode cX7_read 65 = .ok (.iconst (-1), 1) := by decide +kernel
theorem dX7_read_66 : decode cX7_read 66 = .ok (.if_icmp .ne 22, 3) := by decide +kernel
theorem dX7_read_69 : decode cX7_read 69 = .ok (.aload_n 0, 1) := by decide +kernel
theorem dX7_read_70 : decode cX7_read 70 = .ok (.getfield 75, 3) := by decide +kernel
theorem dX7_read_73 : decode cX7_read 73 = .ok (.aload_n 0, 1) := by decide +kernel
theorem dX7_read_74 : decode cX7_read 74 = .ok (.getfield 72, 3) := by decide +kernel
theorem dX7_read_77 : decode cX7_read 77 = .ok (.if_icmp .ge 11, 3) := by decide +kernel
theorem dX7_read_80 : decode cX7_read 80 = .ok (.aload_n 0, 1) := by decide +kernel
theorem dX7_read_81 : decode cX7_read 81 = .ok (.aload_n 0, 1) := by decide +kernel
theorem dX7_read_82 : decode cX7_read 82 = .ok (.getfield 75, 3) := by decide +kernel
theorem dX7_read_85 : decode cX7_read 85 = .ok (.putfield 78, 3) := by decide +kernel
theorem dX7_read_88 : decode cX7_read 88 = .ok (.aload_n 0, 1) := by decide +kernel
theorem dX7_read_89 : decode cX7_read 89 = .ok (.iconst 0, 1) := by decide +kernel
theorem dX7_read_90 : decode cX7_read 90 = .ok (.putfield 72, 3) := by decide +kernel
theorem dX7_read_93 : decode cX7_read 93 = .ok (.aload_n 0, 1) := by decide +kernel
theorem dX7_read_94 : decode cX7_read 94 = .ok (.getfield 78, 3) := by decide +kernel
theorem dX7_read_97 : decode cX7_read 97 = .ok (.iconst (-1), 1) := by decide +kernel
theorem dX7_read_98 : decode cX7_read 98 = .ok (.if_icmp .eq 10, 3) := by decide +kernel
theorem dX7_read_101 : decode cX7_read 101 = .ok (.iconst (-1), 1) := by decide +kernel
theorem dX7_read_102 : decode cX7_read 102 = .ok (.aload_n 0, 1) := by decide +kernel
theorem dX7_read_103 : decode cX7_read 103 = .ok (.getfield 78, 3) := by decide +kernel
theorem dX7_read_106 : decode cX7_read 106 = .ok (.isub, 1) := by decide +kernel
theorem dX7_read_107 : decode cX7_read 107 = .ok (.ireturn, 1) := by decide +kernel
theorem dX7_read_108 : decode cX7_read 108 = .ok (.iconst 0, 1) := by decide +kernel
theorem dX7_read_109 : decode cX7_read 109 = .ok (.istore_n 2, 1) := by decide +kernel
theorem dX7_read_110 : decode cX7_read 110 = .ok (.iload_n 2, 1) := by decide +kernel
theorem dX7_read_111 : decode cX7_read 111 = .ok (.sipush 160, 3) := by decide +kernel
theorem dX7_read_114 : decode cX7_read 114 = .ok (.if_icmp .ge 21, 3) := by decide +kernel
theorem dX7_read_117 : decode cX7_read 117 = .ok (.aload_n 0, 1) := by decide +kernel
theorem dX7_read_118 : decode cX7_read 118 = .ok (.getfield 29, 3) := by decide +kernel
theorem dX7_read_121 : decode cX7_read 121 = .ok (.iload_n 2, 1) := by decide +kernel
theorem dX7_read_122 : decode cX7_read 122 = .ok (.aload_n 0, 1) := by decide +kernel
theorem dX7_read_123 : decode cX7_read 123 = .ok (.getfield 32, 3) := by decide +kernel
theorem dX7_read_126 : decode cX7_read 126 = .ok (.iload_n 2, 1) := by decide +kernel
theorem dX7_read_127 : decode cX7_read 127 = .ok (.iaload, 1) := by decide +kernel
theorem dX7_read_128 : decode cX7_read 128 = .ok (.iastore, 1) := by decide +kernel
theorem dX7_read_129 : decode cX7_read 129 = .ok (.iinc 2 1, 3) := by decide +kernel
theorem dX7_read_132 : decode cX7_read 132 = .ok (.goto (-22), 3) := by decide +kernel
theorem dX7_read_135 : decode cX7_read 135 = .ok (.aload_n 0, 1) := by decide +kernel
theorem dX7_read_136 : decode cX7_read 136 = .ok (.iload_n 1, 1) := by decide +kernel
theorem dX7_read_137 : decode cX7_read 137 = .ok (.putfield 103, 3) := by decide +kernel
theorem dX7_read_140 : decode cX7_read 140 = .ok (.aload_n 0, 1) := by decide +kernel
theorem dX7_read_141 : decode cX7_read 141 = .ok (.iconst 1, 1) := by decide +kernel
theorem dX7_read_142 : decode cX7_read 142 = .ok (.putfield 106, 3) := by decide +kernel
theorem dX7_read_145 : decode cX7_read 145 = .ok (.iload_n 1, 1) := by decide +kernel
theorem dX7_read_146 : decode cX7_read 146 = .ok (.ireturn, 1) := by decide +kernel
