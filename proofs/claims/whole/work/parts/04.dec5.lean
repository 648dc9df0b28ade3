theorem dX7_isNear_0 : decode cX7_isNear 0 = .ok (.iload_n 0, 1) := by decide +kernel
theorem dX7_isNear_1 : decode cX7_isNear 1 = .ok (.iload_n 0, 1) := by decide +kernel
theorem dX7_isNear_2 : decode cX7_isNear 2 = .ok (.imul, 1) := by decide +kernel
theorem dX7_isNear_3 : decode cX7_isNear 3 = .ok (.iload_n 1, 1) := by decide +kernel
theorem dX7_isNear_4 : decode cX7_isNear 4 = .ok (.iload_n 1, 1) := by decide +kernel
theorem dX7_isNear_5 : decode cX7_isNear 5 = .ok (.imul, 1) := by decide +kernel
theorem dX7_isNear_6 : decode cX7_isNear 6 = .ok (.iadd, 1) := by decide +kernel
theorem dX7_isNear_7 : decode cX7_isNear 7 = .ok (.iload_n 2, 1) := by decide +kernel
theorem dX7_isNear_8 : decode cX7_isNear 8 = .ok (.iload_n 2, 1) := by decide +kernel
theorem dX7_isNear_9 : decode cX7_isNear 9 = .ok (.imul, 1) := by decide +kernel
theorem dX7_isNear_10 : decode cX7_isNear 10 = .ok (.if_icmp .gt 7, 3) := by decide +kernel
theorem dX7_isNear_13 : decode cX7_isNear 13 = .ok (.iconst 1, 1) := by decide +kernel
theorem dX7_isNear_14 : decode cX7_isNear 14 = .ok (.goto 4, 3) := by decide +kernel
theorem dX7_isNear_17 : decode cX7_isNear 17 = .ok (.iconst 0, 1) := by decide +kernel
theorem dX7_isNear_18 : decode cX7_isNear 18 = .ok (.ireturn, 1) := by decide +kernel
theorem dX7_isInDisc_0 : decode cX7_isInDisc 0 = .ok (.iload 4, 2) := by decide +kernel
theorem dX7_isInDisc_2 : decode cX7_isInDisc 2 = .ok (.bipush 20, 2) := by decide +kernel
theorem dX7_isInDisc_4 : decode cX7_isInDisc 4 = .ok (.irem, 1) := by decide +kernel
theorem dX7_isInDisc_5 : decode cX7_isInDisc 5 = .ok (.iload_n 2, 1) := by decide +kernel
theorem dX7_isInDisc_6 : decode cX7_isInDisc 6 = .ok (.isub, 1) := by decide +kernel
theorem dX7_isInDisc_7 : decode cX7_isInDisc 7 = .ok (.iload 4, 2) := by decide +kernel
theorem dX7_isInDisc_9 : decode cX7_isInDisc 9 = .ok (.bipush 20, 2) := by decide +kernel
theorem dX7_isInDisc_11 : decode cX7_isInDisc 11 = .ok (.idiv, 1) := by decide +kernel
theorem dX7_isInDisc_12 : decode cX7_isInDisc 12 = .ok (.iload_n 3, 1) := by decide +kernel
theorem dX7_isInDisc_13 : decode cX7_isInDisc 13 = .ok (.isub, 1) := by decide +kernel
theorem dX7_isInDisc_14 : decode cX7_isInDisc 14 = .ok (.aload_n 0, 1) := by decide +kernel
theorem dX7_isInDisc_15 : decode cX7_isInDisc 15 = .ok (.getfield 20, 3) := by decide +kernel
theorem dX7_isInDisc_18 : decode cX7_isInDisc 18 = .ok (.iload_n 1, 1) := by decide +kernel
theorem dX7_isInDisc_19 : decode cX7_isInDisc 19 = .ok (.iaload, 1) := by decide +kernel
theorem dX7_isInDisc_20 : decode cX7_isInDisc 20 = .ok (.invokestatic 110, 3) := by decide +kernel
theorem dX7_isInDisc_23 : decode cX7_isInDisc 23 = .ok (.ifCond .eq 24, 3) := by decide +kernel
theorem dX7_isInDisc_26 : decode cX7_isInDisc 26 = .ok (.aload_n 0, 1) := by decide +kernel
theorem dX7_isInDisc_27 : decode cX7_isInDisc 27 = .ok (.iload 4, 2) := by decide +kernel
theorem dX7_isInDisc_29 : decode cX7_isInDisc 29 = .ok (.bipush 20, 2) := by decide +kernel
theorem dX7_isInDisc_31 : decode cX7_isInDisc 31 = .ok (.irem, 1) := by decide +kernel
theorem dX7_isInDisc_32 : decode cX7_isInDisc 32 = .ok (.iload 4, 2) := by decide +kernel
theorem dX7_isInDisc_34 : decode cX7_isInDisc 34 = .ok (.bipush 20, 2) := by decide +kernel
theorem dX7_isInDisc_36 : decode cX7_isInDisc 36 = .ok (.idiv, 1) := by decide +kernel
theorem dX7_isInDisc_37 : decode cX7_isInDisc 37 = .ok (.invokevirtual 64, 3) := by decide +kernel
theorem dX7_isInDisc_40 : decode cX7_isInDisc 40 = .ok (.ifCond .eq 7, 3) := by decide +kernel
theorem dX7_isInDisc_43 : decode cX7_isInDisc 43 = .ok (.iconst 1, 1) := by decide +kernel
theorem dX7_isInDisc_44 : decode cX7_isInDisc 44 = .ok (.goto 4, 3) := by decide +kernel
theorem dX7_isInDisc_47 : decode cX7_isInDisc 47 = .ok (.iconst 0, 1) := by decide +kernel
theorem dX7_isInDisc_48 : decode cX7_isInDisc 48 = .ok (.ireturn, 1) := by decide +kernel
theorem dX7_floor_0 : decode cX7_floor 0 = .ok (.iload_n 0, 1) := by decide +kernel
theorem dX7_floor_1 : decode cX7_floor 1 = .ok (.iload_n 1, 1) := by decide +kernel
theorem dX7_floor_2 : decode cX7_floor 2 = .ok (.idiv, 1) := by decide +kernel
theorem dX7_floor_3 : decode cX7_floor 3 = .ok (.istore_n 2, 1) := by decide +kernel
theorem dX7_floor_4 : decode cX7_floor 4 = .ok (.iload_n 0, 1) := by decide +kernel
theorem dX7_floor_5 : decode cX7_floor 5 = .ok (.iload_n 1, 1) := by decide +kernel
theorem dX7_floor_6 : decode cX7_floor 6 = .ok (.irem, 1) := by decide +kernel
theorem dX7_floor_7 : decode cX7_floor 7 = .ok (.ifCond .ge 9, 3) := by decide +kernel
theorem dX7_floor_10 : decode cX7_floor 10 = .ok (.iload_n 2, 1) := by decide +kernel
theorem dX7_floor_11 : decode cX7_floor 11 = .ok (.iconst 1, 1) := by decide +kernel
theorem dX7_floor_12 : decode cX7_floor 12 = .ok (.isub, 1) := by decide +kernel
theorem dX7_floor_13 : decode cX7_floor 13 = .ok (.goto 4, 3) := by decide +kernel
theorem dX7_floor_16 : decode cX7_floor 16 = .ok (.iload_n 2, 1) := by decide +kernel
theorem dX7_floor_17 : decode cX7_floor 17 = .ok (.ireturn, 1) := by decide +kernel
theorem dX7_step_0 : decode cX7_step 0 = .ok (.iconst 0, 1) := by decide +kernel
theorem dX7_step_1 : decode cX7_step 1 = .ok (.istore 5, 2) := by decide +kernel
theorem dX7_step_3 : decode cX7_step 3 = .ok (.iconst 0, 1) := by decide +kernel
theorem dX7_step_4 : decode cX7_step 4 = .ok (.istore 6, 2) := by decide +kernel
theorem dX7_step_6 : decode cX7_step 6 = .ok (.iconst 0, 1) := by decide +kernel
theorem dX7_step_7 : decode cX7_step 7 = .ok (.istore 7, 2) := by decide +kernel
theorem dX7_step_9 : decode cX7_step 9 = .ok (.iload 7, 2) := by decide +kernel
theorem dX7_step_11 : decode cX7_step 11 = .ok (.sipush 400, 3) := by decide +kernel
theorem dX7_step_14 : decode cX7_step 14 = .ok (.if_icmp .ge 87, 3) := by decide +kernel
theorem dX7_step_17 : decode cX7_step 17 = .ok (.aload_n 0, 1) := by decide +kernel
theorem dX7_step_18 : decode cX7_step 18 = .ok (.aload_n 0, 1) := by decide +kernel
theorem dX7_step_19 : decode cX7_step 19 = .ok (.getfield 113, 3) := by decide +kernel
theorem dX7_step_22 : decode cX7_step 22 = .ok (.iload_n 2, 1) := by decide +kernel
theorem dX7_step_23 : decode cX7_step 23 = .ok (.iload_n 3, 1) := by decide +kernel
theorem dX7_step_24 : decode cX7_step 24 = .ok (.iload 7, 2) := by decide +kernel
theorem dX7_step_26 : decode cX7_step 26 = .ok (.invokevirtual 116, 3) := by decide +kernel
theorem dX7_step_29 : decode cX7_step 29 = .ok (.ifCond .eq 19, 3) := by decide +kernel
theorem dX7_step_32 : decode cX7_step 32 = .ok (.aload_n 0, 1) := by decide +kernel
theorem dX7_step_33 : decode cX7_step 33 = .ok (.getfield 7, 3) := by decide +kernel
theorem dX7_step_36 : decode cX7_step 36 = .ok (.iload 7, 2) := by decide +kernel
theorem dX7_step_38 : decode cX7_step 38 = .ok (.iaload, 1) := by decide +kernel
theorem dX7_step_39 : decode cX7_step 39 = .ok (.iload 4, 2) := by decide +kernel
theorem dX7_step_41 : decode cX7_step 41 = .ok (.if_icmp .le 7, 3) := by decide +kernel
theorem dX7_step_44 : decode cX7_step 44 = .ok (.iconst 1, 1) := by decide +kernel
theorem dX7_step_45 : decode cX7_step 45 = .ok (.goto 4, 3) := by decide +kernel
theorem dX7_step_48 : decode cX7_step 48 = .ok (.iconst 0, 1) := by decide +kernel
theorem dX7_step_49 : decode cX7_step 49 = .ok (.istore 8, 2) := by decide +kernel
theorem dX7_step_51 : decode cX7_step 51 = .ok (.iload 5, 2) := by decide +kernel
theorem dX7_step_53 : decode cX7_step 53 = .ok (.ifCond .ne 8, 3) := by decide +kernel
theorem dX7_step_56 : decode cX7_step 56 = .ok (.iload 8, 2) := by decide +kernel
theorem dX7_step_58 : decode cX7_step 58 = .ok (.ifCond .eq 7, 3) := by decide +kernel
theorem dX7_step_61 : decode cX7_step 61 = .ok (.iconst 1, 1) := by decide +kernel
theorem dX7_step_62 : decode cX7_step 62 = .ok (.goto 4, 3) := by decide +kernel
theorem dX7_step_65 : decode cX7_step 65 = .ok (.iconst 0, 1) := by decide +kernel
theorem dX7_step_66 : decode cX7_step 66 = .ok (.istore 5, 2) := by decide +kernel
theorem dX7_step_68 : decode cX7_step 68 = .ok (.iload 6, 2) := by decide +kernel
theorem dX7_step_70 : decode cX7_step 70 = .ok (.ifCond .ne 18, 3) := by decide +kernel
theorem dX7_step_73 : decode cX7_step 73 = .ok (.iload 8, 2) := by decide +kernel
theorem dX7_step_75 : decode cX7_step 75 = .ok (.ifCond .eq 17, 3) := by decide +kernel
theorem dX7_step_78 : decode cX7_step 78 = .ok (.aload_n 0, 1) := by decide +kernel
theorem dX7_step_79 : decode cX7_step 79 = .ok (.getfield 16, 3) := by decide +kernel
theorem dX7_step_82 : decode cX7_step 82 = .ok (.iload 7, 2) := by decide +kernel
theorem dX7_step_84 : decode cX7_step 84 = .ok (.baload, 1) := by decide +kernel
theorem dX7_step_85 : decode cX7_step 85 = .ok (.ifCond .eq 7, 3) := by decide +kernel
theorem dX7_step_88 : decode cX7_step 88 = .ok (.iconst 1, 1) := by decide +kernel
theorem dX7_step_89 : decode cX7_step 89 = .ok (.goto 4, 3) := by decide +kernel
theorem dX7_step_92 : decode cX7_step 92 = .ok (.iconst 0, 1) := by decide +kernel
theorem dX7_step_93 : decode cX7_step 93 = .ok (.istore 6, 2) := by decide +kernel
theorem dX7_step_95 : decode cX7_step 95 = .ok (.iinc 7 1, 3) := by decide +kernel
theorem dX7_step_98 : decode cX7_step 98 = .ok (.goto (-89), 3) := by decide +kernel
theorem dX7_step_101 : decode cX7_step 101 = .ok (.iload_n 1, 1) := by decide +kernel
theorem dX7_step_102 : decode cX7_step 102 = .ok (.ifCond .ne 8, 3) := by decide +kernel
theorem dX7_step_105 : decode cX7_step 105 = .ok (.iload 5, 2) := by decide +kernel
theorem dX7_step_107 : decode cX7_step 107 = .ok (.ifCond .ne 13, 3) := by decide +kernel
theorem dX7_step_110 : decode cX7_step 110 = .ok (.iload_n 1, 1) := by decide +kernel
theorem dX7_step_111 : decode cX7_step 111 = .ok (.iconst 1, 1) := by decide +kernel
theorem dX7_step_112 : decode cX7_step 112 = .ok (.if_icmp .ne 18, 3) := by decide +kernel
theorem dX7_step_115 : decode cX7_step 115 = .ok (.iload 6, 2) := by decide +kernel
theorem dX7_step_117 : decode cX7_step 117 = .ok (.ifCond .eq 13, 3) := by decide +kernel
theorem dX7_step_120 : decode cX7_step 120 = .ok (.iload_n 1, 1) := by decide +kernel
theorem dX7_step_121 : decode cX7_step 121 = .ok (.ifCond .ne 7, 3) := by decide +kernel
theorem dX7_step_124 : decode cX7_step 124 = .ok (.iconst 1, 1) := by decide +kernel
theorem dX7_step_125 : decode cX7_step 125 = .ok (.goto 4, 3) := by decide +kernel
theorem dX7_step_128 : decode cX7_step 128 = .ok (.iconst 2, 1) := by decide +kernel
theorem dX7_step_129 : decode cX7_step 129 = .ok (.ireturn, 1) := by decide +kernel
theorem dX7_step_130 : decode cX7_step 130 = .ok (.iconst 0, 1) := by decide +kernel
theorem dX7_step_131 : decode cX7_step 131 = .ok (.istore 7, 2) := by decide +kernel
theorem dX7_step_133 : decode cX7_step 133 = .ok (.iload 7, 2) := by decide +kernel
theorem dX7_step_135 : decode cX7_step 135 = .ok (.sipush 400, 3) := by decide +kernel
theorem dX7_step_138 : decode cX7_step 138 = .ok (.if_icmp .ge 55, 3) := by decide +kernel
theorem dX7_step_141 : decode cX7_step 141 = .ok (.aload_n 0, 1) := by decide +kernel
theorem dX7_step_142 : decode cX7_step 142 = .ok (.aload_n 0, 1) := by decide +kernel
theorem dX7_step_143 : decode cX7_step 143 = .ok (.getfield 113, 3) := by decide +kernel
theorem dX7_step_146 : decode cX7_step 146 = .ok (.iload_n 2, 1) := by decide +kernel
theorem dX7_step_147 : decode cX7_step 147 = .ok (.iload_n 3, 1) := by decide +kernel
theorem dX7_step_148 : decode cX7_step 148 = .ok (.iload 7, 2) := by decide +kernel
theorem dX7_step_150 : decode cX7_step 150 = .ok (.invokevirtual 116, 3) := by decide +kernel
theorem dX7_step_153 : decode cX7_step 153 = .ok (.ifCond .eq 34, 3) := by decide +kernel
theorem dX7_step_156 : decode cX7_step 156 = .ok (.aload_n 0, 1) := by decide +kernel
theorem dX7_step_157 : decode cX7_step 157 = .ok (.getfield 7, 3) := by decide +kernel
theorem dX7_step_160 : decode cX7_step 160 = .ok (.iload 7, 2) := by decide +kernel
theorem dX7_step_162 : decode cX7_step 162 = .ok (.iaload, 1) := by decide +kernel
theorem dX7_step_163 : decode cX7_step 163 = .ok (.iload 4, 2) := by decide +kernel
theorem dX7_step_165 : decode cX7_step 165 = .ok (.if_icmp .le 22, 3) := by decide +kernel
theorem dX7_step_168 : decode cX7_step 168 = .ok (.aload_n 0, 1) := by decide +kernel
theorem dX7_step_169 : decode cX7_step 169 = .ok (.getfield 7, 3) := by decide +kernel
theorem dX7_step_172 : decode cX7_step 172 = .ok (.iload 7, 2) := by decide +kernel
theorem dX7_step_174 : decode cX7_step 174 = .ok (.iload 4, 2) := by decide +kernel
theorem dX7_step_176 : decode cX7_step 176 = .ok (.iastore, 1) := by decide +kernel
theorem dX7_step_177 : decode cX7_step 177 = .ok (.aload_n 0, 1) := by decide +kernel
theorem dX7_step_178 : decode cX7_step 178 = .ok (.getfield 38, 3) := by decide +kernel
theorem dX7_step_181 : decode cX7_step 181 = .ok (.iconst 5, 1) := by decide +kernel
theorem dX7_step_182 : decode cX7_step 182 = .ok (.dup2, 1) := by decide +kernel
theorem dX7_step_183 : decode cX7_step 183 = .ok (.iaload, 1) := by decide +kernel
theorem dX7_step_184 : decode cX7_step 184 = .ok (.iconst 1, 1) := by decide +kernel
theorem dX7_step_185 : decode cX7_step 185 = .ok (.iadd, 1) := by decide +kernel
theorem dX7_step_186 : decode cX7_step 186 = .ok (.iastore, 1) := by decide +kernel
theorem dX7_step_187 : decode cX7_step 187 = .ok (.iinc 7 1, 3) := by decide +kernel
theorem dX7_step_190 : decode cX7_step 190 = .ok (.goto (-57), 3) := by decide +kernel
theorem dX7_step_193 : decode cX7_step 193 = .ok (.aload_n 0, 1) := by decide +kernel
theorem dX7_step_194 : decode cX7_step 194 = .ok (.getfield 38, 3) := by decide +kernel
theorem dX7_step_197 : decode cX7_step 197 = .ok (.iconst 0, 1) := by decide +kernel
theorem dX7_step_198 : decode cX7_step 198 = .ok (.aload_n 0, 1) := by decide +kernel
theorem dX7_step_199 : decode cX7_step 199 = .ok (.getfield 38, 3) := by decide +kernel
theorem dX7_step_202 : decode cX7_step 202 = .ok (.iconst 0, 1) := by decide +kernel
theorem dX7_step_203 : decode cX7_step 203 = .ok (.iaload, 1) := by decide +kernel
theorem dX7_step_204 : decode cX7_step 204 = .ok (.iload_n 1, 1) := by decide +kernel
theorem dX7_step_205 : decode cX7_step 205 = .ok (.ifCond .ne 7, 3) := by decide +kernel
theorem dX7_step_208 : decode cX7_step 208 = .ok (.iconst 1, 1) := by decide +kernel
theorem dX7_step_209 : decode cX7_step 209 = .ok (.goto 12, 3) := by decide +kernel
theorem dX7_step_212 : decode cX7_step 212 = .ok (.aload_n 0, 1) := by decide +kernel
theorem dX7_step_213 : decode cX7_step 213 = .ok (.getfield 23, 3) := by decide +kernel
theorem dX7_step_216 : decode cX7_step 216 = .ok (.aload_n 0, 1) := by decide +kernel
theorem dX7_step_217 : decode cX7_step 217 = .ok (.getfield 113, 3) := by decide +kernel
theorem dX7_step_220 : decode cX7_step 220 = .ok (.iaload, 1) := by decide +kernel
theorem dX7_step_221 : decode cX7_step 221 = .ok (.iadd, 1) := by decide +kernel
theorem dX7_step_222 : decode cX7_step 222 = .ok (.iastore, 1) := by decide +kernel
theorem dX7_step_223 : decode cX7_step 223 = .ok (.iconst 0, 1) := by decide +kernel
theorem dX7_step_224 : decode cX7_step 224 = .ok (.ireturn, 1) := by decide +kernel
theorem dX7_go_0 : decode cX7_go 0 = .ok (.iconst 0, 1) := by decide +kernel
theorem dX7_go_1 : decode cX7_go 1 = .ok (.istore_n 2, 1) := by decide +kernel
theorem dX7_go_2 : decode cX7_go 2 = .ok (.iconst 0, 1) := by decide +kernel
theorem dX7_go_3 : decode cX7_go 3 = .ok (.istore_n 3, 1) := by decide +kernel
theorem dX7_go_4 : decode cX7_go 4 = .ok (.iload_n 3, 1) := by decide +kernel
theorem dX7_go_5 : decode cX7_go 5 = .ok (.iconst 3, 1) := by decide +kernel
theorem dX7_go_6 : decode cX7_go 6 = .ok (.if_icmp .ge 100, 3) := by decide +kernel
theorem dX7_go_9 : decode cX7_go 9 = .ok (.aload_n 0, 1) := by decide +kernel
theorem dX7_go_10 : decode cX7_go 10 = .ok (.getfield 47, 3) := by decide +kernel
theorem dX7_go_13 : decode cX7_go 13 = .ok (.iload_n 3, 1) := by decide +kernel
theorem dX7_go_14 : decode cX7_go 14 = .ok (.aload_n 0, 1) := by decide +kernel
theorem dX7_go_15 : decode cX7_go 15 = .ok (.getfield 35, 3) := by decide +kernel
theorem dX7_go_18 : decode cX7_go 18 = .ok (.iload_n 3, 1) := by decide +kernel
theorem dX7_go_19 : decode cX7_go 19 = .ok (.iaload, 1) := by decide +kernel
theorem dX7_go_20 : decode cX7_go 20 = .ok (.iastore, 1) := by decide +kernel
theorem dX7_go_21 : decode cX7_go 21 = .ok (.aload_n 0, 1) := by decide +kernel
theorem dX7_go_22 : decode cX7_go 22 = .ok (.getfield 29, 3) := by decide +kernel
theorem dX7_go_25 : decode cX7_go 25 = .ok (.iconst 5, 1) := by decide +kernel
theorem dX7_go_26 : decode cX7_go 26 = .ok (.iload_n 1, 1) := by decide +kernel
theorem dX7_go_27 : decode cX7_go 27 = .ok (.imul, 1) := by decide +kernel
theorem dX7_go_28 : decode cX7_go 28 = .ok (.iconst 1, 1) := by decide +kernel
theorem dX7_go_29 : decode cX7_go 29 = .ok (.iadd, 1) := by decide +kernel
theorem dX7_go_30 : decode cX7_go 30 = .ok (.iload_n 3, 1) := by decide +kernel
theorem dX7_go_31 : decode cX7_go 31 = .ok (.iadd, 1) := by decide +kernel
theorem dX7_go_32 : decode cX7_go 32 = .ok (.iaload, 1) := by decide +kernel
theorem dX7_go_33 : decode cX7_go 33 = .ok (.istore 4, 2) := by decide +kernel
theorem dX7_go_35 : decode cX7_go 35 = .ok (.aload_n 0, 1) := by decide +kernel
theorem dX7_go_36 : decode cX7_go 36 = .ok (.getfield 50, 3) := by decide +kernel
theorem dX7_go_39 : decode cX7_go 39 = .ok (.iload_n 3, 1) := by decide +kernel
theorem dX7_go_40 : decode cX7_go 40 = .ok (.iload 4, 2) := by decide +kernel
theorem dX7_go_42 : decode cX7_go 42 = .ok (.iconst (-1), 1) := by decide +kernel
theorem dX7_go_43 : decode cX7_go 43 = .ok (.if_icmp .ne 7, 3) := by decide +kernel
theorem dX7_go_46 : decode cX7_go 46 = .ok (.iconst 0, 1) := by decide +kernel
theorem dX7_go_47 : decode cX7_go 47 = .ok (.goto 12, 3) := by decide +kernel
theorem dX7_go_50 : decode cX7_go 50 = .ok (.iload 4, 2) := by decide +kernel
theorem dX7_go_52 : decode cX7_go 52 = .ok (.aload_n 0, 1) := by decide +kernel
theorem dX7_go_53 : decode cX7_go 53 = .ok (.getfield 35, 3) := by decide +kernel
theorem dX7_go_56 : decode cX7_go 56 = .ok (.iload_n 3, 1) := by decide +kernel
theorem dX7_go_57 : decode cX7_go 57 = .ok (.iaload, 1) := by decide +kernel
theorem dX7_go_58 : decode cX7_go 58 = .ok (.isub, 1) := by decide +kernel
theorem dX7_go_59 : decode cX7_go 59 = .ok (.iastore, 1) := by decide +kernel
theorem dX7_go_60 : decode cX7_go 60 = .ok (.aload_n 0, 1) := by decide +kernel
theorem dX7_go_61 : decode cX7_go 61 = .ok (.getfield 50, 3) := by decide +kernel
theorem dX7_go_64 : decode cX7_go 64 = .ok (.iload_n 3, 1) := by decide +kernel
theorem dX7_go_65 : decode cX7_go 65 = .ok (.iaload, 1) := by decide +kernel
theorem dX7_go_66 : decode cX7_go 66 = .ok (.ifCond .ge 13, 3) := by decide +kernel
theorem dX7_go_69 : decode cX7_go 69 = .ok (.aload_n 0, 1) := by decide +kernel
theorem dX7_go_70 : decode cX7_go 70 = .ok (.getfield 50, 3) := by decide +kernel
theorem dX7_go_73 : decode cX7_go 73 = .ok (.iload_n 3, 1) := by decide +kernel
theorem dX7_go_74 : decode cX7_go 74 = .ok (.iaload, 1) := by decide +kernel
theorem dX7_go_75 : decode cX7_go 75 = .ok (.ineg, 1) := by decide +kernel
theorem dX7_go_76 : decode cX7_go 76 = .ok (.goto 9, 3) := by decide +kernel
theorem dX7_go_79 : decode cX7_go 79 = .ok (.aload_n 0, 1) := by decide +kernel
theorem dX7_go_80 : decode cX7_go 80 = .ok (.getfield 50, 3) := by decide +kernel
theorem dX7_go_83 : decode cX7_go 83 = .ok (.iload_n 3, 1) := by decide +kernel
theorem dX7_go_84 : decode cX7_go 84 = .ok (.iaload, 1) := by decide +kernel
theorem dX7_go_85 : decode cX7_go 85 = .ok (.istore 5, 2) := by decide +kernel
theorem dX7_go_87 : decode cX7_go 87 = .ok (.iload 5, 2) := by decide +kernel
theorem dX7_go_89 : decode cX7_go 89 = .ok (.iload_n 2, 1) := by decide +kernel
theorem dX7_go_90 : decode cX7_go 90 = .ok (.if_icmp .le 8, 3) := by decide +kernel
theorem dX7_go_93 : decode cX7_go 93 = .ok (.iload 5, 2) := by decide +kernel
theorem dX7_go_95 : decode cX7_go 95 = .ok (.goto 4, 3) := by decide +kernel
theorem dX7_go_98 : decode cX7_go 98 = .ok (.iload_n 2, 1) := by decide +kernel
theorem dX7_go_99 : decode cX7_go 99 = .ok (.istore_n 2, 1) := by decide +kernel
theorem dX7_go_100 : decode cX7_go 100 = .ok (.iinc 3 1, 3) := by decide +kernel
theorem dX7_go_103 : decode cX7_go 103 = .ok (.goto (-99), 3) := by decide +kernel
theorem dX7_go_106 : decode cX7_go 106 = .ok (.iconst 0, 1) := by decide +kernel
theorem dX7_go_107 : decode cX7_go 107 = .ok (.istore_n 3, 1) := by decide +kernel
theorem dX7_go_108 : decode cX7_go 108 = .ok (.iconst 1, 1) := by decide +kernel
theorem dX7_go_109 : decode cX7_go 109 = .ok (.istore 4, 2) := by decide +kernel
theorem dX7_go_111 : decode cX7_go 111 = .ok (.iload 4, 2) := by decide +kernel
theorem dX7_go_113 : decode cX7_go 113 = .ok (.iload_n 2, 1) := by decide +kernel
theorem dX7_go_114 : decode cX7_go 114 = .ok (.if_icmp .gt 94, 3) := by decide +kernel
theorem dX7_go_117 : decode cX7_go 117 = .ok (.iload_n 3, 1) := by decide +kernel
theorem dX7_go_118 : decode cX7_go 118 = .ok (.ifCond .ne 90, 3) := by decide +kernel
theorem dX7_go_121 : decode cX7_go 121 = .ok (.iconst 0, 1) := by decide +kernel
theorem dX7_go_122 : decode cX7_go 122 = .ok (.istore 5, 2) := by decide +kernel
theorem dX7_go_124 : decode cX7_go 124 = .ok (.iload 5, 2) := by decide +kernel
theorem dX7_go_126 : decode cX7_go 126 = .ok (.iconst 3, 1) := by decide +kernel
theorem dX7_go_127 : decode cX7_go 127 = .ok (.if_icmp .ge 44, 3) := by decide +kernel
theorem dX7_go_130 : decode cX7_go 130 = .ok (.aload_n 0, 1) := by decide +kernel
theorem dX7_go_131 : decode cX7_go 131 = .ok (.getfield 35, 3) := by decide +kernel
theorem dX7_go_134 : decode cX7_go 134 = .ok (.iload 5, 2) := by decide +kernel
theorem dX7_go_136 : decode cX7_go 136 = .ok (.aload_n 0, 1) := by decide +kernel
theorem dX7_go_137 : decode cX7_go 137 = .ok (.getfield 47, 3) := by decide +kernel
theorem dX7_go_140 : decode cX7_go 140 = .ok (.iload 5, 2) := by decide +kernel
theorem dX7_go_142 : decode cX7_go 142 = .ok (.iaload, 1) := by decide +kernel
theorem dX7_go_143 : decode cX7_go 143 = .ok (.iconst 2, 1) := by decide +kernel
theorem dX7_go_144 : decode cX7_go 144 = .ok (.aload_n 0, 1) := by decide +kernel
theorem dX7_go_145 : decode cX7_go 145 = .ok (.getfield 50, 3) := by decide +kernel
theorem dX7_go_148 : decode cX7_go 148 = .ok (.iload 5, 2) := by decide +kernel
theorem dX7_go_150 : decode cX7_go 150 = .ok (.iaload, 1) := by decide +kernel
theorem dX7_go_151 : decode cX7_go 151 = .ok (.imul, 1) := by decide +kernel
theorem dX7_go_152 : decode cX7_go 152 = .ok (.iload 4, 2) := by decide +kernel
theorem dX7_go_154 : decode cX7_go 154 = .ok (.imul, 1) := by decide +kernel
theorem dX7_go_155 : decode cX7_go 155 = .ok (.iload_n 2, 1) := by decide +kernel
theorem dX7_go_156 : decode cX7_go 156 = .ok (.iadd, 1) := by decide +kernel
theorem dX7_go_157 : decode cX7_go 157 = .ok (.iconst 2, 1) := by decide +kernel
theorem dX7_go_158 : decode cX7_go 158 = .ok (.iload_n 2, 1) := by decide +kernel
theorem dX7_go_159 : decode cX7_go 159 = .ok (.imul, 1) := by decide +kernel
theorem dX7_go_160 : decode cX7_go 160 = .ok (.invokestatic 120, 3) := by decide +kernel
theorem dX7_go_163 : decode cX7_go 163 = .ok (.iadd, 1) := by decide +kernel
theorem dX7_go_164 : decode cX7_go 164 = .ok (.iastore, 1) := by decide +kernel
theorem dX7_go_165 : decode cX7_go 165 = .ok (.iinc 5 1, 3) := by decide +kernel
theorem dX7_go_168 : decode cX7_go 168 = .ok (.goto (-44), 3) := by decide +kernel
theorem dX7_go_171 : decode cX7_go 171 = .ok (.aload_n 0, 1) := by decide +kernel
theorem dX7_go_172 : decode cX7_go 172 = .ok (.aload_n 0, 1) := by decide +kernel
theorem dX7_go_173 : decode cX7_go 173 = .ok (.getfield 29, 3) := by decide +kernel
theorem dX7_go_176 : decode cX7_go 176 = .ok (.iconst 5, 1) := by decide +kernel
theorem dX7_go_177 : decode cX7_go 177 = .ok (.iload_n 1, 1) := by decide +kernel
theorem dX7_go_178 : decode cX7_go 178 = .ok (.imul, 1) := by decide +kernel
theorem dX7_go_179 : decode cX7_go 179 = .ok (.iaload, 1) := by decide +kernel
theorem dX7_go_180 : decode cX7_go 180 = .ok (.aload_n 0, 1) := by decide +kernel
theorem dX7_go_181 : decode cX7_go 181 = .ok (.getfield 35, 3) := by decide +kernel
theorem dX7_go_184 : decode cX7_go 184 = .ok (.iconst 0, 1) := by decide +kernel
theorem dX7_go_185 : decode cX7_go 185 = .ok (.iaload, 1) := by decide +kernel
theorem dX7_go_186 : decode cX7_go 186 = .ok (.aload_n 0, 1) := by decide +kernel
theorem dX7_go_187 : decode cX7_go 187 = .ok (.getfield 35, 3) := by decide +kernel
theorem dX7_go_190 : decode cX7_go 190 = .ok (.iconst 1, 1) := by decide +kernel
theorem dX7_go_191 : decode cX7_go 191 = .ok (.iaload, 1) := by decide +kernel
theorem dX7_go_192 : decode cX7_go 192 = .ok (.aload_n 0, 1) := by decide +kernel
theorem dX7_go_193 : decode cX7_go 193 = .ok (.getfield 35, 3) := by decide +kernel
theorem dX7_go_196 : decode cX7_go 196 = .ok (.iconst 2, 1) := by decide +kernel
theorem dX7_go_197 : decode cX7_go 197 = .ok (.iaload, 1) := by decide +kernel
theorem dX7_go_198 : decode cX7_go 198 = .ok (.invokevirtual 124, 3) := by decide +kernel
theorem dX7_go_201 : decode cX7_go 201 = .ok (.istore_n 3, 1) := by decide +kernel
theorem dX7_go_202 : decode cX7_go 202 = .ok (.iinc 4 1, 3) := by decide +kernel
theorem dX7_go_205 : decode cX7_go 205 = .ok (.goto (-94), 3) := by decide +kernel
theorem dX7_go_208 : decode cX7_go 208 = .ok (.iload_n 3, 1) := by decide +kernel
theorem dX7_go_209 : decode cX7_go 209 = .ok (.ireturn, 1) := by decide +kernel
theorem dX7_run_0 : decode cX7_run 0 = .ok (.aload_n 0, 1) := by decide +kernel
theorem dX7_run_1 : decode cX7_run 1 = .ok (.aload_n 0, 1) := by decide +kernel
theorem dX7_run_2 : decode cX7_run 2 = .ok (.getfield 106, 3) := by decide +kernel
theorem dX7_run_5 : decode cX7_run 5 = .ok (.ifCond .eq 7, 3) := by decide +kernel
theorem dX7_run_8 : decode cX7_run 8 = .ok (.iconst 0, 1) := by decide +kernel
theorem dX7_run_9 : decode cX7_run 9 = .ok (.goto 4, 3) := by decide +kernel
theorem dX7_run_12 : decode cX7_run 12 = .ok (.iconst 1, 1) := by decide +kernel
theorem dX7_run_13 : decode cX7_run 13 = .ok (.putfield 57, 3) := by decide +kernel
theorem dX7_run_16 : decode cX7_run 16 = .ok (.aload_n 0, 1) := by decide +kernel
theorem dX7_run_17 : decode cX7_run 17 = .ok (.getfield 57, 3) := by decide +kernel
theorem dX7_run_20 : decode cX7_run 20 = .ok (.ifCond .le 5, 3) := by decide +kernel
theorem dX7_run_23 : decode cX7_run 23 = .ok (.iconst 0, 1) := by decide +kernel
theorem dX7_run_24 : decode cX7_run 24 = .ok (.ireturn, 1) := by decide +kernel
theorem dX7_run_25 : decode cX7_run 25 = .ok (.aload_n 0, 1) := by decide +kernel
theorem dX7_run_26 : decode cX7_run 26 = .ok (.iconst 1, 1) := by decide +kernel
theorem dX7_run_27 : decode cX7_run 27 = .ok (.putfield 128, 3) := by decide +kernel
theorem dX7_run_30 : decode cX7_run 30 = .ok (.aload_n 0, 1) := by decide +kernel
theorem dX7_run_31 : decode cX7_run 31 = .ok (.getfield 35, 3) := by decide +kernel
theorem dX7_run_34 : decode cX7_run 34 = .ok (.iconst 0, 1) := by decide +kernel
theorem dX7_run_35 : decode cX7_run 35 = .ok (.iconst 0, 1) := by decide +kernel
theorem dX7_run_36 : decode cX7_run 36 = .ok (.iastore, 1) := by decide +kernel
theorem dX7_run_37 : decode cX7_run 37 = .ok (.aload_n 0, 1) := by decide +kernel
theorem dX7_run_38 : decode cX7_run 38 = .ok (.getfield 35, 3) := by decide +kernel
theorem dX7_run_41 : decode cX7_run 41 = .ok (.iconst 1, 1) := by decide +kernel
theorem dX7_run_42 : decode cX7_run 42 = .ok (.iconst 0, 1) := by decide +kernel
theorem dX7_run_43 : decode cX7_run 43 = .ok (.iastore, 1) := by decide +kernel
theorem dX7_run_44 : decode cX7_run 44 = .ok (.aload_n 0, 1) := by decide +kernel
theorem dX7_run_45 : decode cX7_run 45 = .ok (.getfield 35, 3) := by decide +kernel
theorem dX7_run_48 : decode cX7_run 48 = .ok (.iconst 2, 1) := by decide +kernel
theorem dX7_run_49 : decode cX7_run 49 = .ok (.bipush 100, 2) := by decide +kernel
theorem dX7_run_51 : decode cX7_run 51 = .ok (.iastore, 1) := by decide +kernel
theorem dX7_run_52 : decode cX7_run 52 = .ok (.aload_n 0, 1) := by decide +kernel
theorem dX7_run_53 : decode cX7_run 53 = .ok (.iconst 0, 1) := by decide +kernel
theorem dX7_run_54 : decode cX7_run 54 = .ok (.putfield 113, 3) := by decide +kernel
theorem dX7_run_57 : decode cX7_run 57 = .ok (.aload_n 0, 1) := by decide +kernel
theorem dX7_run_58 : decode cX7_run 58 = .ok (.getfield 38, 3) := by decide +kernel
theorem dX7_run_61 : decode cX7_run 61 = .ok (.iconst 0, 1) := by decide +kernel
theorem dX7_run_62 : decode cX7_run 62 = .ok (.iconst 0, 1) := by decide +kernel
theorem dX7_run_63 : decode cX7_run 63 = .ok (.iastore, 1) := by decide +kernel
theorem dX7_run_64 : decode cX7_run 64 = .ok (.aload_n 0, 1) := by decide +kernel
theorem dX7_run_65 : decode cX7_run 65 = .ok (.getfield 38, 3) := by decide +kernel
theorem dX7_run_68 : decode cX7_run 68 = .ok (.iconst 5, 1) := by decide +kernel
theorem dX7_run_69 : decode cX7_run 69 = .ok (.iconst 0, 1) := by decide +kernel
theorem dX7_run_70 : decode cX7_run 70 = .ok (.iastore, 1) := by decide +kernel
theorem dX7_run_71 : decode cX7_run 71 = .ok (.iconst 0, 1) := by decide +kernel
theorem dX7_run_72 : decode cX7_run 72 = .ok (.istore_n 1, 1) := by decide +kernel
theorem dX7_run_73 : decode cX7_run 73 = .ok (.iconst 0, 1) := by decide +kernel
theorem dX7_run_74 : decode cX7_run 74 = .ok (.istore_n 2, 1) := by decide +kernel
theorem dX7_run_75 : decode cX7_run 75 = .ok (.iload_n 2, 1) := by decide +kernel
theorem dX7_run_76 : decode cX7_run 76 = .ok (.aload_n 0, 1) := by decide +kernel
theorem dX7_run_77 : decode cX7_run 77 = .ok (.getfield 103, 3) := by decide +kernel
theorem dX7_run_80 : decode cX7_run 80 = .ok (.if_icmp .ge 72, 3) := by decide +kernel
theorem dX7_run_83 : decode cX7_run 83 = .ok (.iload_n 1, 1) := by decide +kernel
theorem dX7_run_84 : decode cX7_run 84 = .ok (.ifCond .ne 68, 3) := by decide +kernel
theorem dX7_run_87 : decode cX7_run 87 = .ok (.aload_n 0, 1) := by decide +kernel
theorem dX7_run_88 : decode cX7_run 88 = .ok (.getfield 29, 3) := by decide +kernel
theorem dX7_run_91 : decode cX7_run 91 = .ok (.iconst 5, 1) := by decide +kernel
theorem dX7_run_92 : decode cX7_run 92 = .ok (.iload_n 2, 1) := by decide +kernel
theorem dX7_run_93 : decode cX7_run 93 = .ok (.imul, 1) := by decide +kernel
theorem dX7_run_94 : decode cX7_run 94 = .ok (.iaload, 1) := by decide +kernel
theorem dX7_run_95 : decode cX7_run 95 = .ok (.iconst 2, 1) := by decide +kernel
theorem dX7_run_96 : decode cX7_run 96 = .ok (.if_icmp .ne 35, 3) := by decide +kernel
theorem dX7_run_99 : decode cX7_run 99 = .ok (.aload_n 0, 1) := by decide +kernel
theorem dX7_run_100 : decode cX7_run 100 = .ok (.aload_n 0, 1) := by decide +kernel
theorem dX7_run_101 : decode cX7_run 101 = .ok (.getfield 29, 3) := by decide +kernel
theorem dX7_run_104 : decode cX7_run 104 = .ok (.iconst 5, 1) := by decide +kernel
theorem dX7_run_105 : decode cX7_run 105 = .ok (.iload_n 2, 1) := by decide +kernel
theorem dX7_run_106 : decode cX7_run 106 = .ok (.imul, 1) := by decide +kernel
theorem dX7_run_107 : decode cX7_run 107 = .ok (.iconst 4, 1) := by decide +kernel
theorem dX7_run_108 : decode cX7_run 108 = .ok (.iadd, 1) := by decide +kernel
theorem dX7_run_109 : decode cX7_run 109 = .ok (.iaload, 1) := by decide +kernel
theorem dX7_run_110 : decode cX7_run 110 = .ok (.putfield 113, 3) := by decide +kernel
theorem dX7_run_113 : decode cX7_run 113 = .ok (.aload_n 0, 1) := by decide +kernel
theorem dX7_run_114 : decode cX7_run 114 = .ok (.getfield 38, 3) := by decide +kernel
theorem dX7_run_117 : decode cX7_run 117 = .ok (.iconst 0, 1) := by decide +kernel
theorem dX7_run_118 : decode cX7_run 118 = .ok (.aload_n 0, 1) := by decide +kernel
theorem dX7_run_119 : decode cX7_run 119 = .ok (.getfield 38, 3) := by decide +kernel
theorem dX7_run_122 : decode cX7_run 122 = .ok (.iconst 0, 1) := by decide +kernel
theorem dX7_run_123 : decode cX7_run 123 = .ok (.iaload, 1) := by decide +kernel
theorem dX7_run_124 : decode cX7_run 124 = .ok (.bipush 10, 2) := by decide +kernel
theorem dX7_run_126 : decode cX7_run 126 = .ok (.iadd, 1) := by decide +kernel
theorem dX7_run_127 : decode cX7_run 127 = .ok (.iastore, 1) := by decide +kernel
theorem dX7_run_128 : decode cX7_run 128 = .ok (.goto 9, 3) := by decide +kernel
theorem dX7_run_131 : decode cX7_run 131 = .ok (.aload_n 0, 1) := by decide +kernel
theorem dX7_run_132 : decode cX7_run 132 = .ok (.iload_n 2, 1) := by decide +kernel
theorem dX7_run_133 : decode cX7_run 133 = .ok (.invokevirtual 131, 3) := by decide +kernel
theorem dX7_run_136 : decode cX7_run 136 = .ok (.istore_n 1, 1) := by decide +kernel
theorem dX7_run_137 : decode cX7_run 137 = .ok (.iload_n 1, 1) := by decide +kernel
theorem dX7_run_138 : decode cX7_run 138 = .ok (.ifCond .ne 9, 3) := by decide +kernel
theorem dX7_run_141 : decode cX7_run 141 = .ok (.iload_n 2, 1) := by decide +kernel
theorem dX7_run_142 : decode cX7_run 142 = .ok (.iconst 1, 1) := by decide +kernel
theorem dX7_run_143 : decode cX7_run 143 = .ok (.iadd, 1) := by decide +kernel
theorem dX7_run_144 : decode cX7_run 144 = .ok (.goto 4, 3) := by decide +kernel
theorem dX7_run_147 : decode cX7_run 147 = .ok (.iload_n 2, 1) := by decide +kernel
theorem dX7_run_148 : decode cX7_run 148 = .ok (.istore_n 2, 1) := by decide +kernel
theorem dX7_run_149 : decode cX7_run 149 = .ok (.goto (-74), 3) := by decide +kernel
theorem dX7_run_152 : decode cX7_run 152 = .ok (.aload_n 0, 1) := by decide +kernel
theorem dX7_run_153 : decode cX7_run 153 = .ok (.getfield 38, 3) := by decide +kernel
theorem dX7_run_156 : decode cX7_run 156 = .ok (.iconst 1, 1) := by decide +kernel
theorem dX7_run_157 : decode cX7_run 157 = .ok (.iload_n 2, 1) := by decide +kernel
theorem dX7_run_158 : decode cX7_run 158 = .ok (.iastore, 1) := by decide +kernel
theorem dX7_run_159 : decode cX7_run 159 = .ok (.aload_n 0, 1) := by decide +kernel
theorem dX7_run_160 : decode cX7_run 160 = .ok (.getfield 38, 3) := by decide +kernel
theorem dX7_run_163 : decode cX7_run 163 = .ok (.iconst 2, 1) := by decide +kernel
theorem dX7_run_164 : decode cX7_run 164 = .ok (.aload_n 0, 1) := by decide +kernel
theorem dX7_run_165 : decode cX7_run 165 = .ok (.getfield 35, 3) := by decide +kernel
theorem dX7_run_168 : decode cX7_run 168 = .ok (.iconst 0, 1) := by decide +kernel
theorem dX7_run_169 : decode cX7_run 169 = .ok (.iaload, 1) := by decide +kernel
theorem dX7_run_170 : decode cX7_run 170 = .ok (.iastore, 1) := by decide +kernel
theorem dX7_run_171 : decode cX7_run 171 = .ok (.aload_n 0, 1) := by decide +kernel
theorem dX7_run_172 : decode cX7_run 172 = .ok (.getfield 38, 3) := by decide +kernel
theorem dX7_run_175 : decode cX7_run 175 = .ok (.iconst 3, 1) := by decide +kernel
theorem dX7_run_176 : decode cX7_run 176 = .ok (.aload_n 0, 1) := by decide +kernel
theorem dX7_run_177 : decode cX7_run 177 = .ok (.getfield 35, 3) := by decide +kernel
theorem dX7_run_180 : decode cX7_run 180 = .ok (.iconst 1, 1) := by decide +kernel
theorem dX7_run_181 : decode cX7_run 181 = .ok (.iaload, 1) := by decide +kernel
theorem dX7_run_182 : decode cX7_run 182 = .ok (.iastore, 1) := by decide +kernel
theorem dX7_run_183 : decode cX7_run 183 = .ok (.aload_n 0, 1) := by decide +kernel
theorem dX7_run_184 : decode cX7_run 184 = .ok (.getfield 38, 3) := by decide +kernel
theorem dX7_run_187 : decode cX7_run 187 = .ok (.iconst 4, 1) := by decide +kernel
theorem dX7_run_188 : decode cX7_run 188 = .ok (.aload_n 0, 1) := by decide +kernel
theorem dX7_run_189 : decode cX7_run 189 = .ok (.getfield 35, 3) := by decide +kernel
theorem dX7_run_192 : decode cX7_run 192 = .ok (.iconst 2, 1) := by decide +kernel
theorem dX7_run_193 : decode cX7_run 193 = .ok (.iaload, 1) := by decide +kernel
theorem dX7_run_194 : decode cX7_run 194 = .ok (.iastore, 1) := by decide +kernel
theorem dX7_run_195 : decode cX7_run 195 = .ok (.iload_n 1, 1) := by decide +kernel
theorem dX7_run_196 : decode cX7_run 196 = .ok (.ireturn, 1) := by decide +kernel
theorem dX7_about_0 : decode cX7_about 0 = .ok (.aload_n 0, 1) := by decide +kernel
theorem dX7_about_1 : decode cX7_about 1 = .ok (.iload_n 1, 1) := by decide +kernel
theorem dX7_about_2 : decode cX7_about 2 = .ok (.iconst 0, 1) := by decide +kernel
theorem dX7_about_3 : decode cX7_about 3 = .ok (.iconst 5, 1) := by decide +kernel
theorem dX7_about_4 : decode cX7_about 4 = .ok (.invokestatic 60, 3) := by decide +kernel
theorem dX7_about_7 : decode cX7_about 7 = .ok (.ifCond .ne 7, 3) := by decide +kernel
theorem dX7_about_10 : decode cX7_about 10 = .ok (.iconst 1, 1) := by decide +kernel
theorem dX7_about_11 : decode cX7_about 11 = .ok (.goto 15, 3) := by decide +kernel
theorem dX7_about_14 : decode cX7_about 14 = .ok (.aload_n 0, 1) := by decide +kernel
theorem dX7_about_15 : decode cX7_about 15 = .ok (.getfield 128, 3) := by decide +kernel
theorem dX7_about_18 : decode cX7_about 18 = .ok (.ifCond .eq 7, 3) := by decide +kernel
theorem dX7_about_21 : decode cX7_about 21 = .ok (.iconst 0, 1) := by decide +kernel
theorem dX7_about_22 : decode cX7_about 22 = .ok (.goto 4, 3) := by decide +kernel
theorem dX7_about_25 : decode cX7_about 25 = .ok (.iconst 2, 1) := by decide +kernel
theorem dX7_about_26 : decode cX7_about 26 = .ok (.putfield 57, 3) := by decide +kernel
theorem dX7_about_29 : decode cX7_about 29 = .ok (.aload_n 0, 1) := by decide +kernel
theorem dX7_about_30 : decode cX7_about 30 = .ok (.getfield 57, 3) := by decide +kernel
theorem dX7_about_33 : decode cX7_about 33 = .ok (.ifCond .le 7, 3) := by decide +kernel
theorem dX7_about_36 : decode cX7_about 36 = .ok (.iconst 0, 1) := by decide +kernel
theorem dX7_about_37 : decode cX7_about 37 = .ok (.goto 9, 3) := by decide +kernel
theorem dX7_about_40 : decode cX7_about 40 = .ok (.aload_n 0, 1) := by decide +kernel
theorem dX7_about_41 : decode cX7_about 41 = .ok (.getfield 38, 3) := by decide +kernel
theorem dX7_about_44 : decode cX7_about 44 = .ok (.iload_n 1, 1) := by decide +kernel
theorem dX7_about_45 : decode cX7_about 45 = .ok (.iaload, 1) := by decide +kernel
theorem dX7_about_46 : decode cX7_about 46 = .ok (.ireturn, 1) := by decide +kernel
theorem dX7_cell_0 : decode cX7_cell 0 = .ok (.aload_n 0, 1) := by decide +kernel
theorem dX7_cell_1 : decode cX7_cell 1 = .ok (.aload_n 0, 1) := by decide +kernel
theorem dX7_cell_2 : decode cX7_cell 2 = .ok (.iload_n 1, 1) := by decide +kernel
theorem dX7_cell_3 : decode cX7_cell 3 = .ok (.iload_n 2, 1) := by decide +kernel
theorem dX7_cell_4 : decode cX7_cell 4 = .ok (.invokevirtual 64, 3) := by decide +kernel
theorem dX7_cell_7 : decode cX7_cell 7 = .ok (.ifCond .eq 16, 3) := by decide +kernel
theorem dX7_cell_10 : decode cX7_cell 10 = .ok (.iload_n 3, 1) := by decide +kernel
theorem dX7_cell_11 : decode cX7_cell 11 = .ok (.iconst 0, 1) := by decide +kernel
theorem dX7_cell_12 : decode cX7_cell 12 = .ok (.iconst 2, 1) := by decide +kernel
theorem dX7_cell_13 : decode cX7_cell 13 = .ok (.invokestatic 60, 3) := by decide +kernel
theorem dX7_cell_16 : decode cX7_cell 16 = .ok (.ifCond .eq 7, 3) := by decide +kernel
theorem dX7_cell_19 : decode cX7_cell 19 = .ok (.iconst 0, 1) := by decide +kernel
theorem dX7_cell_20 : decode cX7_cell 20 = .ok (.goto 4, 3) := by decide +kernel
theorem dX7_cell_23 : decode cX7_cell 23 = .ok (.iconst 1, 1) := by decide +kernel
theorem dX7_cell_24 : decode cX7_cell 24 = .ok (.putfield 57, 3) := by decide +kernel
theorem dX7_cell_27 : decode cX7_cell 27 = .ok (.aload_n 0, 1) := by decide +kernel
theorem dX7_cell_28 : decode cX7_cell 28 = .ok (.getfield 57, 3) := by decide +kernel
theorem dX7_cell_31 : decode cX7_cell 31 = .ok (.ifCond .le 5, 3) := by decide +kernel
theorem dX7_cell_34 : decode cX7_cell 34 = .ok (.iconst 0, 1) := by decide +kernel
theorem dX7_cell_35 : decode cX7_cell 35 = .ok (.ireturn, 1) := by decide +kernel
theorem dX7_cell_36 : decode cX7_cell 36 = .ok (.bipush 20, 2) := by decide +kernel
theorem dX7_cell_38 : decode cX7_cell 38 = .ok (.iload_n 2, 1) := by decide +kernel
theorem dX7_cell_39 : decode cX7_cell 39 = .ok (.imul, 1) := by decide +kernel
theorem dX7_cell_40 : decode cX7_cell 40 = .ok (.iload_n 1, 1) := by decide +kernel
theorem dX7_cell_41 : decode cX7_cell 41 = .ok (.iadd, 1) := by decide +kernel
theorem dX7_cell_42 : decode cX7_cell 42 = .ok (.istore 4, 2) := by decide +kernel
theorem dX7_cell_44 : decode cX7_cell 44 = .ok (.iload_n 3, 1) := by decide +kernel
theorem dX7_cell_45 : decode cX7_cell 45 = .ok (.ifCond .ne 13, 3) := by decide +kernel
theorem dX7_cell_48 : decode cX7_cell 48 = .ok (.aload_n 0, 1) := by decide +kernel
theorem dX7_cell_49 : decode cX7_cell 49 = .ok (.getfield 7, 3) := by decide +kernel
theorem dX7_cell_52 : decode cX7_cell 52 = .ok (.iload 4, 2) := by decide +kernel
theorem dX7_cell_54 : decode cX7_cell 54 = .ok (.iaload, 1) := by decide +kernel
theorem dX7_cell_55 : decode cX7_cell 55 = .ok (.goto 33, 3) := by decide +kernel
theorem dX7_cell_58 : decode cX7_cell 58 = .ok (.iload_n 3, 1) := by decide +kernel
theorem dX7_cell_59 : decode cX7_cell 59 = .ok (.iconst 1, 1) := by decide +kernel
theorem dX7_cell_60 : decode cX7_cell 60 = .ok (.if_icmp .ne 13, 3) := by decide +kernel
theorem dX7_cell_63 : decode cX7_cell 63 = .ok (.aload_n 0, 1) := by decide +kernel
theorem dX7_cell_64 : decode cX7_cell 64 = .ok (.getfield 13, 3) := by decide +kernel
theorem dX7_cell_67 : decode cX7_cell 67 = .ok (.iload 4, 2) := by decide +kernel
theorem dX7_cell_69 : decode cX7_cell 69 = .ok (.iaload, 1) := by decide +kernel
theorem dX7_cell_70 : decode cX7_cell 70 = .ok (.goto 18, 3) := by decide +kernel
theorem dX7_cell_73 : decode cX7_cell 73 = .ok (.aload_n 0, 1) := by decide +kernel
theorem dX7_cell_74 : decode cX7_cell 74 = .ok (.getfield 16, 3) := by decide +kernel
theorem dX7_cell_77 : decode cX7_cell 77 = .ok (.iload 4, 2) := by decide +kernel
theorem dX7_cell_79 : decode cX7_cell 79 = .ok (.baload, 1) := by decide +kernel
theorem dX7_cell_80 : decode cX7_cell 80 = .ok (.ifCond .eq 7, 3) := by decide +kernel
theorem dX7_cell_83 : decode cX7_cell 83 = .ok (.iconst 1, 1) := by decide +kernel
theorem dX7_cell_84 : decode cX7_cell 84 = .ok (.goto 4, 3) := by decide +kernel
theorem dX7_cell_87 : decode cX7_cell 87 = .ok (.iconst 0, 1) := by decide +kernel
theorem dX7_cell_88 : decode cX7_cell 88 = .ok (.ireturn, 1) := by decide +kernel
theorem dX7_check_0 : decode cX7_check 0 = .ok (.aload_n 0, 1) := by decide +kernel
theorem dX7_check_1 : decode cX7_check 1 = .ok (.iload_n 1, 1) := by decide +kernel
theorem dX7_check_2 : decode cX7_check 2 = .ok (.iconst 0, 1) := by decide +kernel
theorem dX7_check_3 : decode cX7_check 3 = .ok (.iconst 3, 1) := by decide +kernel
theorem dX7_check_4 : decode cX7_check 4 = .ok (.invokestatic 60, 3) := by decide +kernel
theorem dX7_check_7 : decode cX7_check 7 = .ok (.ifCond .eq 7, 3) := by decide +kernel
theorem dX7_check_10 : decode cX7_check 10 = .ok (.iconst 0, 1) := by decide +kernel
theorem dX7_check_11 : decode cX7_check 11 = .ok (.goto 4, 3) := by decide +kernel
theorem dX7_check_14 : decode cX7_check 14 = .ok (.iconst 1, 1) := by decide +kernel
theorem dX7_check_15 : decode cX7_check 15 = .ok (.putfield 57, 3) := by decide +kernel
theorem dX7_check_18 : decode cX7_check 18 = .ok (.iconst 0, 1) := by decide +kernel
theorem dX7_check_19 : decode cX7_check 19 = .ok (.istore_n 2, 1) := by decide +kernel
theorem dX7_check_20 : decode cX7_check 20 = .ok (.iconst (-1), 1) := by decide +kernel
theorem dX7_check_21 : decode cX7_check 21 = .ok (.istore_n 3, 1) := by decide +kernel
theorem dX7_check_22 : decode cX7_check 22 = .ok (.aload_n 0, 1) := by decide +kernel
theorem dX7_check_23 : decode cX7_check 23 = .ok (.getfield 53, 3) := by decide +kernel
theorem dX7_check_26 : decode cX7_check 26 = .ok (.aload_n 0, 1) := by decide +kernel
theorem dX7_check_27 : decode cX7_check 27 = .ok (.getfield 53, 3) := by decide +kernel
theorem dX7_check_30 : decode cX7_check 30 = .ok (.imul, 1) := by decide +kernel
theorem dX7_check_31 : decode cX7_check 31 = .ok (.iconst 1, 1) := by decide +kernel
theorem dX7_check_32 : decode cX7_check 32 = .ok (.isub, 1) := by decide +kernel
theorem dX7_check_33 : decode cX7_check 33 = .ok (.istore 4, 2) := by decide +kernel
theorem dX7_check_35 : decode cX7_check 35 = .ok (.iload 4, 2) := by decide +kernel
theorem dX7_check_37 : decode cX7_check 37 = .ok (.ifCond .lt 116, 3) := by decide +kernel
theorem dX7_check_40 : decode cX7_check 40 = .ok (.aload_n 0, 1) := by decide +kernel
theorem dX7_check_41 : decode cX7_check 41 = .ok (.getfield 57, 3) := by decide +kernel
theorem dX7_check_44 : decode cX7_check 44 = .ok (.ifCond .ne 109, 3) := by decide +kernel
theorem dX7_check_47 : decode cX7_check 47 = .ok (.bipush 20, 2) := by decide +kernel
theorem dX7_check_49 : decode cX7_check 49 = .ok (.iload 4, 2) := by decide +kernel
theorem dX7_check_51 : decode cX7_check 51 = .ok (.aload_n 0, 1) := by decide +kernel
theorem dX7_check_52 : decode cX7_check 52 = .ok (.getfield 53, 3) := by decide +kernel
theorem dX7_check_55 : decode cX7_check 55 = .ok (.idiv, 1) := by decide +kernel
theorem dX7_check_56 : decode cX7_check 56 = .ok (.imul, 1) := by decide +kernel
theorem dX7_check_57 : decode cX7_check 57 = .ok (.iload 4, 2) := by decide +kernel
theorem dX7_check_59 : decode cX7_check 59 = .ok (.aload_n 0, 1) := by decide +kernel
theorem dX7_check_60 : decode cX7_check 60 = .ok (.getfield 53, 3) := by decide +kernel
theorem dX7_check_63 : decode cX7_check 63 = .ok (.irem, 1) := by decide +kernel
theorem dX7_check_64 : decode cX7_check 64 = .ok (.iadd, 1) := by decide +kernel
theorem dX7_check_65 : decode cX7_check 65 = .ok (.istore 5, 2) := by decide +kernel
theorem dX7_check_67 : decode cX7_check 67 = .ok (.iload_n 1, 1) := by decide +kernel
theorem dX7_check_68 : decode cX7_check 68 = .ok (.iconst 2, 1) := by decide +kernel
theorem dX7_check_69 : decode cX7_check 69 = .ok (.irem, 1) := by decide +kernel
theorem dX7_check_70 : decode cX7_check 70 = .ok (.ifCond .ne 28, 3) := by decide +kernel
theorem dX7_check_73 : decode cX7_check 73 = .ok (.aload_n 0, 1) := by decide +kernel
theorem dX7_check_74 : decode cX7_check 74 = .ok (.getfield 7, 3) := by decide +kernel
theorem dX7_check_77 : decode cX7_check 77 = .ok (.iload 5, 2) := by decide +kernel
theorem dX7_check_79 : decode cX7_check 79 = .ok (.iaload, 1) := by decide +kernel
theorem dX7_check_80 : decode cX7_check 80 = .ok (.aload_n 0, 1) := by decide +kernel
theorem dX7_check_81 : decode cX7_check 81 = .ok (.getfield 13, 3) := by decide +kernel
theorem dX7_check_84 : decode cX7_check 84 = .ok (.iload 5, 2) := by decide +kernel
theorem dX7_check_86 : decode cX7_check 86 = .ok (.iaload, 1) := by decide +kernel
theorem dX7_check_87 : decode cX7_check 87 = .ok (.if_icmp .le 7, 3) := by decide +kernel
theorem dX7_check_90 : decode cX7_check 90 = .ok (.iconst 1, 1) := by decide +kernel
theorem dX7_check_91 : decode cX7_check 91 = .ok (.goto 29, 3) := by decide +kernel
theorem dX7_check_94 : decode cX7_check 94 = .ok (.iconst 0, 1) := by decide +kernel
theorem dX7_check_95 : decode cX7_check 95 = .ok (.goto 25, 3) := by decide +kernel
theorem dX7_check_98 : decode cX7_check 98 = .ok (.aload_n 0, 1) := by decide +kernel
theorem dX7_check_99 : decode cX7_check 99 = .ok (.getfield 7, 3) := by decide +kernel
theorem dX7_check_102 : decode cX7_check 102 = .ok (.iload 5, 2) := by decide +kernel
theorem dX7_check_104 : decode cX7_check 104 = .ok (.iaload, 1) := by decide +kernel
theorem dX7_check_105 : decode cX7_check 105 = .ok (.aload_n 0, 1) := by decide +kernel
theorem dX7_check_106 : decode cX7_check 106 = .ok (.getfield 13, 3) := by decide +kernel
theorem dX7_check_109 : decode cX7_check 109 = .ok (.iload 5, 2) := by decide +kernel
theorem dX7_check_111 : decode cX7_check 111 = .ok (.iaload, 1) := by decide +kernel
theorem dX7_check_112 : decode cX7_check 112 = .ok (.if_icmp .ge 7, 3) := by decide +kernel
theorem dX7_check_115 : decode cX7_check 115 = .ok (.iconst 1, 1) := by decide +kernel
theorem dX7_check_116 : decode cX7_check 116 = .ok (.goto 4, 3) := by decide +kernel
theorem dX7_check_119 : decode cX7_check 119 = .ok (.iconst 0, 1) := by decide +kernel
theorem dX7_check_120 : decode cX7_check 120 = .ok (.istore 6, 2) := by decide +kernel
theorem dX7_check_122 : decode cX7_check 122 = .ok (.iload 6, 2) := by decide +kernel
theorem dX7_check_124 : decode cX7_check 124 = .ok (.ifCond .eq 9, 3) := by decide +kernel
theorem dX7_check_127 : decode cX7_check 127 = .ok (.iload_n 2, 1) := by decide +kernel
theorem dX7_check_128 : decode cX7_check 128 = .ok (.iconst 1, 1) := by decide +kernel
theorem dX7_check_129 : decode cX7_check 129 = .ok (.iadd, 1) := by decide +kernel
theorem dX7_check_130 : decode cX7_check 130 = .ok (.goto 4, 3) := by decide +kernel
theorem dX7_check_133 : decode cX7_check 133 = .ok (.iload_n 2, 1) := by decide +kernel
theorem dX7_check_134 : decode cX7_check 134 = .ok (.istore_n 2, 1) := by decide +kernel
theorem dX7_check_135 : decode cX7_check 135 = .ok (.iload 6, 2) := by decide +kernel
theorem dX7_check_137 : decode cX7_check 137 = .ok (.ifCond .eq 8, 3) := by decide +kernel
theorem dX7_check_140 : decode cX7_check 140 = .ok (.iload 4, 2) := by decide +kernel
theorem dX7_check_142 : decode cX7_check 142 = .ok (.goto 4, 3) := by decide +kernel
theorem dX7_check_145 : decode cX7_check 145 = .ok (.iload_n 3, 1) := by decide +kernel
theorem dX7_check_146 : decode cX7_check 146 = .ok (.istore_n 3, 1) := by decide +kernel
theorem dX7_check_147 : decode cX7_check 147 = .ok (.iinc 4 (-1), 3) := by decide +kernel
theorem dX7_check_150 : decode cX7_check 150 = .ok (.goto (-115), 3) := by decide +kernel
theorem dX7_check_153 : decode cX7_check 153 = .ok (.aload_n 0, 1) := by decide +kernel
theorem dX7_check_154 : decode cX7_check 154 = .ok (.getfield 57, 3) := by decide +kernel
theorem dX7_check_157 : decode cX7_check 157 = .ok (.ifCond .le 7, 3) := by decide +kernel
theorem dX7_check_160 : decode cX7_check 160 = .ok (.iconst 0, 1) := by decide +kernel
theorem dX7_check_161 : decode cX7_check 161 = .ok (.goto 13, 3) := by decide +kernel
theorem dX7_check_164 : decode cX7_check 164 = .ok (.iload_n 1, 1) := by decide +kernel
theorem dX7_check_165 : decode cX7_check 165 = .ok (.iconst 2, 1) := by decide +kernel
theorem dX7_check_166 : decode cX7_check 166 = .ok (.if_icmp .ge 7, 3) := by decide +kernel
theorem dX7_check_169 : decode cX7_check 169 = .ok (.iload_n 2, 1) := by decide +kernel
theorem dX7_check_170 : decode cX7_check 170 = .ok (.goto 4, 3) := by decide +kernel
theorem dX7_check_173 : decode cX7_check 173 = .ok (.iload_n 3, 1) := by decide +kernel
theorem dX7_check_174 : decode cX7_check 174 = .ok (.ireturn, 1) := by decide +kernel
theorem dX7_spares_0 : decode cX7_spares 0 = .ok (.aload_n 0, 1) := by decide +kernel
theorem dX7_spares_1 : decode cX7_spares 1 = .ok (.iload_n 1, 1) := by decide +kernel
theorem dX7_spares_2 : decode cX7_spares 2 = .ok (.iload_n 2, 1) := by decide +kernel
theorem dX7_spares_3 : decode cX7_spares 3 = .ok (.iload_n 3, 1) := by decide +kernel
theorem dX7_spares_4 : decode cX7_spares 4 = .ok (.iload 4, 2) := by decide +kernel
theorem dX7_spares_6 : decode cX7_spares 6 = .ok (.invokevirtual 116, 3) := by decide +kernel
theorem dX7_spares_9 : decode cX7_spares 9 = .ok (.istore 5, 2) := by decide +kernel
theorem dX7_spares_11 : decode cX7_spares 11 = .ok (.iconst 0, 1) := by decide +kernel
theorem dX7_spares_12 : decode cX7_spares 12 = .ok (.istore 6, 2) := by decide +kernel
theorem dX7_spares_14 : decode cX7_spares 14 = .ok (.iload 6, 2) := by decide +kernel
theorem dX7_spares_16 : decode cX7_spares 16 = .ok (.sipush 400, 3) := by decide +kernel
theorem dX7_spares_19 : decode cX7_spares 19 = .ok (.if_icmp .ge 60, 3) := by decide +kernel
theorem dX7_spares_22 : decode cX7_spares 22 = .ok (.iload 5, 2) := by decide +kernel
theorem dX7_spares_24 : decode cX7_spares 24 = .ok (.ifCond .eq 55, 3) := by decide +kernel
theorem dX7_spares_27 : decode cX7_spares 27 = .ok (.aload_n 0, 1) := by decide +kernel
theorem dX7_spares_28 : decode cX7_spares 28 = .ok (.iload_n 1, 1) := by decide +kernel
theorem dX7_spares_29 : decode cX7_spares 29 = .ok (.iload_n 2, 1) := by decide +kernel
theorem dX7_spares_30 : decode cX7_spares 30 = .ok (.iload_n 3, 1) := by decide +kernel
theorem dX7_spares_31 : decode cX7_spares 31 = .ok (.iload 6, 2) := by decide +kernel
theorem dX7_spares_33 : decode cX7_spares 33 = .ok (.invokevirtual 116, 3) := by decide +kernel
theorem dX7_spares_36 : decode cX7_spares 36 = .ok (.ifCond .eq 30, 3) := by decide +kernel
theorem dX7_spares_39 : decode cX7_spares 39 = .ok (.aload_n 0, 1) := by decide +kernel
theorem dX7_spares_40 : decode cX7_spares 40 = .ok (.getfield 13, 3) := by decide +kernel
theorem dX7_spares_43 : decode cX7_spares 43 = .ok (.iload 6, 2) := by decide +kernel
theorem dX7_spares_45 : decode cX7_spares 45 = .ok (.iaload, 1) := by decide +kernel
theorem dX7_spares_46 : decode cX7_spares 46 = .ok (.aload_n 0, 1) := by decide +kernel
theorem dX7_spares_47 : decode cX7_spares 47 = .ok (.getfield 13, 3) := by decide +kernel
theorem dX7_spares_50 : decode cX7_spares 50 = .ok (.iload 4, 2) := by decide +kernel
theorem dX7_spares_52 : decode cX7_spares 52 = .ok (.iaload, 1) := by decide +kernel
theorem dX7_spares_53 : decode cX7_spares 53 = .ok (.if_icmp .gt 17, 3) := by decide +kernel
theorem dX7_spares_56 : decode cX7_spares 56 = .ok (.aload_n 0, 1) := by decide +kernel
theorem dX7_spares_57 : decode cX7_spares 57 = .ok (.getfield 16, 3) := by decide +kernel
theorem dX7_spares_60 : decode cX7_spares 60 = .ok (.iload 6, 2) := by decide +kernel
theorem dX7_spares_62 : decode cX7_spares 62 = .ok (.baload, 1) := by decide +kernel
theorem dX7_spares_63 : decode cX7_spares 63 = .ok (.ifCond .ne 7, 3) := by decide +kernel
theorem dX7_spares_66 : decode cX7_spares 66 = .ok (.iconst 1, 1) := by decide +kernel
theorem dX7_spares_67 : decode cX7_spares 67 = .ok (.goto 4, 3) := by decide +kernel
theorem dX7_spares_70 : decode cX7_spares 70 = .ok (.iconst 0, 1) := by decide +kernel
theorem dX7_spares_71 : decode cX7_spares 71 = .ok (.istore 5, 2) := by decide +kernel
theorem dX7_spares_73 : decode cX7_spares 73 = .ok (.iinc 6 1, 3) := by decide +kernel
theorem dX7_spares_76 : decode cX7_spares 76 = .ok (.goto (-62), 3) := by decide +kernel
theorem dX7_spares_79 : decode cX7_spares 79 = .ok (.iload 5, 2) := by decide +kernel
theorem dX7_spares_81 : decode cX7_spares 81 = .ok (.ireturn, 1) := by decide +kernel
theorem dX7_reached_0 : decode cX7_reached 0 = .ok (.aload_n 0, 1) := by decide +kernel
theorem dX7_reached_1 : decode cX7_reached 1 = .ok (.iload_n 1, 1) := by decide +kernel
theorem dX7_reached_2 : decode cX7_reached 2 = .ok (.iconst 0, 1) := by decide +kernel
theorem dX7_reached_3 : decode cX7_reached 3 = .ok (.iconst 3, 1) := by decide +kernel
theorem dX7_reached_4 : decode cX7_reached 4 = .ok (.invokestatic 60, 3) := by decide +kernel
theorem dX7_reached_7 : decode cX7_reached 7 = .ok (.ifCond .eq 7, 3) := by decide +kernel
theorem dX7_reached_10 : decode cX7_reached 10 = .ok (.iconst 0, 1) := by decide +kernel
theorem dX7_reached_11 : decode cX7_reached 11 = .ok (.goto 4, 3) := by decide +kernel
theorem dX7_reached_14 : decode cX7_reached 14 = .ok (.iconst 1, 1) := by decide +kernel
theorem dX7_reached_15 : decode cX7_reached 15 = .ok (.putfield 57, 3) := by decide +kernel
theorem dX7_reached_18 : decode cX7_reached 18 = .ok (.iconst 0, 1) := by decide +kernel
theorem dX7_reached_19 : decode cX7_reached 19 = .ok (.istore_n 2, 1) := by decide +kernel
theorem dX7_reached_20 : decode cX7_reached 20 = .ok (.iconst 0, 1) := by decide +kernel
theorem dX7_reached_21 : decode cX7_reached 21 = .ok (.istore_n 3, 1) := by decide +kernel
theorem dX7_reached_22 : decode cX7_reached 22 = .ok (.iload_n 3, 1) := by decide +kernel
theorem dX7_reached_23 : decode cX7_reached 23 = .ok (.sipush 400, 3) := by decide +kernel
theorem dX7_reached_26 : decode cX7_reached 26 = .ok (.if_icmp .ge 124, 3) := by decide +kernel
theorem dX7_reached_29 : decode cX7_reached 29 = .ok (.aload_n 0, 1) := by decide +kernel
theorem dX7_reached_30 : decode cX7_reached 30 = .ok (.getfield 57, 3) := by decide +kernel
theorem dX7_reached_33 : decode cX7_reached 33 = .ok (.ifCond .ne 117, 3) := by decide +kernel
theorem dX7_reached_36 : decode cX7_reached 36 = .ok (.iconst 0, 1) := by decide +kernel
theorem dX7_reached_37 : decode cX7_reached 37 = .ok (.istore 4, 2) := by decide +kernel
theorem dX7_reached_39 : decode cX7_reached 39 = .ok (.aload_n 0, 1) := by decide +kernel
theorem dX7_reached_40 : decode cX7_reached 40 = .ok (.iload_n 3, 1) := by decide +kernel
theorem dX7_reached_41 : decode cX7_reached 41 = .ok (.bipush 20, 2) := by decide +kernel
theorem dX7_reached_43 : decode cX7_reached 43 = .ok (.irem, 1) := by decide +kernel
theorem dX7_reached_44 : decode cX7_reached 44 = .ok (.iload_n 3, 1) := by decide +kernel
theorem dX7_reached_45 : decode cX7_reached 45 = .ok (.bipush 20, 2) := by decide +kernel
theorem dX7_reached_47 : decode cX7_reached 47 = .ok (.idiv, 1) := by decide +kernel
theorem dX7_reached_48 : decode cX7_reached 48 = .ok (.invokevirtual 64, 3) := by decide +kernel
theorem dX7_reached_51 : decode cX7_reached 51 = .ok (.ifCond .eq 22, 3) := by decide +kernel
theorem dX7_reached_54 : decode cX7_reached 54 = .ok (.aload_n 0, 1) := by decide +kernel
theorem dX7_reached_55 : decode cX7_reached 55 = .ok (.getfield 7, 3) := by decide +kernel
theorem dX7_reached_58 : decode cX7_reached 58 = .ok (.iload_n 3, 1) := by decide +kernel
theorem dX7_reached_59 : decode cX7_reached 59 = .ok (.iaload, 1) := by decide +kernel
theorem dX7_reached_60 : decode cX7_reached 60 = .ok (.aload_n 0, 1) := by decide +kernel
theorem dX7_reached_61 : decode cX7_reached 61 = .ok (.getfield 13, 3) := by decide +kernel
theorem dX7_reached_64 : decode cX7_reached 64 = .ok (.iload_n 3, 1) := by decide +kernel
theorem dX7_reached_65 : decode cX7_reached 65 = .ok (.iaload, 1) := by decide +kernel
theorem dX7_reached_66 : decode cX7_reached 66 = .ok (.if_icmp .le 7, 3) := by decide +kernel
theorem dX7_reached_69 : decode cX7_reached 69 = .ok (.iconst 1, 1) := by decide +kernel
theorem dX7_reached_70 : decode cX7_reached 70 = .ok (.goto 4, 3) := by decide +kernel
theorem dX7_reached_73 : decode cX7_reached 73 = .ok (.iconst 0, 1) := by decide +kernel
theorem dX7_reached_74 : decode cX7_reached 74 = .ok (.istore 5, 2) := by decide +kernel
theorem dX7_reached_76 : decode cX7_reached 76 = .ok (.iconst 0, 1) := by decide +kernel
theorem dX7_reached_77 : decode cX7_reached 77 = .ok (.istore 6, 2) := by decide +kernel
theorem dX7_reached_79 : decode cX7_reached 79 = .ok (.iload 6, 2) := by decide +kernel
theorem dX7_reached_81 : decode cX7_reached 81 = .ok (.aload_n 0, 1) := by decide +kernel
theorem dX7_reached_82 : decode cX7_reached 82 = .ok (.getfield 53, 3) := by decide +kernel
theorem dX7_reached_85 : decode cX7_reached 85 = .ok (.aload_n 0, 1) := by decide +kernel
theorem dX7_reached_86 : decode cX7_reached 86 = .ok (.getfield 53, 3) := by decide +kernel
theorem dX7_reached_89 : decode cX7_reached 89 = .ok (.imul, 1) := by decide +kernel
theorem dX7_reached_90 : decode cX7_reached 90 = .ok (.if_icmp .ge 41, 3) := by decide +kernel
theorem dX7_reached_93 : decode cX7_reached 93 = .ok (.iload 5, 2) := by decide +kernel
theorem dX7_reached_95 : decode cX7_reached 95 = .ok (.ifCond .eq 36, 3) := by decide +kernel
theorem dX7_reached_98 : decode cX7_reached 98 = .ok (.iload 4, 2) := by decide +kernel
theorem dX7_reached_100 : decode cX7_reached 100 = .ok (.ifCond .ne 31, 3) := by decide +kernel
theorem dX7_reached_103 : decode cX7_reached 103 = .ok (.aload_n 0, 1) := by decide +kernel
theorem dX7_reached_104 : decode cX7_reached 104 = .ok (.iload_n 1, 1) := by decide +kernel
theorem dX7_reached_105 : decode cX7_reached 105 = .ok (.iload 6, 2) := by decide +kernel
theorem dX7_reached_107 : decode cX7_reached 107 = .ok (.aload_n 0, 1) := by decide +kernel
theorem dX7_reached_108 : decode cX7_reached 108 = .ok (.getfield 53, 3) := by decide +kernel
theorem dX7_reached_111 : decode cX7_reached 111 = .ok (.irem, 1) := by decide +kernel
theorem dX7_reached_112 : decode cX7_reached 112 = .ok (.iload 6, 2) := by decide +kernel
theorem dX7_reached_114 : decode cX7_reached 114 = .ok (.aload_n 0, 1) := by decide +kernel
theorem dX7_reached_115 : decode cX7_reached 115 = .ok (.getfield 53, 3) := by decide +kernel
theorem dX7_reached_118 : decode cX7_reached 118 = .ok (.idiv, 1) := by decide +kernel
theorem dX7_reached_119 : decode cX7_reached 119 = .ok (.iload_n 3, 1) := by decide +kernel
theorem dX7_reached_120 : decode cX7_reached 120 = .ok (.invokevirtual 134, 3) := by decide +kernel
theorem dX7_reached_123 : decode cX7_reached 123 = .ok (.istore 4, 2) := by decide +kernel
theorem dX7_reached_125 : decode cX7_reached 125 = .ok (.iinc 6 1, 3) := by decide +kernel
theorem dX7_reached_128 : decode cX7_reached 128 = .ok (.goto (-49), 3) := by decide +kernel
theorem dX7_reached_131 : decode cX7_reached 131 = .ok (.iload 4, 2) := by decide +kernel
theorem dX7_reached_133 : decode cX7_reached 133 = .ok (.ifCond .eq 9, 3) := by decide +kernel
theorem dX7_reached_136 : decode cX7_reached 136 = .ok (.iload_n 2, 1) := by decide +kernel
theorem dX7_reached_137 : decode cX7_reached 137 = .ok (.iconst 1, 1) := by decide +kernel
theorem dX7_reached_138 : decode cX7_reached 138 = .ok (.iadd, 1) := by decide +kernel
theorem dX7_reached_139 : decode cX7_reached 139 = .ok (.goto 4, 3) := by decide +kernel
theorem dX7_reached_142 : decode cX7_reached 142 = .ok (.iload_n 2, 1) := by decide +kernel
theorem dX7_reached_143 : decode cX7_reached 143 = .ok (.istore_n 2, 1) := by decide +kernel
theorem dX7_reached_144 : decode cX7_reached 144 = .ok (.iinc 3 1, 3) := by decide +kernel
theorem dX7_reached_147 : decode cX7_reached 147 = .ok (.goto (-125), 3) := by decide +kernel
theorem dX7_reached_150 : decode cX7_reached 150 = .ok (.iload_n 2, 1) := by decide +kernel
theorem dX7_reached_151 : decode cX7_reached 151 = .ok (.ireturn, 1) := by decide +kernel
theorem dX7_pieces_0 : decode cX7_pieces 0 = .ok (.aload_n 0, 1) := by decide +kernel
theorem dX7_pieces_1 : decode cX7_pieces 1 = .ok (.iconst 0, 1) := by decide +kernel
theorem dX7_pieces_2 : decode cX7_pieces 2 = .ok (.putfield 57, 3) := by decide +kernel
theorem dX7_pieces_5 : decode cX7_pieces 5 = .ok (.iconst 0, 1) := by decide +kernel
theorem dX7_pieces_6 : decode cX7_pieces 6 = .ok (.istore_n 1, 1) := by decide +kernel
theorem dX7_pieces_7 : decode cX7_pieces 7 = .ok (.iconst 0, 1) := by decide +kernel
theorem dX7_pieces_8 : decode cX7_pieces 8 = .ok (.istore_n 2, 1) := by decide +kernel
theorem dX7_pieces_9 : decode cX7_pieces 9 = .ok (.iload_n 2, 1) := by decide +kernel
theorem dX7_pieces_10 : decode cX7_pieces 10 = .ok (.sipush 400, 3) := by decide +kernel
theorem dX7_pieces_13 : decode cX7_pieces 13 = .ok (.if_icmp .ge 44, 3) := by decide +kernel
theorem dX7_pieces_16 : decode cX7_pieces 16 = .ok (.aload_n 0, 1) := by decide +kernel
theorem dX7_pieces_17 : decode cX7_pieces 17 = .ok (.getfield 44, 3) := by decide +kernel
theorem dX7_pieces_20 : decode cX7_pieces 20 = .ok (.iload_n 2, 1) := by decide +kernel
theorem dX7_pieces_21 : decode cX7_pieces 21 = .ok (.aload_n 0, 1) := by decide +kernel
theorem dX7_pieces_22 : decode cX7_pieces 22 = .ok (.iload_n 2, 1) := by decide +kernel
theorem dX7_pieces_23 : decode cX7_pieces 23 = .ok (.bipush 20, 2) := by decide +kernel
theorem dX7_pieces_25 : decode cX7_pieces 25 = .ok (.irem, 1) := by decide +kernel
theorem dX7_pieces_26 : decode cX7_pieces 26 = .ok (.iload_n 2, 1) := by decide +kernel
theorem dX7_pieces_27 : decode cX7_pieces 27 = .ok (.bipush 20, 2) := by decide +kernel
theorem dX7_pieces_29 : decode cX7_pieces 29 = .ok (.idiv, 1) := by decide +kernel
theorem dX7_pieces_30 : decode cX7_pieces 30 = .ok (.invokevirtual 64, 3) := by decide +kernel
theorem dX7_pieces_33 : decode cX7_pieces 33 = .ok (.ifCond .eq 12, 3) := by decide +kernel
theorem dX7_pieces_36 : decode cX7_pieces 36 = .ok (.aload_n 0, 1) := by decide +kernel
theorem dX7_pieces_37 : decode cX7_pieces 37 = .ok (.getfield 7, 3) := by decide +kernel
theorem dX7_pieces_40 : decode cX7_pieces 40 = .ok (.iload_n 2, 1) := by decide +kernel
theorem dX7_pieces_41 : decode cX7_pieces 41 = .ok (.iaload, 1) := by decide +kernel
theorem dX7_pieces_42 : decode cX7_pieces 42 = .ok (.ifCond .ne 7, 3) := by decide +kernel
theorem dX7_pieces_45 : decode cX7_pieces 45 = .ok (.iconst 1, 1) := by decide +kernel
theorem dX7_pieces_46 : decode cX7_pieces 46 = .ok (.goto 4, 3) := by decide +kernel
theorem dX7_pieces_49 : decode cX7_pieces 49 = .ok (.iconst 0, 1) := by decide +kernel
theorem dX7_pieces_50 : decode cX7_pieces 50 = .ok (.bastore, 1) := by decide +kernel
theorem dX7_pieces_51 : decode cX7_pieces 51 = .ok (.iinc 2 1, 3) := by decide +kernel
theorem dX7_pieces_54 : decode cX7_pieces 54 = .ok (.goto (-45), 3) := by decide +kernel
theorem dX7_pieces_57 : decode cX7_pieces 57 = .ok (.iconst 0, 1) := by decide +kernel
theorem dX7_pieces_58 : decode cX7_pieces 58 = .ok (.istore_n 2, 1) := by decide +kernel
theorem dX7_pieces_59 : decode cX7_pieces 59 = .ok (.iload_n 2, 1) := by decide +kernel
theorem dX7_pieces_60 : decode cX7_pieces 60 = .ok (.sipush 400, 3) := by decide +kernel
theorem dX7_pieces_63 : decode cX7_pieces 63 = .ok (.if_icmp .ge 26, 3) := by decide +kernel
theorem dX7_pieces_66 : decode cX7_pieces 66 = .ok (.aload_n 0, 1) := by decide +kernel
theorem dX7_pieces_67 : decode cX7_pieces 67 = .ok (.getfield 44, 3) := by decide +kernel
theorem dX7_pieces_70 : decode cX7_pieces 70 = .ok (.iload_n 2, 1) := by decide +kernel
theorem dX7_pieces_71 : decode cX7_pieces 71 = .ok (.baload, 1) := by decide +kernel
theorem dX7_pieces_72 : decode cX7_pieces 72 = .ok (.ifCond .ne 11, 3) := by decide +kernel
theorem dX7_pieces_75 : decode cX7_pieces 75 = .ok (.iinc 1 1, 3) := by decide +kernel
theorem dX7_pieces_78 : decode cX7_pieces 78 = .ok (.aload_n 0, 1) := by decide +kernel
theorem dX7_pieces_79 : decode cX7_pieces 79 = .ok (.iload_n 2, 1) := by decide +kernel
theorem dX7_pieces_80 : decode cX7_pieces 80 = .ok (.invokevirtual 137, 3) := by decide +kernel
theorem dX7_pieces_83 : decode cX7_pieces 83 = .ok (.iinc 2 1, 3) := by decide +kernel
theorem dX7_pieces_86 : decode cX7_pieces 86 = .ok (.goto (-27), 3) := by decide +kernel
theorem dX7_pieces_89 : decode cX7_pieces 89 = .ok (.iload_n 1, 1) := by decide +kernel
theorem dX7_pieces_90 : decode cX7_pieces 90 = .ok (.ireturn, 1) := by decide +kernel
theorem dX7_flood_0 : decode cX7_flood 0 = .ok (.iconst 1, 1) := by decide +kernel
theorem dX7_flood_1 : decode cX7_flood 1 = .ok (.istore_n 2, 1) := by decide +kernel
theorem dX7_flood_2 : decode cX7_flood 2 = .ok (.aload_n 0, 1) := by decide +kernel
theorem dX7_flood_3 : decode cX7_flood 3 = .ok (.getfield 41, 3) := by decide +kernel
theorem dX7_flood_6 : decode cX7_flood 6 = .ok (.iconst 0, 1) := by decide +kernel
theorem dX7_flood_7 : decode cX7_flood 7 = .ok (.iload_n 1, 1) := by decide +kernel
theorem dX7_flood_8 : decode cX7_flood 8 = .ok (.iastore, 1) := by decide +kernel
theorem dX7_flood_9 : decode cX7_flood 9 = .ok (.aload_n 0, 1) := by decide +kernel
theorem dX7_flood_10 : decode cX7_flood 10 = .ok (.getfield 44, 3) := by decide +kernel
theorem dX7_flood_13 : decode cX7_flood 13 = .ok (.iload_n 1, 1) := by decide +kernel
theorem dX7_flood_14 : decode cX7_flood 14 = .ok (.iconst 1, 1) := by decide +kernel
theorem dX7_flood_15 : decode cX7_flood 15 = .ok (.bastore, 1) := by decide +kernel
theorem dX7_flood_16 : decode cX7_flood 16 = .ok (.iload_n 2, 1) := by decide +kernel
theorem dX7_flood_17 : decode cX7_flood 17 = .ok (.ifCond .le 144, 3) := by decide +kernel
theorem dX7_flood_20 : decode cX7_flood 20 = .ok (.iinc 2 (-1), 3) := by decide +kernel
theorem dX7_flood_23 : decode cX7_flood 23 = .ok (.aload_n 0, 1) := by decide +kernel
theorem dX7_flood_24 : decode cX7_flood 24 = .ok (.getfield 41, 3) := by decide +kernel
theorem dX7_flood_27 : decode cX7_flood 27 = .ok (.iload_n 2, 1) := by decide +kernel
theorem dX7_flood_28 : decode cX7_flood 28 = .ok (.iaload, 1) := by decide +kernel
theorem dX7_flood_29 : decode cX7_flood 29 = .ok (.istore_n 3, 1) := by decide +kernel
theorem dX7_flood_30 : decode cX7_flood 30 = .ok (.iconst 0, 1) := by decide +kernel
theorem dX7_flood_31 : decode cX7_flood 31 = .ok (.istore 4, 2) := by decide +kernel
theorem dX7_flood_33 : decode cX7_flood 33 = .ok (.iload 4, 2) := by decide +kernel
theorem dX7_flood_35 : decode cX7_flood 35 = .ok (.iconst 4, 1) := by decide +kernel
theorem dX7_flood_36 : decode cX7_flood 36 = .ok (.if_icmp .ge 122, 3) := by decide +kernel
theorem dX7_flood_39 : decode cX7_flood 39 = .ok (.iload_n 3, 1) := by decide +kernel
theorem dX7_flood_40 : decode cX7_flood 40 = .ok (.bipush 20, 2) := by decide +kernel
theorem dX7_flood_42 : decode cX7_flood 42 = .ok (.irem, 1) := by decide +kernel
theorem dX7_flood_43 : decode cX7_flood 43 = .ok (.iload 4, 2) := by decide +kernel
theorem dX7_flood_45 : decode cX7_flood 45 = .ok (.ifCond .ne 7, 3) := by decide +kernel
theorem dX7_flood_48 : decode cX7_flood 48 = .ok (.iconst 1, 1) := by decide +kernel
theorem dX7_flood_49 : decode cX7_flood 49 = .ok (.goto 14, 3) := by decide +kernel
theorem dX7_flood_52 : decode cX7_flood 52 = .ok (.iload 4, 2) := by decide +kernel
theorem dX7_flood_54 : decode cX7_flood 54 = .ok (.iconst 1, 1) := by decide +kernel
theorem dX7_flood_55 : decode cX7_flood 55 = .ok (.if_icmp .ne 7, 3) := by decide +kernel
theorem dX7_flood_58 : decode cX7_flood 58 = .ok (.iconst (-1), 1) := by decide +kernel
theorem dX7_flood_59 : decode cX7_flood 59 = .ok (.goto 4, 3) := by decide +kernel
theorem dX7_flood_62 : decode cX7_flood 62 = .ok (.iconst 0, 1) := by decide +kernel
theorem dX7_flood_63 : decode cX7_flood 63 = .ok (.iadd, 1) := by decide +kernel
theorem dX7_flood_64 : decode cX7_flood 64 = .ok (.istore 5, 2) := by decide +kernel
theorem dX7_flood_66 : decode cX7_flood 66 = .ok (.iload_n 3, 1) := by decide +kernel
theorem dX7_flood_67 : decode cX7_flood 67 = .ok (.bipush 20, 2) := by decide +kernel
theorem dX7_flood_69 : decode cX7_flood 69 = .ok (.idiv, 1) := by decide +kernel
theorem dX7_flood_70 : decode cX7_flood 70 = .ok (.iload 4, 2) := by decide +kernel
theorem dX7_flood_72 : decode cX7_flood 72 = .ok (.iconst 2, 1) := by decide +kernel
theorem dX7_flood_73 : decode cX7_flood 73 = .ok (.if_icmp .ne 7, 3) := by decide +kernel
theorem dX7_flood_76 : decode cX7_flood 76 = .ok (.iconst 1, 1) := by decide +kernel
theorem dX7_flood_77 : decode cX7_flood 77 = .ok (.goto 14, 3) := by decide +kernel
theorem dX7_flood_80 : decode cX7_flood 80 = .ok (.iload 4, 2) := by decide +kernel
theorem dX7_flood_82 : decode cX7_flood 82 = .ok (.iconst 3, 1) := by decide +kernel
theorem dX7_flood_83 : decode cX7_flood 83 = .ok (.if_icmp .ne 7, 3) := by decide +kernel
theorem dX7_flood_86 : decode cX7_flood 86 = .ok (.iconst (-1), 1) := by decide +kernel
theorem dX7_flood_87 : decode cX7_flood 87 = .ok (.goto 4, 3) := by decide +kernel
theorem dX7_flood_90 : decode cX7_flood 90 = .ok (.iconst 0, 1) := by decide +kernel
theorem dX7_flood_91 : decode cX7_flood 91 = .ok (.iadd, 1) := by decide +kernel
theorem dX7_flood_92 : decode cX7_flood 92 = .ok (.istore 6, 2) := by decide +kernel
theorem dX7_flood_94 : decode cX7_flood 94 = .ok (.aload_n 0, 1) := by decide +kernel
theorem dX7_flood_95 : decode cX7_flood 95 = .ok (.iload 5, 2) := by decide +kernel
theorem dX7_flood_97 : decode cX7_flood 97 = .ok (.iload 6, 2) := by decide +kernel
theorem dX7_flood_99 : decode cX7_flood 99 = .ok (.invokevirtual 64, 3) := by decide +kernel
theorem dX7_flood_102 : decode cX7_flood 102 = .ok (.ifCond .eq 50, 3) := by decide +kernel
theorem dX7_flood_105 : decode cX7_flood 105 = .ok (.aload_n 0, 1) := by decide +kernel
theorem dX7_flood_106 : decode cX7_flood 106 = .ok (.getfield 44, 3) := by decide +kernel
theorem dX7_flood_109 : decode cX7_flood 109 = .ok (.bipush 20, 2) := by decide +kernel
theorem dX7_flood_111 : decode cX7_flood 111 = .ok (.iload 6, 2) := by decide +kernel
theorem dX7_flood_113 : decode cX7_flood 113 = .ok (.imul, 1) := by decide +kernel
theorem dX7_flood_114 : decode cX7_flood 114 = .ok (.iload 5, 2) := by decide +kernel
theorem dX7_flood_116 : decode cX7_flood 116 = .ok (.iadd, 1) := by decide +kernel
theorem dX7_flood_117 : decode cX7_flood 117 = .ok (.baload, 1) := by decide +kernel
theorem dX7_flood_118 : decode cX7_flood 118 = .ok (.ifCond .ne 34, 3) := by decide +kernel
theorem dX7_flood_121 : decode cX7_flood 121 = .ok (.aload_n 0, 1) := by decide +kernel
theorem dX7_flood_122 : decode cX7_flood 122 = .ok (.getfield 44, 3) := by decide +kernel
theorem dX7_flood_125 : decode cX7_flood 125 = .ok (.bipush 20, 2) := by decide +kernel
theorem dX7_flood_127 : decode cX7_flood 127 = .ok (.iload 6, 2) := by decide +kernel
theorem dX7_flood_129 : decode cX7_flood 129 = .ok (.imul, 1) := by decide +kernel
theorem dX7_flood_130 : decode cX7_flood 130 = .ok (.iload 5, 2) := by decide +kernel
theorem dX7_flood_132 : decode cX7_flood 132 = .ok (.iadd, 1) := by decide +kernel
theorem dX7_flood_133 : decode cX7_flood 133 = .ok (.iconst 1, 1) := by decide +kernel
theorem dX7_flood_134 : decode cX7_flood 134 = .ok (.bastore, 1) := by decide +kernel
theorem dX7_flood_135 : decode cX7_flood 135 = .ok (.aload_n 0, 1) := by decide +kernel
theorem dX7_flood_136 : decode cX7_flood 136 = .ok (.getfield 41, 3) := by decide +kernel
theorem dX7_flood_139 : decode cX7_flood 139 = .ok (.iload_n 2, 1) := by decide +kernel
theorem dX7_flood_140 : decode cX7_flood 140 = .ok (.bipush 20, 2) := by decide +kernel
theorem dX7_flood_142 : decode cX7_flood 142 = .ok (.iload 6, 2) := by decide +kernel
theorem dX7_flood_144 : decode cX7_flood 144 = .ok (.imul, 1) := by decide +kernel
theorem dX7_flood_145 : decode cX7_flood 145 = .ok (.iload 5, 2) := by decide +kernel
theorem dX7_flood_147 : decode cX7_flood 147 = .ok (.iadd, 1) := by decide +kernel
theorem dX7_flood_148 : decode cX7_flood 148 = .ok (.iastore, 1) := by decide +kernel
theorem dX7_flood_149 : decode cX7_flood 149 = .ok (.iinc 2 1, 3) := by decide +kernel
theorem dX7_flood_152 : decode cX7_flood 152 = .ok (.iinc 4 1, 3) := by decide +kernel
theorem dX7_flood_155 : decode cX7_flood 155 = .ok (.goto (-122), 3) := by decide +kernel
theorem dX7_flood_158 : decode cX7_flood 158 = .ok (.goto (-142), 3) := by decide +kernel
theorem dX7_flood_161 : decode cX7_flood 161 = .ok (.return_, 1) := by decide +kernel
theorem dX7_blank_0 : decode cX7_blank 0 = .ok (.aload_n 0, 1) := by decide +kernel
theorem dX7_blank_1 : decode cX7_blank 1 = .ok (.iconst 0, 1) := by decide +kernel
theorem dX7_blank_2 : decode cX7_blank 2 = .ok (.putfield 57, 3) := by decide +kernel
theorem dX7_blank_5 : decode cX7_blank 5 = .ok (.iconst 0, 1) := by decide +kernel
theorem dX7_blank_6 : decode cX7_blank 6 = .ok (.istore_n 1, 1) := by decide +kernel
theorem dX7_blank_7 : decode cX7_blank 7 = .ok (.iload_n 1, 1) := by decide +kernel
theorem dX7_blank_8 : decode cX7_blank 8 = .ok (.sipush 400, 3) := by decide +kernel
theorem dX7_blank_11 : decode cX7_blank 11 = .ok (.if_icmp .ge 17, 3) := by decide +kernel
theorem dX7_blank_14 : decode cX7_blank 14 = .ok (.aload_n 0, 1) := by decide +kernel
theorem dX7_blank_15 : decode cX7_blank 15 = .ok (.getfield 7, 3) := by decide +kernel
theorem dX7_blank_18 : decode cX7_blank 18 = .ok (.iload_n 1, 1) := by decide +kernel
theorem dX7_blank_19 : decode cX7_blank 19 = .ok (.bipush 100, 2) := by decide +kernel
theorem dX7_blank_21 : decode cX7_blank 21 = .ok (.iastore, 1) := by decide +kernel
theorem dX7_blank_22 : decode cX7_blank 22 = .ok (.iinc 1 1, 3) := by decide +kernel
theorem dX7_blank_25 : decode cX7_blank 25 = .ok (.goto (-18), 3) := by decide +kernel
theorem dX7_blank_28 : decode cX7_blank 28 = .ok (.return_, 1) := by decide +kernel
