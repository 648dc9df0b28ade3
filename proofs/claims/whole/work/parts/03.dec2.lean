theorem dX1_init_0 : decode cX1_init 0 = .ok (.aload_n 0, 1) := by decide +kernel
theorem dX1_init_1 : decode cX1_init 1 = .ok (.invokespecial 3, 3) := by decide +kernel
theorem dX1_init_4 : decode cX1_init 4 = .ok (.aload_n 0, 1) := by decide +kernel
theorem dX1_init_5 : decode cX1_init 5 = .ok (.iconst 0, 1) := by decide +kernel
theorem dX1_init_6 : decode cX1_init 6 = .ok (.putfield 9, 3) := by decide +kernel
theorem dX1_init_9 : decode cX1_init 9 = .ok (.aload_n 0, 1) := by decide +kernel
theorem dX1_init_10 : decode cX1_init 10 = .ok (.invokevirtual 15, 3) := by decide +kernel
theorem dX1_init_13 : decode cX1_init 13 = .ok (.return_, 1) := by decide +kernel
theorem dX1_startAnew_0 : decode cX1_startAnew 0 = .ok (.aload_n 0, 1) := by decide +kernel
theorem dX1_startAnew_1 : decode cX1_startAnew 1 = .ok (.iconst 0, 1) := by decide +kernel
theorem dX1_startAnew_2 : decode cX1_startAnew 2 = .ok (.putfield 18, 3) := by decide +kernel
theorem dX1_startAnew_5 : decode cX1_startAnew 5 = .ok (.aload_n 0, 1) := by decide +kernel
theorem dX1_startAnew_6 : decode cX1_startAnew 6 = .ok (.iconst 0, 1) := by decide +kernel
theorem dX1_startAnew_7 : decode cX1_startAnew 7 = .ok (.putfield 22, 3) := by decide +kernel
theorem dX1_startAnew_10 : decode cX1_startAnew 10 = .ok (.aload_n 0, 1) := by decide +kernel
theorem dX1_startAnew_11 : decode cX1_startAnew 11 = .ok (.iconst 0, 1) := by decide +kernel
theorem dX1_startAnew_12 : decode cX1_startAnew 12 = .ok (.putfield 25, 3) := by decide +kernel
theorem dX1_startAnew_15 : decode cX1_startAnew 15 = .ok (.aload_n 0, 1) := by decide +kernel
theorem dX1_startAnew_16 : decode cX1_startAnew 16 = .ok (.iconst 0, 1) := by decide +kernel
theorem dX1_startAnew_17 : decode cX1_startAnew 17 = .ok (.putfield 28, 3) := by decide +kernel
theorem dX1_startAnew_20 : decode cX1_startAnew 20 = .ok (.aload_n 0, 1) := by decide +kernel
theorem dX1_startAnew_21 : decode cX1_startAnew 21 = .ok (.bipush 100, 2) := by decide +kernel
theorem dX1_startAnew_23 : decode cX1_startAnew 23 = .ok (.putfield 31, 3) := by decide +kernel
theorem dX1_startAnew_26 : decode cX1_startAnew 26 = .ok (.aload_n 0, 1) := by decide +kernel
theorem dX1_startAnew_27 : decode cX1_startAnew 27 = .ok (.iconst 0, 1) := by decide +kernel
theorem dX1_startAnew_28 : decode cX1_startAnew 28 = .ok (.putfield 34, 3) := by decide +kernel
theorem dX1_startAnew_31 : decode cX1_startAnew 31 = .ok (.aload_n 0, 1) := by decide +kernel
theorem dX1_startAnew_32 : decode cX1_startAnew 32 = .ok (.iconst 0, 1) := by decide +kernel
theorem dX1_startAnew_33 : decode cX1_startAnew 33 = .ok (.putfield 37, 3) := by decide +kernel
theorem dX1_startAnew_36 : decode cX1_startAnew 36 = .ok (.return_, 1) := by decide +kernel
theorem dX1_follow_0 : decode cX1_follow 0 = .ok (.aload_n 0, 1) := by decide +kernel
theorem dX1_follow_1 : decode cX1_follow 1 = .ok (.invokevirtual 15, 3) := by decide +kernel
theorem dX1_follow_4 : decode cX1_follow 4 = .ok (.aload_n 0, 1) := by decide +kernel
theorem dX1_follow_5 : decode cX1_follow 5 = .ok (.iconst 1, 1) := by decide +kernel
theorem dX1_follow_6 : decode cX1_follow 6 = .ok (.putfield 9, 3) := by decide +kernel
theorem dX1_follow_9 : decode cX1_follow 9 = .ok (.iconst 0, 1) := by decide +kernel
theorem dX1_follow_10 : decode cX1_follow 10 = .ok (.istore 4, 2) := by decide +kernel
theorem dX1_follow_12 : decode cX1_follow 12 = .ok (.iload 4, 2) := by decide +kernel
theorem dX1_follow_14 : decode cX1_follow 14 = .ok (.aload_n 1, 1) := by decide +kernel
theorem dX1_follow_15 : decode cX1_follow 15 = .ok (.getfield 40, 3) := by decide +kernel
theorem dX1_follow_18 : decode cX1_follow 18 = .ok (.if_icmp .ge 34, 3) := by decide +kernel
theorem dX1_follow_21 : decode cX1_follow 21 = .ok (.aload_n 0, 1) := by decide +kernel
theorem dX1_follow_22 : decode cX1_follow 22 = .ok (.iload 4, 2) := by decide +kernel
theorem dX1_follow_24 : decode cX1_follow 24 = .ok (.putfield 22, 3) := by decide +kernel
theorem dX1_follow_27 : decode cX1_follow 27 = .ok (.aload_n 0, 1) := by decide +kernel
theorem dX1_follow_28 : decode cX1_follow 28 = .ok (.aload_n 1, 1) := by decide +kernel
theorem dX1_follow_29 : decode cX1_follow 29 = .ok (.iload 4, 2) := by decide +kernel
theorem dX1_follow_31 : decode cX1_follow 31 = .ok (.aload_n 2, 1) := by decide +kernel
theorem dX1_follow_32 : decode cX1_follow 32 = .ok (.aload_n 3, 1) := by decide +kernel
theorem dX1_follow_33 : decode cX1_follow 33 = .ok (.invokevirtual 45, 3) := by decide +kernel
theorem dX1_follow_36 : decode cX1_follow 36 = .ok (.istore 5, 2) := by decide +kernel
theorem dX1_follow_38 : decode cX1_follow 38 = .ok (.iload 5, 2) := by decide +kernel
theorem dX1_follow_40 : decode cX1_follow 40 = .ok (.ifCond .eq 6, 3) := by decide +kernel
theorem dX1_follow_43 : decode cX1_follow 43 = .ok (.iload 5, 2) := by decide +kernel
theorem dX1_follow_45 : decode cX1_follow 45 = .ok (.ireturn, 1) := by decide +kernel
theorem dX1_follow_46 : decode cX1_follow 46 = .ok (.iinc 4 1, 3) := by decide +kernel
theorem dX1_follow_49 : decode cX1_follow 49 = .ok (.goto (-37), 3) := by decide +kernel
theorem dX1_follow_52 : decode cX1_follow 52 = .ok (.aload_n 0, 1) := by decide +kernel
theorem dX1_follow_53 : decode cX1_follow 53 = .ok (.aload_n 1, 1) := by decide +kernel
theorem dX1_follow_54 : decode cX1_follow 54 = .ok (.getfield 40, 3) := by decide +kernel
theorem dX1_follow_57 : decode cX1_follow 57 = .ok (.putfield 22, 3) := by decide +kernel
theorem dX1_follow_60 : decode cX1_follow 60 = .ok (.iconst 0, 1) := by decide +kernel
theorem dX1_follow_61 : decode cX1_follow 61 = .ok (.ireturn, 1) := by decide +kernel
theorem dX1_obey_0 : decode cX1_obey 0 = .ok (.aload_n 1, 1) := by decide +kernel
theorem dX1_obey_1 : decode cX1_obey 1 = .ok (.getfield 49, 3) := by decide +kernel
theorem dX1_obey_4 : decode cX1_obey 4 = .ok (.iload_n 2, 1) := by decide +kernel
theorem dX1_obey_5 : decode cX1_obey 5 = .ok (.caload, 1) := by decide +kernel
theorem dX1_obey_6 : decode cX1_obey 6 = .ok (.bipush 84, 2) := by decide +kernel
theorem dX1_obey_8 : decode cX1_obey 8 = .ok (.if_icmp .ne 26, 3) := by decide +kernel
theorem dX1_obey_11 : decode cX1_obey 11 = .ok (.aload_n 0, 1) := by decide +kernel
theorem dX1_obey_12 : decode cX1_obey 12 = .ok (.aload_n 1, 1) := by decide +kernel
theorem dX1_obey_13 : decode cX1_obey 13 = .ok (.getfield 53, 3) := by decide +kernel
theorem dX1_obey_16 : decode cX1_obey 16 = .ok (.iload_n 2, 1) := by decide +kernel
theorem dX1_obey_17 : decode cX1_obey 17 = .ok (.iaload, 1) := by decide +kernel
theorem dX1_obey_18 : decode cX1_obey 18 = .ok (.putfield 37, 3) := by decide +kernel
theorem dX1_obey_21 : decode cX1_obey 21 = .ok (.aload_n 0, 1) := by decide +kernel
theorem dX1_obey_22 : decode cX1_obey 22 = .ok (.dup, 1) := by decide +kernel
theorem dX1_obey_23 : decode cX1_obey 23 = .ok (.getfield 18, 3) := by decide +kernel
theorem dX1_obey_26 : decode cX1_obey 26 = .ok (.bipush 10, 2) := by decide +kernel
theorem dX1_obey_28 : decode cX1_obey 28 = .ok (.iadd, 1) := by decide +kernel
theorem dX1_obey_29 : decode cX1_obey 29 = .ok (.putfield 18, 3) := by decide +kernel
theorem dX1_obey_32 : decode cX1_obey 32 = .ok (.iconst 0, 1) := by decide +kernel
theorem dX1_obey_33 : decode cX1_obey 33 = .ok (.ireturn, 1) := by decide +kernel
theorem dX1_obey_34 : decode cX1_obey 34 = .ok (.aload_n 0, 1) := by decide +kernel
theorem dX1_obey_35 : decode cX1_obey 35 = .ok (.getfield 25, 3) := by decide +kernel
theorem dX1_obey_38 : decode cX1_obey 38 = .ok (.aload_n 1, 1) := by decide +kernel
theorem dX1_obey_39 : decode cX1_obey 39 = .ok (.getfield 57, 3) := by decide +kernel
theorem dX1_obey_42 : decode cX1_obey 42 = .ok (.iload_n 2, 1) := by decide +kernel
theorem dX1_obey_43 : decode cX1_obey 43 = .ok (.iaload, 1) := by decide +kernel
theorem dX1_obey_44 : decode cX1_obey 44 = .ok (.invokestatic 60, 3) := by decide +kernel
theorem dX1_obey_47 : decode cX1_obey 47 = .ok (.istore 5, 2) := by decide +kernel
theorem dX1_obey_49 : decode cX1_obey 49 = .ok (.aload_n 0, 1) := by decide +kernel
theorem dX1_obey_50 : decode cX1_obey 50 = .ok (.getfield 28, 3) := by decide +kernel
theorem dX1_obey_53 : decode cX1_obey 53 = .ok (.aload_n 1, 1) := by decide +kernel
theorem dX1_obey_54 : decode cX1_obey 54 = .ok (.getfield 64, 3) := by decide +kernel
theorem dX1_obey_57 : decode cX1_obey 57 = .ok (.iload_n 2, 1) := by decide +kernel
theorem dX1_obey_58 : decode cX1_obey 58 = .ok (.iaload, 1) := by decide +kernel
theorem dX1_obey_59 : decode cX1_obey 59 = .ok (.invokestatic 60, 3) := by decide +kernel
theorem dX1_obey_62 : decode cX1_obey 62 = .ok (.istore 6, 2) := by decide +kernel
theorem dX1_obey_64 : decode cX1_obey 64 = .ok (.aload_n 0, 1) := by decide +kernel
theorem dX1_obey_65 : decode cX1_obey 65 = .ok (.getfield 31, 3) := by decide +kernel
theorem dX1_obey_68 : decode cX1_obey 68 = .ok (.aload_n 1, 1) := by decide +kernel
theorem dX1_obey_69 : decode cX1_obey 69 = .ok (.getfield 67, 3) := by decide +kernel
theorem dX1_obey_72 : decode cX1_obey 72 = .ok (.iload_n 2, 1) := by decide +kernel
theorem dX1_obey_73 : decode cX1_obey 73 = .ok (.iaload, 1) := by decide +kernel
theorem dX1_obey_74 : decode cX1_obey 74 = .ok (.invokestatic 60, 3) := by decide +kernel
theorem dX1_obey_77 : decode cX1_obey 77 = .ok (.istore 7, 2) := by decide +kernel
theorem dX1_obey_79 : decode cX1_obey 79 = .ok (.aload_n 0, 1) := by decide +kernel
theorem dX1_obey_80 : decode cX1_obey 80 = .ok (.iload 5, 2) := by decide +kernel
theorem dX1_obey_82 : decode cX1_obey 82 = .ok (.iload 6, 2) := by decide +kernel
theorem dX1_obey_84 : decode cX1_obey 84 = .ok (.iload 7, 2) := by decide +kernel
theorem dX1_obey_86 : decode cX1_obey 86 = .ok (.aload_n 1, 1) := by decide +kernel
theorem dX1_obey_87 : decode cX1_obey 87 = .ok (.getfield 53, 3) := by decide +kernel
theorem dX1_obey_90 : decode cX1_obey 90 = .ok (.iload_n 2, 1) := by decide +kernel
theorem dX1_obey_91 : decode cX1_obey 91 = .ok (.iaload, 1) := by decide +kernel
theorem dX1_obey_92 : decode cX1_obey 92 = .ok (.iconst 1, 1) := by decide +kernel
theorem dX1_obey_93 : decode cX1_obey 93 = .ok (.if_icmp .ne 7, 3) := by decide +kernel
theorem dX1_obey_96 : decode cX1_obey 96 = .ok (.iconst 1, 1) := by decide +kernel
theorem dX1_obey_97 : decode cX1_obey 97 = .ok (.goto 4, 3) := by decide +kernel
theorem dX1_obey_100 : decode cX1_obey 100 = .ok (.iconst 0, 1) := by decide +kernel
theorem dX1_obey_101 : decode cX1_obey 101 = .ok (.aload_n 3, 1) := by decide +kernel
theorem dX1_obey_102 : decode cX1_obey 102 = .ok (.aload 4, 2) := by decide +kernel
theorem dX1_obey_104 : decode cX1_obey 104 = .ok (.aload_n 0, 1) := by decide +kernel
theorem dX1_obey_105 : decode cX1_obey 105 = .ok (.getfield 37, 3) := by decide +kernel
theorem dX1_obey_108 : decode cX1_obey 108 = .ok (.aaload, 1) := by decide +kernel
theorem dX1_obey_109 : decode cX1_obey 109 = .ok (.invokevirtual 70, 3) := by decide +kernel
theorem dX1_obey_112 : decode cX1_obey 112 = .ok (.ireturn, 1) := by decide +kernel
theorem dX1_difference_0 : decode cX1_difference 0 = .ok (.iload_n 1, 1) := by decide +kernel
theorem dX1_difference_1 : decode cX1_difference 1 = .ok (.iconst (-1), 1) := by decide +kernel
theorem dX1_difference_2 : decode cX1_difference 2 = .ok (.if_icmp .ne 7, 3) := by decide +kernel
theorem dX1_difference_5 : decode cX1_difference 5 = .ok (.iconst 0, 1) := by decide +kernel
theorem dX1_difference_6 : decode cX1_difference 6 = .ok (.goto 6, 3) := by decide +kernel
theorem dX1_difference_9 : decode cX1_difference 9 = .ok (.iload_n 1, 1) := by decide +kernel
theorem dX1_difference_10 : decode cX1_difference 10 = .ok (.iload_n 0, 1) := by decide +kernel
theorem dX1_difference_11 : decode cX1_difference 11 = .ok (.isub, 1) := by decide +kernel
theorem dX1_difference_12 : decode cX1_difference 12 = .ok (.ireturn, 1) := by decide +kernel
theorem dX1_travel_0 : decode cX1_travel 0 = .ok (.aload_n 0, 1) := by decide +kernel
theorem dX1_travel_1 : decode cX1_travel 1 = .ok (.getfield 25, 3) := by decide +kernel
theorem dX1_travel_4 : decode cX1_travel 4 = .ok (.istore 7, 2) := by decide +kernel
theorem dX1_travel_6 : decode cX1_travel 6 = .ok (.aload_n 0, 1) := by decide +kernel
theorem dX1_travel_7 : decode cX1_travel 7 = .ok (.getfield 28, 3) := by decide +kernel
theorem dX1_travel_10 : decode cX1_travel 10 = .ok (.istore 8, 2) := by decide +kernel
theorem dX1_travel_12 : decode cX1_travel 12 = .ok (.aload_n 0, 1) := by decide +kernel
theorem dX1_travel_13 : decode cX1_travel 13 = .ok (.getfield 31, 3) := by decide +kernel
theorem dX1_travel_16 : decode cX1_travel 16 = .ok (.istore 9, 2) := by decide +kernel
theorem dX1_travel_18 : decode cX1_travel 18 = .ok (.iload_n 1, 1) := by decide +kernel
theorem dX1_travel_19 : decode cX1_travel 19 = .ok (.invokestatic 74, 3) := by decide +kernel
theorem dX1_travel_22 : decode cX1_travel 22 = .ok (.iload_n 2, 1) := by decide +kernel
theorem dX1_travel_23 : decode cX1_travel 23 = .ok (.invokestatic 74, 3) := by decide +kernel
theorem dX1_travel_26 : decode cX1_travel 26 = .ok (.iload_n 3, 1) := by decide +kernel
theorem dX1_travel_27 : decode cX1_travel 27 = .ok (.invokestatic 74, 3) := by decide +kernel
theorem dX1_travel_30 : decode cX1_travel 30 = .ok (.invokestatic 80, 3) := by decide +kernel
theorem dX1_travel_33 : decode cX1_travel 33 = .ok (.invokestatic 80, 3) := by decide +kernel
theorem dX1_travel_36 : decode cX1_travel 36 = .ok (.istore 10, 2) := by decide +kernel
theorem dX1_travel_38 : decode cX1_travel 38 = .ok (.iconst 1, 1) := by decide +kernel
theorem dX1_travel_39 : decode cX1_travel 39 = .ok (.istore 11, 2) := by decide +kernel
theorem dX1_travel_41 : decode cX1_travel 41 = .ok (.iload 11, 2) := by decide +kernel
theorem dX1_travel_43 : decode cX1_travel 43 = .ok (.iload 10, 2) := by decide +kernel
theorem dX1_travel_45 : decode cX1_travel 45 = .ok (.if_icmp .gt 98, 3) := by decide +kernel
theorem dX1_travel_48 : decode cX1_travel 48 = .ok (.aload_n 0, 1) := by decide +kernel
theorem dX1_travel_49 : decode cX1_travel 49 = .ok (.iload 7, 2) := by decide +kernel
theorem dX1_travel_51 : decode cX1_travel 51 = .ok (.iload_n 1, 1) := by decide +kernel
theorem dX1_travel_52 : decode cX1_travel 52 = .ok (.iload 11, 2) := by decide +kernel
theorem dX1_travel_54 : decode cX1_travel 54 = .ok (.iload 10, 2) := by decide +kernel
theorem dX1_travel_56 : decode cX1_travel 56 = .ok (.invokestatic 83, 3) := by decide +kernel
theorem dX1_travel_59 : decode cX1_travel 59 = .ok (.putfield 25, 3) := by decide +kernel
theorem dX1_travel_62 : decode cX1_travel 62 = .ok (.aload_n 0, 1) := by decide +kernel
theorem dX1_travel_63 : decode cX1_travel 63 = .ok (.iload 8, 2) := by decide +kernel
theorem dX1_travel_65 : decode cX1_travel 65 = .ok (.iload_n 2, 1) := by decide +kernel
theorem dX1_travel_66 : decode cX1_travel 66 = .ok (.iload 11, 2) := by decide +kernel
theorem dX1_travel_68 : decode cX1_travel 68 = .ok (.iload 10, 2) := by decide +kernel
theorem dX1_travel_70 : decode cX1_travel 70 = .ok (.invokestatic 83, 3) := by decide +kernel
theorem dX1_travel_73 : decode cX1_travel 73 = .ok (.putfield 28, 3) := by decide +kernel
theorem dX1_travel_76 : decode cX1_travel 76 = .ok (.aload_n 0, 1) := by decide +kernel
theorem dX1_travel_77 : decode cX1_travel 77 = .ok (.iload 9, 2) := by decide +kernel
theorem dX1_travel_79 : decode cX1_travel 79 = .ok (.iload_n 3, 1) := by decide +kernel
theorem dX1_travel_80 : decode cX1_travel 80 = .ok (.iload 11, 2) := by decide +kernel
theorem dX1_travel_82 : decode cX1_travel 82 = .ok (.iload 10, 2) := by decide +kernel
theorem dX1_travel_84 : decode cX1_travel 84 = .ok (.invokestatic 83, 3) := by decide +kernel
theorem dX1_travel_87 : decode cX1_travel 87 = .ok (.putfield 31, 3) := by decide +kernel
theorem dX1_travel_90 : decode cX1_travel 90 = .ok (.aload 5, 2) := by decide +kernel
theorem dX1_travel_92 : decode cX1_travel 92 = .ok (.aload 6, 2) := by decide +kernel
theorem dX1_travel_94 : decode cX1_travel 94 = .ok (.aload_n 0, 1) := by decide +kernel
theorem dX1_travel_95 : decode cX1_travel 95 = .ok (.getfield 25, 3) := by decide +kernel
theorem dX1_travel_98 : decode cX1_travel 98 = .ok (.aload_n 0, 1) := by decide +kernel
theorem dX1_travel_99 : decode cX1_travel 99 = .ok (.getfield 28, 3) := by decide +kernel
theorem dX1_travel_102 : decode cX1_travel 102 = .ok (.invokevirtual 87, 3) := by decide +kernel
theorem dX1_travel_105 : decode cX1_travel 105 = .ok (.iload 4, 2) := by decide +kernel
theorem dX1_travel_107 : decode cX1_travel 107 = .ok (.ifCond .eq 14, 3) := by decide +kernel
theorem dX1_travel_110 : decode cX1_travel 110 = .ok (.aload_n 0, 1) := by decide +kernel
theorem dX1_travel_111 : decode cX1_travel 111 = .ok (.aload 5, 2) := by decide +kernel
theorem dX1_travel_113 : decode cX1_travel 113 = .ok (.aload 6, 2) := by decide +kernel
theorem dX1_travel_115 : decode cX1_travel 115 = .ok (.invokevirtual 93, 3) := by decide +kernel
theorem dX1_travel_118 : decode cX1_travel 118 = .ok (.goto 9, 3) := by decide +kernel
theorem dX1_travel_121 : decode cX1_travel 121 = .ok (.aload_n 0, 1) := by decide +kernel
theorem dX1_travel_122 : decode cX1_travel 122 = .ok (.aload 5, 2) := by decide +kernel
theorem dX1_travel_124 : decode cX1_travel 124 = .ok (.invokevirtual 97, 3) := by decide +kernel
theorem dX1_travel_127 : decode cX1_travel 127 = .ok (.istore 12, 2) := by decide +kernel
theorem dX1_travel_129 : decode cX1_travel 129 = .ok (.iload 12, 2) := by decide +kernel
theorem dX1_travel_131 : decode cX1_travel 131 = .ok (.ifCond .eq 6, 3) := by decide +kernel
theorem dX1_travel_134 : decode cX1_travel 134 = .ok (.iload 12, 2) := by decide +kernel
theorem dX1_travel_136 : decode cX1_travel 136 = .ok (.ireturn, 1) := by decide +kernel
theorem dX1_travel_137 : decode cX1_travel 137 = .ok (.iinc 11 1, 3) := by decide +kernel
theorem dX1_travel_140 : decode cX1_travel 140 = .ok (.goto (-99), 3) := by decide +kernel
theorem dX1_travel_143 : decode cX1_travel 143 = .ok (.iconst 0, 1) := by decide +kernel
theorem dX1_travel_144 : decode cX1_travel 144 = .ok (.ireturn, 1) := by decide +kernel
theorem dX1_along_0 : decode cX1_along 0 = .ok (.iload_n 3, 1) := by decide +kernel
theorem dX1_along_1 : decode cX1_along 1 = .ok (.ifCond .le 21, 3) := by decide +kernel
theorem dX1_along_4 : decode cX1_along 4 = .ok (.iload_n 0, 1) := by decide +kernel
theorem dX1_along_5 : decode cX1_along 5 = .ok (.iconst 2, 1) := by decide +kernel
theorem dX1_along_6 : decode cX1_along 6 = .ok (.iload_n 1, 1) := by decide +kernel
theorem dX1_along_7 : decode cX1_along 7 = .ok (.imul, 1) := by decide +kernel
theorem dX1_along_8 : decode cX1_along 8 = .ok (.iload_n 2, 1) := by decide +kernel
theorem dX1_along_9 : decode cX1_along 9 = .ok (.imul, 1) := by decide +kernel
theorem dX1_along_10 : decode cX1_along 10 = .ok (.iload_n 3, 1) := by decide +kernel
theorem dX1_along_11 : decode cX1_along 11 = .ok (.iadd, 1) := by decide +kernel
theorem dX1_along_12 : decode cX1_along 12 = .ok (.iconst 2, 1) := by decide +kernel
theorem dX1_along_13 : decode cX1_along 13 = .ok (.iload_n 3, 1) := by decide +kernel
theorem dX1_along_14 : decode cX1_along 14 = .ok (.imul, 1) := by decide +kernel
theorem dX1_along_15 : decode cX1_along 15 = .ok (.invokestatic 101, 3) := by decide +kernel
theorem dX1_along_18 : decode cX1_along 18 = .ok (.iadd, 1) := by decide +kernel
theorem dX1_along_19 : decode cX1_along 19 = .ok (.goto 4, 3) := by decide +kernel
theorem dX1_along_22 : decode cX1_along 22 = .ok (.iload_n 0, 1) := by decide +kernel
theorem dX1_along_23 : decode cX1_along 23 = .ok (.ireturn, 1) := by decide +kernel
theorem dX1_cutHere_0 : decode cX1_cutHere 0 = .ok (.aload_n 1, 1) := by decide +kernel
theorem dX1_cutHere_1 : decode cX1_cutHere 1 = .ok (.aload_n 0, 1) := by decide +kernel
theorem dX1_cutHere_2 : decode cX1_cutHere 2 = .ok (.getfield 31, 3) := by decide +kernel
theorem dX1_cutHere_5 : decode cX1_cutHere 5 = .ok (.invokevirtual 104, 3) := by decide +kernel
theorem dX1_cutHere_8 : decode cX1_cutHere 8 = .ok (.ifCond .eq 5, 3) := by decide +kernel
theorem dX1_cutHere_11 : decode cX1_cutHere 11 = .ok (.iconst 2, 1) := by decide +kernel
theorem dX1_cutHere_12 : decode cX1_cutHere 12 = .ok (.ireturn, 1) := by decide +kernel
theorem dX1_cutHere_13 : decode cX1_cutHere 13 = .ok (.aload_n 0, 1) := by decide +kernel
theorem dX1_cutHere_14 : decode cX1_cutHere 14 = .ok (.dup, 1) := by decide +kernel
theorem dX1_cutHere_15 : decode cX1_cutHere 15 = .ok (.getfield 34, 3) := by decide +kernel
theorem dX1_cutHere_18 : decode cX1_cutHere 18 = .ok (.aload_n 1, 1) := by decide +kernel
theorem dX1_cutHere_19 : decode cX1_cutHere 19 = .ok (.aload_n 0, 1) := by decide +kernel
theorem dX1_cutHere_20 : decode cX1_cutHere 20 = .ok (.getfield 31, 3) := by decide +kernel
theorem dX1_cutHere_23 : decode cX1_cutHere 23 = .ok (.invokevirtual 108, 3) := by decide +kernel
theorem dX1_cutHere_26 : decode cX1_cutHere 26 = .ok (.iadd, 1) := by decide +kernel
theorem dX1_cutHere_27 : decode cX1_cutHere 27 = .ok (.putfield 34, 3) := by decide +kernel
theorem dX1_cutHere_30 : decode cX1_cutHere 30 = .ok (.aload_n 0, 1) := by decide +kernel
theorem dX1_cutHere_31 : decode cX1_cutHere 31 = .ok (.dup, 1) := by decide +kernel
theorem dX1_cutHere_32 : decode cX1_cutHere 32 = .ok (.getfield 18, 3) := by decide +kernel
theorem dX1_cutHere_35 : decode cX1_cutHere 35 = .ok (.aload_n 2, 1) := by decide +kernel
theorem dX1_cutHere_36 : decode cX1_cutHere 36 = .ok (.getfield 111, 3) := by decide +kernel
theorem dX1_cutHere_39 : decode cX1_cutHere 39 = .ok (.iadd, 1) := by decide +kernel
theorem dX1_cutHere_40 : decode cX1_cutHere 40 = .ok (.putfield 18, 3) := by decide +kernel
theorem dX1_cutHere_43 : decode cX1_cutHere 43 = .ok (.iconst 0, 1) := by decide +kernel
theorem dX1_cutHere_44 : decode cX1_cutHere 44 = .ok (.ireturn, 1) := by decide +kernel
theorem dX1_passHere_0 : decode cX1_passHere 0 = .ok (.aload_n 1, 1) := by decide +kernel
theorem dX1_passHere_1 : decode cX1_passHere 1 = .ok (.aload_n 0, 1) := by decide +kernel
theorem dX1_passHere_2 : decode cX1_passHere 2 = .ok (.getfield 31, 3) := by decide +kernel
theorem dX1_passHere_5 : decode cX1_passHere 5 = .ok (.invokevirtual 116, 3) := by decide +kernel
theorem dX1_passHere_8 : decode cX1_passHere 8 = .ok (.ifCond .eq 5, 3) := by decide +kernel
theorem dX1_passHere_11 : decode cX1_passHere 11 = .ok (.iconst 1, 1) := by decide +kernel
theorem dX1_passHere_12 : decode cX1_passHere 12 = .ok (.ireturn, 1) := by decide +kernel
theorem dX1_passHere_13 : decode cX1_passHere 13 = .ok (.aload_n 0, 1) := by decide +kernel
theorem dX1_passHere_14 : decode cX1_passHere 14 = .ok (.dup, 1) := by decide +kernel
theorem dX1_passHere_15 : decode cX1_passHere 15 = .ok (.getfield 18, 3) := by decide +kernel
theorem dX1_passHere_18 : decode cX1_passHere 18 = .ok (.iconst 1, 1) := by decide +kernel
theorem dX1_passHere_19 : decode cX1_passHere 19 = .ok (.iadd, 1) := by decide +kernel
theorem dX1_passHere_20 : decode cX1_passHere 20 = .ok (.putfield 18, 3) := by decide +kernel
theorem dX1_passHere_23 : decode cX1_passHere 23 = .ok (.iconst 0, 1) := by decide +kernel
theorem dX1_passHere_24 : decode cX1_passHere 24 = .ok (.ireturn, 1) := by decide +kernel
theorem dX2_init_0 : decode cX2_init 0 = .ok (.aload_n 0, 1) := by decide +kernel
theorem dX2_init_1 : decode cX2_init 1 = .ok (.invokespecial 1, 3) := by decide +kernel
theorem dX2_init_4 : decode cX2_init 4 = .ok (.aload_n 0, 1) := by decide +kernel
theorem dX2_init_5 : decode cX2_init 5 = .ok (.iload_n 1, 1) := by decide +kernel
theorem dX2_init_6 : decode cX2_init 6 = .ok (.putfield 7, 3) := by decide +kernel
theorem dX2_init_9 : decode cX2_init 9 = .ok (.aload_n 0, 1) := by decide +kernel
theorem dX2_init_10 : decode cX2_init 10 = .ok (.iload_n 1, 1) := by decide +kernel
theorem dX2_init_11 : decode cX2_init 11 = .ok (.iload_n 1, 1) := by decide +kernel
theorem dX2_init_12 : decode cX2_init 12 = .ok (.imul, 1) := by decide +kernel
theorem dX2_init_13 : decode cX2_init 13 = .ok (.putfield 13, 3) := by decide +kernel
theorem dX2_init_16 : decode cX2_init 16 = .ok (.aload_n 0, 1) := by decide +kernel
theorem dX2_init_17 : decode cX2_init 17 = .ok (.aload_n 0, 1) := by decide +kernel
theorem dX2_init_18 : decode cX2_init 18 = .ok (.getfield 13, 3) := by decide +kernel
theorem dX2_init_21 : decode cX2_init 21 = .ok (.newarray .boolean, 2) := by decide +kernel
theorem dX2_init_23 : decode cX2_init 23 = .ok (.putfield 16, 3) := by decide +kernel
theorem dX2_init_26 : decode cX2_init 26 = .ok (.aload_n 0, 1) := by decide +kernel
theorem dX2_init_27 : decode cX2_init 27 = .ok (.aload_n 0, 1) := by decide +kernel
theorem dX2_init_28 : decode cX2_init 28 = .ok (.getfield 13, 3) := by decide +kernel
theorem dX2_init_31 : decode cX2_init 31 = .ok (.newarray .int, 2) := by decide +kernel
theorem dX2_init_33 : decode cX2_init 33 = .ok (.putfield 20, 3) := by decide +kernel
theorem dX2_init_36 : decode cX2_init 36 = .ok (.aload_n 0, 1) := by decide +kernel
theorem dX2_init_37 : decode cX2_init 37 = .ok (.aload_n 0, 1) := by decide +kernel
theorem dX2_init_38 : decode cX2_init 38 = .ok (.getfield 13, 3) := by decide +kernel
theorem dX2_init_41 : decode cX2_init 41 = .ok (.newarray .int, 2) := by decide +kernel
theorem dX2_init_43 : decode cX2_init 43 = .ok (.putfield 24, 3) := by decide +kernel
theorem dX2_init_46 : decode cX2_init 46 = .ok (.aload_n 0, 1) := by decide +kernel
theorem dX2_init_47 : decode cX2_init 47 = .ok (.iconst 0, 1) := by decide +kernel
theorem dX2_init_48 : decode cX2_init 48 = .ok (.putfield 27, 3) := by decide +kernel
theorem dX2_init_51 : decode cX2_init 51 = .ok (.return_, 1) := by decide +kernel
theorem dX2_count_0 : decode cX2_count 0 = .ok (.iconst 0, 1) := by decide +kernel
theorem dX2_count_1 : decode cX2_count 1 = .ok (.istore_n 2, 1) := by decide +kernel
theorem dX2_count_2 : decode cX2_count 2 = .ok (.iload_n 2, 1) := by decide +kernel
theorem dX2_count_3 : decode cX2_count 3 = .ok (.aload_n 0, 1) := by decide +kernel
theorem dX2_count_4 : decode cX2_count 4 = .ok (.getfield 13, 3) := by decide +kernel
theorem dX2_count_7 : decode cX2_count 7 = .ok (.if_icmp .ge 16, 3) := by decide +kernel
theorem dX2_count_10 : decode cX2_count 10 = .ok (.aload_n 0, 1) := by decide +kernel
theorem dX2_count_11 : decode cX2_count 11 = .ok (.getfield 16, 3) := by decide +kernel
theorem dX2_count_14 : decode cX2_count 14 = .ok (.iload_n 2, 1) := by decide +kernel
theorem dX2_count_15 : decode cX2_count 15 = .ok (.iconst 0, 1) := by decide +kernel
theorem dX2_count_16 : decode cX2_count 16 = .ok (.bastore, 1) := by decide +kernel
theorem dX2_count_17 : decode cX2_count 17 = .ok (.iinc 2 1, 3) := by decide +kernel
theorem dX2_count_20 : decode cX2_count 20 = .ok (.goto (-18), 3) := by decide +kernel
theorem dX2_count_23 : decode cX2_count 23 = .ok (.aload_n 0, 1) := by decide +kernel
theorem dX2_count_24 : decode cX2_count 24 = .ok (.iconst 0, 1) := by decide +kernel
theorem dX2_count_25 : decode cX2_count 25 = .ok (.putfield 27, 3) := by decide +kernel
theorem dX2_count_28 : decode cX2_count 28 = .ok (.iconst 0, 1) := by decide +kernel
theorem dX2_count_29 : decode cX2_count 29 = .ok (.istore_n 2, 1) := by decide +kernel
theorem dX2_count_30 : decode cX2_count 30 = .ok (.iconst 0, 1) := by decide +kernel
theorem dX2_count_31 : decode cX2_count 31 = .ok (.istore_n 3, 1) := by decide +kernel
theorem dX2_count_32 : decode cX2_count 32 = .ok (.iload_n 3, 1) := by decide +kernel
theorem dX2_count_33 : decode cX2_count 33 = .ok (.aload_n 0, 1) := by decide +kernel
theorem dX2_count_34 : decode cX2_count 34 = .ok (.getfield 7, 3) := by decide +kernel
theorem dX2_count_37 : decode cX2_count 37 = .ok (.if_icmp .ge 60, 3) := by decide +kernel
theorem dX2_count_40 : decode cX2_count 40 = .ok (.iconst 0, 1) := by decide +kernel
theorem dX2_count_41 : decode cX2_count 41 = .ok (.istore 4, 2) := by decide +kernel
theorem dX2_count_43 : decode cX2_count 43 = .ok (.iload 4, 2) := by decide +kernel
theorem dX2_count_45 : decode cX2_count 45 = .ok (.aload_n 0, 1) := by decide +kernel
theorem dX2_count_46 : decode cX2_count 46 = .ok (.getfield 7, 3) := by decide +kernel
theorem dX2_count_49 : decode cX2_count 49 = .ok (.if_icmp .ge 42, 3) := by decide +kernel
theorem dX2_count_52 : decode cX2_count 52 = .ok (.aload_n 0, 1) := by decide +kernel
theorem dX2_count_53 : decode cX2_count 53 = .ok (.getfield 27, 3) := by decide +kernel
theorem dX2_count_56 : decode cX2_count 56 = .ok (.istore 5, 2) := by decide +kernel
theorem dX2_count_58 : decode cX2_count 58 = .ok (.aload_n 0, 1) := by decide +kernel
theorem dX2_count_59 : decode cX2_count 59 = .ok (.aload_n 1, 1) := by decide +kernel
theorem dX2_count_60 : decode cX2_count 60 = .ok (.iload 4, 2) := by decide +kernel
theorem dX2_count_62 : decode cX2_count 62 = .ok (.iload_n 3, 1) := by decide +kernel
theorem dX2_count_63 : decode cX2_count 63 = .ok (.invokevirtual 30, 3) := by decide +kernel
theorem dX2_count_66 : decode cX2_count 66 = .ok (.aload_n 0, 1) := by decide +kernel
theorem dX2_count_67 : decode cX2_count 67 = .ok (.getfield 27, 3) := by decide +kernel
theorem dX2_count_70 : decode cX2_count 70 = .ok (.iload 5, 2) := by decide +kernel
theorem dX2_count_72 : decode cX2_count 72 = .ok (.if_icmp .le 13, 3) := by decide +kernel
theorem dX2_count_75 : decode cX2_count 75 = .ok (.iinc 2 1, 3) := by decide +kernel
theorem dX2_count_78 : decode cX2_count 78 = .ok (.aload_n 0, 1) := by decide +kernel
theorem dX2_count_79 : decode cX2_count 79 = .ok (.aload_n 1, 1) := by decide +kernel
theorem dX2_count_80 : decode cX2_count 80 = .ok (.iload 5, 2) := by decide +kernel
theorem dX2_count_82 : decode cX2_count 82 = .ok (.invokevirtual 34, 3) := by decide +kernel
theorem dX2_count_85 : decode cX2_count 85 = .ok (.iinc 4 1, 3) := by decide +kernel
theorem dX2_count_88 : decode cX2_count 88 = .ok (.goto (-45), 3) := by decide +kernel
theorem dX2_count_91 : decode cX2_count 91 = .ok (.iinc 3 1, 3) := by decide +kernel
theorem dX2_count_94 : decode cX2_count 94 = .ok (.goto (-62), 3) := by decide +kernel
theorem dX2_count_97 : decode cX2_count 97 = .ok (.iload_n 2, 1) := by decide +kernel
theorem dX2_count_98 : decode cX2_count 98 = .ok (.ireturn, 1) := by decide +kernel
theorem dX2_spread_0 : decode cX2_spread 0 = .ok (.iload_n 2, 1) := by decide +kernel
theorem dX2_spread_1 : decode cX2_spread 1 = .ok (.istore_n 3, 1) := by decide +kernel
theorem dX2_spread_2 : decode cX2_spread 2 = .ok (.iload_n 3, 1) := by decide +kernel
theorem dX2_spread_3 : decode cX2_spread 3 = .ok (.aload_n 0, 1) := by decide +kernel
theorem dX2_spread_4 : decode cX2_spread 4 = .ok (.getfield 27, 3) := by decide +kernel
theorem dX2_spread_7 : decode cX2_spread 7 = .ok (.if_icmp .ge 77, 3) := by decide +kernel
theorem dX2_spread_10 : decode cX2_spread 10 = .ok (.iload_n 3, 1) := by decide +kernel
theorem dX2_spread_11 : decode cX2_spread 11 = .ok (.aload_n 0, 1) := by decide +kernel
theorem dX2_spread_12 : decode cX2_spread 12 = .ok (.getfield 13, 3) := by decide +kernel
theorem dX2_spread_15 : decode cX2_spread 15 = .ok (.if_icmp .ge 69, 3) := by decide +kernel
theorem dX2_spread_18 : decode cX2_spread 18 = .ok (.aload_n 0, 1) := by decide +kernel
theorem dX2_spread_19 : decode cX2_spread 19 = .ok (.getfield 20, 3) := by decide +kernel
theorem dX2_spread_22 : decode cX2_spread 22 = .ok (.iload_n 3, 1) := by decide +kernel
theorem dX2_spread_23 : decode cX2_spread 23 = .ok (.iaload, 1) := by decide +kernel
theorem dX2_spread_24 : decode cX2_spread 24 = .ok (.istore 4, 2) := by decide +kernel
theorem dX2_spread_26 : decode cX2_spread 26 = .ok (.aload_n 0, 1) := by decide +kernel
theorem dX2_spread_27 : decode cX2_spread 27 = .ok (.getfield 24, 3) := by decide +kernel
theorem dX2_spread_30 : decode cX2_spread 30 = .ok (.iload_n 3, 1) := by decide +kernel
theorem dX2_spread_31 : decode cX2_spread 31 = .ok (.iaload, 1) := by decide +kernel
theorem dX2_spread_32 : decode cX2_spread 32 = .ok (.istore 5, 2) := by decide +kernel
theorem dX2_spread_34 : decode cX2_spread 34 = .ok (.aload_n 0, 1) := by decide +kernel
theorem dX2_spread_35 : decode cX2_spread 35 = .ok (.aload_n 1, 1) := by decide +kernel
theorem dX2_spread_36 : decode cX2_spread 36 = .ok (.iload 4, 2) := by decide +kernel
theorem dX2_spread_38 : decode cX2_spread 38 = .ok (.iconst 1, 1) := by decide +kernel
theorem dX2_spread_39 : decode cX2_spread 39 = .ok (.isub, 1) := by decide +kernel
theorem dX2_spread_40 : decode cX2_spread 40 = .ok (.iload 5, 2) := by decide +kernel
theorem dX2_spread_42 : decode cX2_spread 42 = .ok (.invokevirtual 30, 3) := by decide +kernel
theorem dX2_spread_45 : decode cX2_spread 45 = .ok (.aload_n 0, 1) := by decide +kernel
theorem dX2_spread_46 : decode cX2_spread 46 = .ok (.aload_n 1, 1) := by decide +kernel
theorem dX2_spread_47 : decode cX2_spread 47 = .ok (.iload 4, 2) := by decide +kernel
theorem dX2_spread_49 : decode cX2_spread 49 = .ok (.iconst 1, 1) := by decide +kernel
theorem dX2_spread_50 : decode cX2_spread 50 = .ok (.iadd, 1) := by decide +kernel
theorem dX2_spread_51 : decode cX2_spread 51 = .ok (.iload 5, 2) := by decide +kernel
theorem dX2_spread_53 : decode cX2_spread 53 = .ok (.invokevirtual 30, 3) := by decide +kernel
theorem dX2_spread_56 : decode cX2_spread 56 = .ok (.aload_n 0, 1) := by decide +kernel
theorem dX2_spread_57 : decode cX2_spread 57 = .ok (.aload_n 1, 1) := by decide +kernel
theorem dX2_spread_58 : decode cX2_spread 58 = .ok (.iload 4, 2) := by decide +kernel
theorem dX2_spread_60 : decode cX2_spread 60 = .ok (.iload 5, 2) := by decide +kernel
theorem dX2_spread_62 : decode cX2_spread 62 = .ok (.iconst 1, 1) := by decide +kernel
theorem dX2_spread_63 : decode cX2_spread 63 = .ok (.isub, 1) := by decide +kernel
theorem dX2_spread_64 : decode cX2_spread 64 = .ok (.invokevirtual 30, 3) := by decide +kernel
theorem dX2_spread_67 : decode cX2_spread 67 = .ok (.aload_n 0, 1) := by decide +kernel
theorem dX2_spread_68 : decode cX2_spread 68 = .ok (.aload_n 1, 1) := by decide +kernel
theorem dX2_spread_69 : decode cX2_spread 69 = .ok (.iload 4, 2) := by decide +kernel
theorem dX2_spread_71 : decode cX2_spread 71 = .ok (.iload 5, 2) := by decide +kernel
theorem dX2_spread_73 : decode cX2_spread 73 = .ok (.iconst 1, 1) := by decide +kernel
theorem dX2_spread_74 : decode cX2_spread 74 = .ok (.iadd, 1) := by decide +kernel
theorem dX2_spread_75 : decode cX2_spread 75 = .ok (.invokevirtual 30, 3) := by decide +kernel
theorem dX2_spread_78 : decode cX2_spread 78 = .ok (.iinc 3 1, 3) := by decide +kernel
theorem dX2_spread_81 : decode cX2_spread 81 = .ok (.goto (-79), 3) := by decide +kernel
theorem dX2_spread_84 : decode cX2_spread 84 = .ok (.return_, 1) := by decide +kernel
theorem dX2_take_0 : decode cX2_take 0 = .ok (.aload_n 1, 1) := by decide +kernel
theorem dX2_take_1 : decode cX2_take 1 = .ok (.iload_n 2, 1) := by decide +kernel
theorem dX2_take_2 : decode cX2_take 2 = .ok (.iload_n 3, 1) := by decide +kernel
theorem dX2_take_3 : decode cX2_take 3 = .ok (.invokevirtual 38, 3) := by decide +kernel
theorem dX2_take_6 : decode cX2_take 6 = .ok (.ifCond .eq 14, 3) := by decide +kernel
theorem dX2_take_9 : decode cX2_take 9 = .ok (.aload_n 0, 1) := by decide +kernel
theorem dX2_take_10 : decode cX2_take 10 = .ok (.getfield 27, 3) := by decide +kernel
theorem dX2_take_13 : decode cX2_take 13 = .ok (.aload_n 0, 1) := by decide +kernel
theorem dX2_take_14 : decode cX2_take 14 = .ok (.getfield 13, 3) := by decide +kernel
theorem dX2_take_17 : decode cX2_take 17 = .ok (.if_icmp .lt 4, 3) := by decide +kernel
theorem dX2_take_20 : decode cX2_take 20 = .ok (.return_, 1) := by decide +kernel
theorem dX2_take_21 : decode cX2_take 21 = .ok (.aload_n 1, 1) := by decide +kernel
theorem dX2_take_22 : decode cX2_take 22 = .ok (.iload_n 2, 1) := by decide +kernel
theorem dX2_take_23 : decode cX2_take 23 = .ok (.iload_n 3, 1) := by decide +kernel
theorem dX2_take_24 : decode cX2_take 24 = .ok (.invokevirtual 44, 3) := by decide +kernel
theorem dX2_take_27 : decode cX2_take 27 = .ok (.istore 4, 2) := by decide +kernel
theorem dX2_take_29 : decode cX2_take 29 = .ok (.aload_n 0, 1) := by decide +kernel
theorem dX2_take_30 : decode cX2_take 30 = .ok (.getfield 16, 3) := by decide +kernel
theorem dX2_take_33 : decode cX2_take 33 = .ok (.iload 4, 2) := by decide +kernel
theorem dX2_take_35 : decode cX2_take 35 = .ok (.baload, 1) := by decide +kernel
theorem dX2_take_36 : decode cX2_take 36 = .ok (.ifCond .ne 51, 3) := by decide +kernel
theorem dX2_take_39 : decode cX2_take 39 = .ok (.aload_n 1, 1) := by decide +kernel
theorem dX2_take_40 : decode cX2_take 40 = .ok (.getfield 48, 3) := by decide +kernel
theorem dX2_take_43 : decode cX2_take 43 = .ok (.iload 4, 2) := by decide +kernel
theorem dX2_take_45 : decode cX2_take 45 = .ok (.iaload, 1) := by decide +kernel
theorem dX2_take_46 : decode cX2_take 46 = .ok (.ifCond .le 41, 3) := by decide +kernel
theorem dX2_take_49 : decode cX2_take 49 = .ok (.aload_n 0, 1) := by decide +kernel
theorem dX2_take_50 : decode cX2_take 50 = .ok (.getfield 16, 3) := by decide +kernel
theorem dX2_take_53 : decode cX2_take 53 = .ok (.iload 4, 2) := by decide +kernel
theorem dX2_take_55 : decode cX2_take 55 = .ok (.iconst 1, 1) := by decide +kernel
theorem dX2_take_56 : decode cX2_take 56 = .ok (.bastore, 1) := by decide +kernel
theorem dX2_take_57 : decode cX2_take 57 = .ok (.aload_n 0, 1) := by decide +kernel
theorem dX2_take_58 : decode cX2_take 58 = .ok (.getfield 20, 3) := by decide +kernel
theorem dX2_take_61 : decode cX2_take 61 = .ok (.aload_n 0, 1) := by decide +kernel
theorem dX2_take_62 : decode cX2_take 62 = .ok (.getfield 27, 3) := by decide +kernel
theorem dX2_take_65 : decode cX2_take 65 = .ok (.iload_n 2, 1) := by decide +kernel
theorem dX2_take_66 : decode cX2_take 66 = .ok (.iastore, 1) := by decide +kernel
theorem dX2_take_67 : decode cX2_take 67 = .ok (.aload_n 0, 1) := by decide +kernel
theorem dX2_take_68 : decode cX2_take 68 = .ok (.getfield 24, 3) := by decide +kernel
theorem dX2_take_71 : decode cX2_take 71 = .ok (.aload_n 0, 1) := by decide +kernel
theorem dX2_take_72 : decode cX2_take 72 = .ok (.getfield 27, 3) := by decide +kernel
theorem dX2_take_75 : decode cX2_take 75 = .ok (.iload_n 3, 1) := by decide +kernel
theorem dX2_take_76 : decode cX2_take 76 = .ok (.iastore, 1) := by decide +kernel
theorem dX2_take_77 : decode cX2_take 77 = .ok (.aload_n 0, 1) := by decide +kernel
theorem dX2_take_78 : decode cX2_take 78 = .ok (.dup, 1) := by decide +kernel
theorem dX2_take_79 : decode cX2_take 79 = .ok (.getfield 27, 3) := by decide +kernel
theorem dX2_take_82 : decode cX2_take 82 = .ok (.iconst 1, 1) := by decide +kernel
theorem dX2_take_83 : decode cX2_take 83 = .ok (.iadd, 1) := by decide +kernel
theorem dX2_take_84 : decode cX2_take 84 = .ok (.putfield 27, 3) := by decide +kernel
theorem dX2_take_87 : decode cX2_take 87 = .ok (.return_, 1) := by decide +kernel
theorem dX3_init_0 : decode cX3_init 0 = .ok (.aload_n 0, 1) := by decide +kernel
theorem dX3_init_1 : decode cX3_init 1 = .ok (.invokespecial 3, 3) := by decide +kernel
theorem dX3_init_4 : decode cX3_init 4 = .ok (.aload_n 0, 1) := by decide +kernel
theorem dX3_init_5 : decode cX3_init 5 = .ok (.iconst 0, 1) := by decide +kernel
theorem dX3_init_6 : decode cX3_init 6 = .ok (.putfield 9, 3) := by decide +kernel
theorem dX3_init_9 : decode cX3_init 9 = .ok (.aload_n 0, 1) := by decide +kernel
theorem dX3_init_10 : decode cX3_init 10 = .ok (.bipush 32, 2) := by decide +kernel
theorem dX3_init_12 : decode cX3_init 12 = .ok (.newarray .char, 2) := by decide +kernel
theorem dX3_init_14 : decode cX3_init 14 = .ok (.putfield 15, 3) := by decide +kernel
theorem dX3_init_17 : decode cX3_init 17 = .ok (.aload_n 0, 1) := by decide +kernel
theorem dX3_init_18 : decode cX3_init 18 = .ok (.bipush 32, 2) := by decide +kernel
theorem dX3_init_20 : decode cX3_init 20 = .ok (.newarray .int, 2) := by decide +kernel
theorem dX3_init_22 : decode cX3_init 22 = .ok (.putfield 19, 3) := by decide +kernel
theorem dX3_init_25 : decode cX3_init 25 = .ok (.aload_n 0, 1) := by decide +kernel
theorem dX3_init_26 : decode cX3_init 26 = .ok (.bipush 32, 2) := by decide +kernel
theorem dX3_init_28 : decode cX3_init 28 = .ok (.newarray .int, 2) := by decide +kernel
theorem dX3_init_30 : decode cX3_init 30 = .ok (.putfield 23, 3) := by decide +kernel
theorem dX3_init_33 : decode cX3_init 33 = .ok (.aload_n 0, 1) := by decide +kernel
theorem dX3_init_34 : decode cX3_init 34 = .ok (.bipush 32, 2) := by decide +kernel
theorem dX3_init_36 : decode cX3_init 36 = .ok (.newarray .int, 2) := by decide +kernel
theorem dX3_init_38 : decode cX3_init 38 = .ok (.putfield 26, 3) := by decide +kernel
theorem dX3_init_41 : decode cX3_init 41 = .ok (.aload_n 0, 1) := by decide +kernel
theorem dX3_init_42 : decode cX3_init 42 = .ok (.bipush 32, 2) := by decide +kernel
theorem dX3_init_44 : decode cX3_init 44 = .ok (.newarray .int, 2) := by decide +kernel
theorem dX3_init_46 : decode cX3_init 46 = .ok (.putfield 29, 3) := by decide +kernel
theorem dX3_init_49 : decode cX3_init 49 = .ok (.return_, 1) := by decide +kernel
theorem dX3_clear_0 : decode cX3_clear 0 = .ok (.aload_n 0, 1) := by decide +kernel
theorem dX3_clear_1 : decode cX3_clear 1 = .ok (.iconst 0, 1) := by decide +kernel
theorem dX3_clear_2 : decode cX3_clear 2 = .ok (.putfield 9, 3) := by decide +kernel
theorem dX3_clear_5 : decode cX3_clear 5 = .ok (.return_, 1) := by decide +kernel
theorem dX3_add_0 : decode cX3_add 0 = .ok (.aload_n 0, 1) := by decide +kernel
theorem dX3_add_1 : decode cX3_add 1 = .ok (.getfield 9, 3) := by decide +kernel
theorem dX3_add_4 : decode cX3_add 4 = .ok (.bipush 32, 2) := by decide +kernel
theorem dX3_add_6 : decode cX3_add 6 = .ok (.if_icmp .ge 65, 3) := by decide +kernel
theorem dX3_add_9 : decode cX3_add 9 = .ok (.aload_n 0, 1) := by decide +kernel
theorem dX3_add_10 : decode cX3_add 10 = .ok (.getfield 15, 3) := by decide +kernel
theorem dX3_add_13 : decode cX3_add 13 = .ok (.aload_n 0, 1) := by decide +kernel
theorem dX3_add_14 : decode cX3_add 14 = .ok (.getfield 9, 3) := by decide +kernel
theorem dX3_add_17 : decode cX3_add 17 = .ok (.iload_n 1, 1) := by decide +kernel
theorem dX3_add_18 : decode cX3_add 18 = .ok (.castore, 1) := by decide +kernel
theorem dX3_add_19 : decode cX3_add 19 = .ok (.aload_n 0, 1) := by decide +kernel
theorem dX3_add_20 : decode cX3_add 20 = .ok (.getfield 19, 3) := by decide +kernel
theorem dX3_add_23 : decode cX3_add 23 = .ok (.aload_n 0, 1) := by decide +kernel
theorem dX3_add_24 : decode cX3_add 24 = .ok (.getfield 9, 3) := by decide +kernel
theorem dX3_add_27 : decode cX3_add 27 = .ok (.iload_n 2, 1) := by decide +kernel
theorem dX3_add_28 : decode cX3_add 28 = .ok (.iastore, 1) := by decide +kernel
theorem dX3_add_29 : decode cX3_add 29 = .ok (.aload_n 0, 1) := by decide +kernel
theorem dX3_add_30 : decode cX3_add 30 = .ok (.getfield 23, 3) := by decide +kernel
theorem dX3_add_33 : decode cX3_add 33 = .ok (.aload_n 0, 1) := by decide +kernel
theorem dX3_add_34 : decode cX3_add 34 = .ok (.getfield 9, 3) := by decide +kernel
theorem dX3_add_37 : decode cX3_add 37 = .ok (.iload_n 3, 1) := by decide +kernel
theorem dX3_add_38 : decode cX3_add 38 = .ok (.iastore, 1) := by decide +kernel
theorem dX3_add_39 : decode cX3_add 39 = .ok (.aload_n 0, 1) := by decide +kernel
theorem dX3_add_40 : decode cX3_add 40 = .ok (.getfield 26, 3) := by decide +kernel
theorem dX3_add_43 : decode cX3_add 43 = .ok (.aload_n 0, 1) := by decide +kernel
theorem dX3_add_44 : decode cX3_add 44 = .ok (.getfield 9, 3) := by decide +kernel
theorem dX3_add_47 : decode cX3_add 47 = .ok (.iload 4, 2) := by decide +kernel
theorem dX3_add_49 : decode cX3_add 49 = .ok (.iastore, 1) := by decide +kernel
theorem dX3_add_50 : decode cX3_add 50 = .ok (.aload_n 0, 1) := by decide +kernel
theorem dX3_add_51 : decode cX3_add 51 = .ok (.getfield 29, 3) := by decide +kernel
theorem dX3_add_54 : decode cX3_add 54 = .ok (.aload_n 0, 1) := by decide +kernel
theorem dX3_add_55 : decode cX3_add 55 = .ok (.getfield 9, 3) := by decide +kernel
theorem dX3_add_58 : decode cX3_add 58 = .ok (.iload 5, 2) := by decide +kernel
theorem dX3_add_60 : decode cX3_add 60 = .ok (.iastore, 1) := by decide +kernel
theorem dX3_add_61 : decode cX3_add 61 = .ok (.aload_n 0, 1) := by decide +kernel
theorem dX3_add_62 : decode cX3_add 62 = .ok (.dup, 1) := by decide +kernel
theorem dX3_add_63 : decode cX3_add 63 = .ok (.getfield 9, 3) := by decide +kernel
theorem dX3_add_66 : decode cX3_add 66 = .ok (.iconst 1, 1) := by decide +kernel
theorem dX3_add_67 : decode cX3_add 67 = .ok (.iadd, 1) := by decide +kernel
theorem dX3_add_68 : decode cX3_add 68 = .ok (.putfield 9, 3) := by decide +kernel
theorem dX3_add_71 : decode cX3_add 71 = .ok (.return_, 1) := by decide +kernel
theorem dX4_init_0 : decode cX4_init 0 = .ok (.aload_n 0, 1) := by decide +kernel
theorem dX4_init_1 : decode cX4_init 1 = .ok (.invokespecial 3, 3) := by decide +kernel
theorem dX4_init_4 : decode cX4_init 4 = .ok (.aload_n 0, 1) := by decide +kernel
theorem dX4_init_5 : decode cX4_init 5 = .ok (.iload_n 1, 1) := by decide +kernel
theorem dX4_init_6 : decode cX4_init 6 = .ok (.putfield 9, 3) := by decide +kernel
theorem dX4_init_9 : decode cX4_init 9 = .ok (.aload_n 0, 1) := by decide +kernel
theorem dX4_init_10 : decode cX4_init 10 = .ok (.sipush 240, 3) := by decide +kernel
theorem dX4_init_13 : decode cX4_init 13 = .ok (.newarray .int, 2) := by decide +kernel
theorem dX4_init_15 : decode cX4_init 15 = .ok (.putfield 15, 3) := by decide +kernel
theorem dX4_init_18 : decode cX4_init 18 = .ok (.aload_n 0, 1) := by decide +kernel
theorem dX4_init_19 : decode cX4_init 19 = .ok (.iconst 0, 1) := by decide +kernel
theorem dX4_init_20 : decode cX4_init 20 = .ok (.putfield 19, 3) := by decide +kernel
theorem dX4_init_23 : decode cX4_init 23 = .ok (.aload_n 0, 1) := by decide +kernel
theorem dX4_init_24 : decode cX4_init 24 = .ok (.iconst 0, 1) := by decide +kernel
theorem dX4_init_25 : decode cX4_init 25 = .ok (.putfield 22, 3) := by decide +kernel
theorem dX4_init_28 : decode cX4_init 28 = .ok (.return_, 1) := by decide +kernel
theorem dX4_append_0 : decode cX4_append 0 = .ok (.aload_n 0, 1) := by decide +kernel
theorem dX4_append_1 : decode cX4_append 1 = .ok (.getfield 19, 3) := by decide +kernel
theorem dX4_append_4 : decode cX4_append 4 = .ok (.sipush 240, 3) := by decide +kernel
theorem dX4_append_7 : decode cX4_append 7 = .ok (.if_icmp .ge 15, 3) := by decide +kernel
theorem dX4_append_10 : decode cX4_append 10 = .ok (.iload_n 1, 1) := by decide +kernel
theorem dX4_append_11 : decode cX4_append 11 = .ok (.bipush 32, 2) := by decide +kernel
theorem dX4_append_13 : decode cX4_append 13 = .ok (.if_icmp .lt 9, 3) := by decide +kernel
theorem dX4_append_16 : decode cX4_append 16 = .ok (.iload_n 1, 1) := by decide +kernel
theorem dX4_append_17 : decode cX4_append 17 = .ok (.bipush 126, 2) := by decide +kernel
theorem dX4_append_19 : decode cX4_append 19 = .ok (.if_icmp .le 5, 3) := by decide +kernel
theorem dX4_append_22 : decode cX4_append 22 = .ok (.iconst 0, 1) := by decide +kernel
theorem dX4_append_23 : decode cX4_append 23 = .ok (.ireturn, 1) := by decide +kernel
theorem dX4_append_24 : decode cX4_append 24 = .ok (.aload_n 0, 1) := by decide +kernel
theorem dX4_append_25 : decode cX4_append 25 = .ok (.getfield 15, 3) := by decide +kernel
theorem dX4_append_28 : decode cX4_append 28 = .ok (.aload_n 0, 1) := by decide +kernel
theorem dX4_append_29 : decode cX4_append 29 = .ok (.getfield 19, 3) := by decide +kernel
theorem dX4_append_32 : decode cX4_append 32 = .ok (.iload_n 1, 1) := by decide +kernel
theorem dX4_append_33 : decode cX4_append 33 = .ok (.iastore, 1) := by decide +kernel
theorem dX4_append_34 : decode cX4_append 34 = .ok (.aload_n 0, 1) := by decide +kernel
theorem dX4_append_35 : decode cX4_append 35 = .ok (.dup, 1) := by decide +kernel
theorem dX4_append_36 : decode cX4_append 36 = .ok (.getfield 19, 3) := by decide +kernel
theorem dX4_append_39 : decode cX4_append 39 = .ok (.iconst 1, 1) := by decide +kernel
theorem dX4_append_40 : decode cX4_append 40 = .ok (.iadd, 1) := by decide +kernel
theorem dX4_append_41 : decode cX4_append 41 = .ok (.putfield 19, 3) := by decide +kernel
theorem dX4_append_44 : decode cX4_append 44 = .ok (.iconst 1, 1) := by decide +kernel
theorem dX4_append_45 : decode cX4_append 45 = .ok (.ireturn, 1) := by decide +kernel
theorem dX4_parse_0 : decode cX4_parse 0 = .ok (.aload_n 0, 1) := by decide +kernel
theorem dX4_parse_1 : decode cX4_parse 1 = .ok (.iconst 0, 1) := by decide +kernel
theorem dX4_parse_2 : decode cX4_parse 2 = .ok (.putfield 22, 3) := by decide +kernel
theorem dX4_parse_5 : decode cX4_parse 5 = .ok (.aload_n 1, 1) := by decide +kernel
theorem dX4_parse_6 : decode cX4_parse 6 = .ok (.invokevirtual 25, 3) := by decide +kernel
theorem dX4_parse_9 : decode cX4_parse 9 = .ok (.aload_n 0, 1) := by decide +kernel
theorem dX4_parse_10 : decode cX4_parse 10 = .ok (.aload_n 1, 1) := by decide +kernel
theorem dX4_parse_11 : decode cX4_parse 11 = .ok (.invokevirtual 30, 3) := by decide +kernel
theorem dX4_parse_14 : decode cX4_parse 14 = .ok (.istore_n 2, 1) := by decide +kernel
theorem dX4_parse_15 : decode cX4_parse 15 = .ok (.iconst 1, 1) := by decide +kernel
theorem dX4_parse_16 : decode cX4_parse 16 = .ok (.istore_n 3, 1) := by decide +kernel
theorem dX4_parse_17 : decode cX4_parse 17 = .ok (.iload_n 3, 1) := by decide +kernel
theorem dX4_parse_18 : decode cX4_parse 18 = .ok (.bipush 32, 2) := by decide +kernel
theorem dX4_parse_20 : decode cX4_parse 20 = .ok (.if_icmp .ge 30, 3) := by decide +kernel
theorem dX4_parse_23 : decode cX4_parse 23 = .ok (.iload_n 2, 1) := by decide +kernel
theorem dX4_parse_24 : decode cX4_parse 24 = .ok (.ifCond .eq 26, 3) := by decide +kernel
theorem dX4_parse_27 : decode cX4_parse 27 = .ok (.aload_n 0, 1) := by decide +kernel
theorem dX4_parse_28 : decode cX4_parse 28 = .ok (.getfield 22, 3) := by decide +kernel
theorem dX4_parse_31 : decode cX4_parse 31 = .ok (.aload_n 0, 1) := by decide +kernel
theorem dX4_parse_32 : decode cX4_parse 32 = .ok (.getfield 19, 3) := by decide +kernel
theorem dX4_parse_35 : decode cX4_parse 35 = .ok (.if_icmp .ge 15, 3) := by decide +kernel
theorem dX4_parse_38 : decode cX4_parse 38 = .ok (.aload_n 0, 1) := by decide +kernel
theorem dX4_parse_39 : decode cX4_parse 39 = .ok (.aload_n 1, 1) := by decide +kernel
theorem dX4_parse_40 : decode cX4_parse 40 = .ok (.invokevirtual 30, 3) := by decide +kernel
theorem dX4_parse_43 : decode cX4_parse 43 = .ok (.istore_n 2, 1) := by decide +kernel
theorem dX4_parse_44 : decode cX4_parse 44 = .ok (.iinc 3 1, 3) := by decide +kernel
theorem dX4_parse_47 : decode cX4_parse 47 = .ok (.goto (-30), 3) := by decide +kernel
theorem dX4_parse_50 : decode cX4_parse 50 = .ok (.iload_n 2, 1) := by decide +kernel
theorem dX4_parse_51 : decode cX4_parse 51 = .ok (.ifCond .eq 18, 3) := by decide +kernel
theorem dX4_parse_54 : decode cX4_parse 54 = .ok (.aload_n 0, 1) := by decide +kernel
theorem dX4_parse_55 : decode cX4_parse 55 = .ok (.getfield 22, 3) := by decide +kernel
theorem dX4_parse_58 : decode cX4_parse 58 = .ok (.aload_n 0, 1) := by decide +kernel
theorem dX4_parse_59 : decode cX4_parse 59 = .ok (.getfield 19, 3) := by decide +kernel
theorem dX4_parse_62 : decode cX4_parse 62 = .ok (.if_icmp .lt 7, 3) := by decide +kernel
theorem dX4_parse_65 : decode cX4_parse 65 = .ok (.iconst 1, 1) := by decide +kernel
theorem dX4_parse_66 : decode cX4_parse 66 = .ok (.goto 4, 3) := by decide +kernel
theorem dX4_parse_69 : decode cX4_parse 69 = .ok (.iconst 0, 1) := by decide +kernel
theorem dX4_parse_70 : decode cX4_parse 70 = .ok (.istore_n 3, 1) := by decide +kernel
theorem dX4_parse_71 : decode cX4_parse 71 = .ok (.aload_n 0, 1) := by decide +kernel
theorem dX4_parse_72 : decode cX4_parse 72 = .ok (.iconst 0, 1) := by decide +kernel
theorem dX4_parse_73 : decode cX4_parse 73 = .ok (.putfield 19, 3) := by decide +kernel
theorem dX4_parse_76 : decode cX4_parse 76 = .ok (.iload_n 3, 1) := by decide +kernel
theorem dX4_parse_77 : decode cX4_parse 77 = .ok (.ifCond .eq 10, 3) := by decide +kernel
theorem dX4_parse_80 : decode cX4_parse 80 = .ok (.aload_n 1, 1) := by decide +kernel
theorem dX4_parse_81 : decode cX4_parse 81 = .ok (.getfield 34, 3) := by decide +kernel
theorem dX4_parse_84 : decode cX4_parse 84 = .ok (.goto 9, 3) := by decide +kernel
theorem dX4_parse_87 : decode cX4_parse 87 = .ok (.iconst (-1), 1) := by decide +kernel
theorem dX4_parse_88 : decode cX4_parse 88 = .ok (.aload_n 0, 1) := by decide +kernel
theorem dX4_parse_89 : decode cX4_parse 89 = .ok (.getfield 22, 3) := by decide +kernel
theorem dX4_parse_92 : decode cX4_parse 92 = .ok (.isub, 1) := by decide +kernel
theorem dX4_parse_93 : decode cX4_parse 93 = .ok (.ireturn, 1) := by decide +kernel
theorem dX4_takeStatement_0 : decode cX4_takeStatement 0 = .ok (.aload_n 0, 1) := by decide +kernel
theorem dX4_takeStatement_1 : decode cX4_takeStatement 1 = .ok (.invokevirtual 37, 3) := by decide +kernel
theorem dX4_takeStatement_4 : decode cX4_takeStatement 4 = .ok (.aload_n 0, 1) := by decide +kernel
theorem dX4_takeStatement_5 : decode cX4_takeStatement 5 = .ok (.invokevirtual 40, 3) := by decide +kernel
theorem dX4_takeStatement_8 : decode cX4_takeStatement 8 = .ok (.lookupswitch 40 #[(71, 34), (84, 28)], 28) := by decide +kernel
theorem dX4_takeStatement_36 : decode cX4_takeStatement 36 = .ok (.aload_n 0, 1) := by decide +kernel
theorem dX4_takeStatement_37 : decode cX4_takeStatement 37 = .ok (.aload_n 1, 1) := by decide +kernel
theorem dX4_takeStatement_38 : decode cX4_takeStatement 38 = .ok (.invokevirtual 44, 3) := by decide +kernel
theorem dX4_takeStatement_41 : decode cX4_takeStatement 41 = .ok (.ireturn, 1) := by decide +kernel
theorem dX4_takeStatement_42 : decode cX4_takeStatement 42 = .ok (.aload_n 0, 1) := by decide +kernel
theorem dX4_takeStatement_43 : decode cX4_takeStatement 43 = .ok (.aload_n 1, 1) := by decide +kernel
theorem dX4_takeStatement_44 : decode cX4_takeStatement 44 = .ok (.invokevirtual 47, 3) := by decide +kernel
theorem dX4_takeStatement_47 : decode cX4_takeStatement 47 = .ok (.ireturn, 1) := by decide +kernel
theorem dX4_takeStatement_48 : decode cX4_takeStatement 48 = .ok (.iconst 0, 1) := by decide +kernel
theorem dX4_takeStatement_49 : decode cX4_takeStatement 49 = .ok (.ireturn, 1) := by decide +kernel
theorem dX4_takeChange_0 : decode cX4_takeChange 0 = .ok (.aload_n 0, 1) := by decide +kernel
theorem dX4_takeChange_1 : decode cX4_takeChange 1 = .ok (.dup, 1) := by decide +kernel
theorem dX4_takeChange_2 : decode cX4_takeChange 2 = .ok (.getfield 22, 3) := by decide +kernel
theorem dX4_takeChange_5 : decode cX4_takeChange 5 = .ok (.iconst 1, 1) := by decide +kernel
theorem dX4_takeChange_6 : decode cX4_takeChange 6 = .ok (.iadd, 1) := by decide +kernel
theorem dX4_takeChange_7 : decode cX4_takeChange 7 = .ok (.putfield 22, 3) := by decide +kernel
theorem dX4_takeChange_10 : decode cX4_takeChange 10 = .ok (.aload_n 0, 1) := by decide +kernel
theorem dX4_takeChange_11 : decode cX4_takeChange 11 = .ok (.iconst 3, 1) := by decide +kernel
theorem dX4_takeChange_12 : decode cX4_takeChange 12 = .ok (.invokevirtual 50, 3) := by decide +kernel
theorem dX4_takeChange_15 : decode cX4_takeChange 15 = .ok (.istore_n 2, 1) := by decide +kernel
theorem dX4_takeChange_16 : decode cX4_takeChange 16 = .ok (.iload_n 2, 1) := by decide +kernel
theorem dX4_takeChange_17 : decode cX4_takeChange 17 = .ok (.bipush (-2), 2) := by decide +kernel
theorem dX4_takeChange_19 : decode cX4_takeChange 19 = .ok (.if_icmp .eq 10, 3) := by decide +kernel
theorem dX4_takeChange_22 : decode cX4_takeChange 22 = .ok (.aload_n 0, 1) := by decide +kernel
theorem dX4_takeChange_23 : decode cX4_takeChange 23 = .ok (.invokevirtual 54, 3) := by decide +kernel
theorem dX4_takeChange_26 : decode cX4_takeChange 26 = .ok (.ifCond .ne 5, 3) := by decide +kernel
theorem dX4_takeChange_29 : decode cX4_takeChange 29 = .ok (.iconst 0, 1) := by decide +kernel
theorem dX4_takeChange_30 : decode cX4_takeChange 30 = .ok (.ireturn, 1) := by decide +kernel
theorem dX4_takeChange_31 : decode cX4_takeChange 31 = .ok (.aload_n 1, 1) := by decide +kernel
theorem dX4_takeChange_32 : decode cX4_takeChange 32 = .ok (.bipush 84, 2) := by decide +kernel
theorem dX4_takeChange_34 : decode cX4_takeChange 34 = .ok (.iload_n 2, 1) := by decide +kernel
theorem dX4_takeChange_35 : decode cX4_takeChange 35 = .ok (.iconst (-1), 1) := by decide +kernel
theorem dX4_takeChange_36 : decode cX4_takeChange 36 = .ok (.iconst (-1), 1) := by decide +kernel
theorem dX4_takeChange_37 : decode cX4_takeChange 37 = .ok (.iconst (-1), 1) := by decide +kernel
theorem dX4_takeChange_38 : decode cX4_takeChange 38 = .ok (.invokevirtual 58, 3) := by decide +kernel
theorem dX4_takeChange_41 : decode cX4_takeChange 41 = .ok (.iconst 1, 1) := by decide +kernel
theorem dX4_takeChange_42 : decode cX4_takeChange 42 = .ok (.ireturn, 1) := by decide +kernel
theorem dX4_takeMove_0 : decode cX4_takeMove 0 = .ok (.aload_n 0, 1) := by decide +kernel
theorem dX4_takeMove_1 : decode cX4_takeMove 1 = .ok (.dup, 1) := by decide +kernel
theorem dX4_takeMove_2 : decode cX4_takeMove 2 = .ok (.getfield 22, 3) := by decide +kernel
theorem dX4_takeMove_5 : decode cX4_takeMove 5 = .ok (.iconst 1, 1) := by decide +kernel
theorem dX4_takeMove_6 : decode cX4_takeMove 6 = .ok (.iadd, 1) := by decide +kernel
theorem dX4_takeMove_7 : decode cX4_takeMove 7 = .ok (.putfield 22, 3) := by decide +kernel
theorem dX4_takeMove_10 : decode cX4_takeMove 10 = .ok (.aload_n 0, 1) := by decide +kernel
theorem dX4_takeMove_11 : decode cX4_takeMove 11 = .ok (.iconst 1, 1) := by decide +kernel
theorem dX4_takeMove_12 : decode cX4_takeMove 12 = .ok (.invokevirtual 50, 3) := by decide +kernel
theorem dX4_takeMove_15 : decode cX4_takeMove 15 = .ok (.istore_n 2, 1) := by decide +kernel
theorem dX4_takeMove_16 : decode cX4_takeMove 16 = .ok (.iload_n 2, 1) := by decide +kernel
theorem dX4_takeMove_17 : decode cX4_takeMove 17 = .ok (.bipush (-2), 2) := by decide +kernel
theorem dX4_takeMove_19 : decode cX4_takeMove 19 = .ok (.if_icmp .ne 5, 3) := by decide +kernel
theorem dX4_takeMove_22 : decode cX4_takeMove 22 = .ok (.iconst 0, 1) := by decide +kernel
theorem dX4_takeMove_23 : decode cX4_takeMove 23 = .ok (.ireturn, 1) := by decide +kernel
theorem dX4_takeMove_24 : decode cX4_takeMove 24 = .ok (.aload_n 0, 1) := by decide +kernel
theorem dX4_takeMove_25 : decode cX4_takeMove 25 = .ok (.bipush 88, 2) := by decide +kernel
theorem dX4_takeMove_27 : decode cX4_takeMove 27 = .ok (.aload_n 0, 1) := by decide +kernel
theorem dX4_takeMove_28 : decode cX4_takeMove 28 = .ok (.getfield 9, 3) := by decide +kernel
theorem dX4_takeMove_31 : decode cX4_takeMove 31 = .ok (.iconst 1, 1) := by decide +kernel
theorem dX4_takeMove_32 : decode cX4_takeMove 32 = .ok (.isub, 1) := by decide +kernel
theorem dX4_takeMove_33 : decode cX4_takeMove 33 = .ok (.invokevirtual 62, 3) := by decide +kernel
theorem dX4_takeMove_36 : decode cX4_takeMove 36 = .ok (.istore_n 3, 1) := by decide +kernel
theorem dX4_takeMove_37 : decode cX4_takeMove 37 = .ok (.iload_n 3, 1) := by decide +kernel
theorem dX4_takeMove_38 : decode cX4_takeMove 38 = .ok (.bipush (-2), 2) := by decide +kernel
theorem dX4_takeMove_40 : decode cX4_takeMove 40 = .ok (.if_icmp .ne 5, 3) := by decide +kernel
theorem dX4_takeMove_43 : decode cX4_takeMove 43 = .ok (.iconst 0, 1) := by decide +kernel
theorem dX4_takeMove_44 : decode cX4_takeMove 44 = .ok (.ireturn, 1) := by decide +kernel
theorem dX4_takeMove_45 : decode cX4_takeMove 45 = .ok (.aload_n 0, 1) := by decide +kernel
theorem dX4_takeMove_46 : decode cX4_takeMove 46 = .ok (.bipush 89, 2) := by decide +kernel
theorem dX4_takeMove_48 : decode cX4_takeMove 48 = .ok (.aload_n 0, 1) := by decide +kernel
theorem dX4_takeMove_49 : decode cX4_takeMove 49 = .ok (.getfield 9, 3) := by decide +kernel
theorem dX4_takeMove_52 : decode cX4_takeMove 52 = .ok (.iconst 1, 1) := by decide +kernel
theorem dX4_takeMove_53 : decode cX4_takeMove 53 = .ok (.isub, 1) := by decide +kernel
theorem dX4_takeMove_54 : decode cX4_takeMove 54 = .ok (.invokevirtual 62, 3) := by decide +kernel
theorem dX4_takeMove_57 : decode cX4_takeMove 57 = .ok (.istore 4, 2) := by decide +kernel
theorem dX4_takeMove_59 : decode cX4_takeMove 59 = .ok (.iload 4, 2) := by decide +kernel
theorem dX4_takeMove_61 : decode cX4_takeMove 61 = .ok (.bipush (-2), 2) := by decide +kernel
theorem dX4_takeMove_63 : decode cX4_takeMove 63 = .ok (.if_icmp .ne 5, 3) := by decide +kernel
theorem dX4_takeMove_66 : decode cX4_takeMove 66 = .ok (.iconst 0, 1) := by decide +kernel
theorem dX4_takeMove_67 : decode cX4_takeMove 67 = .ok (.ireturn, 1) := by decide +kernel
theorem dX4_takeMove_68 : decode cX4_takeMove 68 = .ok (.aload_n 0, 1) := by decide +kernel
theorem dX4_takeMove_69 : decode cX4_takeMove 69 = .ok (.bipush 90, 2) := by decide +kernel
theorem dX4_takeMove_71 : decode cX4_takeMove 71 = .ok (.bipush 100, 2) := by decide +kernel
theorem dX4_takeMove_73 : decode cX4_takeMove 73 = .ok (.invokevirtual 62, 3) := by decide +kernel
theorem dX4_takeMove_76 : decode cX4_takeMove 76 = .ok (.istore 5, 2) := by decide +kernel
theorem dX4_takeMove_78 : decode cX4_takeMove 78 = .ok (.iload 5, 2) := by decide +kernel
theorem dX4_takeMove_80 : decode cX4_takeMove 80 = .ok (.bipush (-2), 2) := by decide +kernel
theorem dX4_takeMove_82 : decode cX4_takeMove 82 = .ok (.if_icmp .ne 5, 3) := by decide +kernel
theorem dX4_takeMove_85 : decode cX4_takeMove 85 = .ok (.iconst 0, 1) := by decide +kernel
theorem dX4_takeMove_86 : decode cX4_takeMove 86 = .ok (.ireturn, 1) := by decide +kernel
theorem dX4_takeMove_87 : decode cX4_takeMove 87 = .ok (.iload_n 3, 1) := by decide +kernel
theorem dX4_takeMove_88 : decode cX4_takeMove 88 = .ok (.iconst (-1), 1) := by decide +kernel
theorem dX4_takeMove_89 : decode cX4_takeMove 89 = .ok (.if_icmp .ne 19, 3) := by decide +kernel
theorem dX4_takeMove_92 : decode cX4_takeMove 92 = .ok (.iload 4, 2) := by decide +kernel
theorem dX4_takeMove_94 : decode cX4_takeMove 94 = .ok (.iconst (-1), 1) := by decide +kernel
theorem dX4_takeMove_95 : decode cX4_takeMove 95 = .ok (.if_icmp .ne 13, 3) := by decide +kernel
theorem dX4_takeMove_98 : decode cX4_takeMove 98 = .ok (.iload 5, 2) := by decide +kernel
theorem dX4_takeMove_100 : decode cX4_takeMove 100 = .ok (.iconst (-1), 1) := by decide +kernel
theorem dX4_takeMove_101 : decode cX4_takeMove 101 = .ok (.if_icmp .ne 7, 3) := by decide +kernel
theorem dX4_takeMove_104 : decode cX4_takeMove 104 = .ok (.iconst 1, 1) := by decide +kernel
theorem dX4_takeMove_105 : decode cX4_takeMove 105 = .ok (.goto 4, 3) := by decide +kernel
theorem dX4_takeMove_108 : decode cX4_takeMove 108 = .ok (.iconst 0, 1) := by decide +kernel
theorem dX4_takeMove_109 : decode cX4_takeMove 109 = .ok (.istore 6, 2) := by decide +kernel
theorem dX4_takeMove_111 : decode cX4_takeMove 111 = .ok (.iload 6, 2) := by decide +kernel
theorem dX4_takeMove_113 : decode cX4_takeMove 113 = .ok (.ifCond .ne 10, 3) := by decide +kernel
theorem dX4_takeMove_116 : decode cX4_takeMove 116 = .ok (.aload_n 0, 1) := by decide +kernel
theorem dX4_takeMove_117 : decode cX4_takeMove 117 = .ok (.invokevirtual 54, 3) := by decide +kernel
theorem dX4_takeMove_120 : decode cX4_takeMove 120 = .ok (.ifCond .ne 5, 3) := by decide +kernel
theorem dX4_takeMove_123 : decode cX4_takeMove 123 = .ok (.iconst 0, 1) := by decide +kernel
theorem dX4_takeMove_124 : decode cX4_takeMove 124 = .ok (.ireturn, 1) := by decide +kernel
theorem dX4_takeMove_125 : decode cX4_takeMove 125 = .ok (.aload_n 1, 1) := by decide +kernel
theorem dX4_takeMove_126 : decode cX4_takeMove 126 = .ok (.bipush 71, 2) := by decide +kernel
theorem dX4_takeMove_128 : decode cX4_takeMove 128 = .ok (.iload_n 2, 1) := by decide +kernel
theorem dX4_takeMove_129 : decode cX4_takeMove 129 = .ok (.iload_n 3, 1) := by decide +kernel
theorem dX4_takeMove_130 : decode cX4_takeMove 130 = .ok (.iload 4, 2) := by decide +kernel
theorem dX4_takeMove_132 : decode cX4_takeMove 132 = .ok (.iload 5, 2) := by decide +kernel
theorem dX4_takeMove_134 : decode cX4_takeMove 134 = .ok (.invokevirtual 58, 3) := by decide +kernel
theorem dX4_takeMove_137 : decode cX4_takeMove 137 = .ok (.iconst 1, 1) := by decide +kernel
theorem dX4_takeMove_138 : decode cX4_takeMove 138 = .ok (.ireturn, 1) := by decide +kernel
theorem dX4_takeDigit_0 : decode cX4_takeDigit 0 = .ok (.aload_n 0, 1) := by decide +kernel
theorem dX4_takeDigit_1 : decode cX4_takeDigit 1 = .ok (.invokevirtual 40, 3) := by decide +kernel
theorem dX4_takeDigit_4 : decode cX4_takeDigit 4 = .ok (.bipush 48, 2) := by decide +kernel
theorem dX4_takeDigit_6 : decode cX4_takeDigit 6 = .ok (.isub, 1) := by decide +kernel
theorem dX4_takeDigit_7 : decode cX4_takeDigit 7 = .ok (.istore_n 2, 1) := by decide +kernel
theorem dX4_takeDigit_8 : decode cX4_takeDigit 8 = .ok (.iload_n 2, 1) := by decide +kernel
theorem dX4_takeDigit_9 : decode cX4_takeDigit 9 = .ok (.ifCond .lt 8, 3) := by decide +kernel
theorem dX4_takeDigit_12 : decode cX4_takeDigit 12 = .ok (.iload_n 2, 1) := by decide +kernel
theorem dX4_takeDigit_13 : decode cX4_takeDigit 13 = .ok (.iload_n 1, 1) := by decide +kernel
theorem dX4_takeDigit_14 : decode cX4_takeDigit 14 = .ok (.if_icmp .le 6, 3) := by decide +kernel
theorem dX4_takeDigit_17 : decode cX4_takeDigit 17 = .ok (.bipush (-2), 2) := by decide +kernel
theorem dX4_takeDigit_19 : decode cX4_takeDigit 19 = .ok (.ireturn, 1) := by decide +kernel
theorem dX4_takeDigit_20 : decode cX4_takeDigit 20 = .ok (.aload_n 0, 1) := by decide +kernel
theorem dX4_takeDigit_21 : decode cX4_takeDigit 21 = .ok (.dup, 1) := by decide +kernel
theorem dX4_takeDigit_22 : decode cX4_takeDigit 22 = .ok (.getfield 22, 3) := by decide +kernel
theorem dX4_takeDigit_25 : decode cX4_takeDigit 25 = .ok (.iconst 1, 1) := by decide +kernel
theorem dX4_takeDigit_26 : decode cX4_takeDigit 26 = .ok (.iadd, 1) := by decide +kernel
theorem dX4_takeDigit_27 : decode cX4_takeDigit 27 = .ok (.putfield 22, 3) := by decide +kernel
theorem dX4_takeDigit_30 : decode cX4_takeDigit 30 = .ok (.iload_n 2, 1) := by decide +kernel
theorem dX4_takeDigit_31 : decode cX4_takeDigit 31 = .ok (.ireturn, 1) := by decide +kernel
theorem dX4_takeNumber_0 : decode cX4_takeNumber 0 = .ok (.aload_n 0, 1) := by decide +kernel
theorem dX4_takeNumber_1 : decode cX4_takeNumber 1 = .ok (.invokevirtual 37, 3) := by decide +kernel
theorem dX4_takeNumber_4 : decode cX4_takeNumber 4 = .ok (.aload_n 0, 1) := by decide +kernel
theorem dX4_takeNumber_5 : decode cX4_takeNumber 5 = .ok (.invokevirtual 40, 3) := by decide +kernel
theorem dX4_takeNumber_8 : decode cX4_takeNumber 8 = .ok (.iload_n 1, 1) := by decide +kernel
theorem dX4_takeNumber_9 : decode cX4_takeNumber 9 = .ok (.if_icmp .eq 5, 3) := by decide +kernel
theorem dX4_takeNumber_12 : decode cX4_takeNumber 12 = .ok (.iconst (-1), 1) := by decide +kernel
theorem dX4_takeNumber_13 : decode cX4_takeNumber 13 = .ok (.ireturn, 1) := by decide +kernel
theorem dX4_takeNumber_14 : decode cX4_takeNumber 14 = .ok (.aload_n 0, 1) := by decide +kernel
theorem dX4_takeNumber_15 : decode cX4_takeNumber 15 = .ok (.dup, 1) := by decide +kernel
theorem dX4_takeNumber_16 : decode cX4_takeNumber 16 = .ok (.getfield 22, 3) := by decide +kernel
theorem dX4_takeNumber_19 : decode cX4_takeNumber 19 = .ok (.iconst 1, 1) := by decide +kernel
theorem dX4_takeNumber_20 : decode cX4_takeNumber 20 = .ok (.iadd, 1) := by decide +kernel
theorem dX4_takeNumber_21 : decode cX4_takeNumber 21 = .ok (.putfield 22, 3) := by decide +kernel
theorem dX4_takeNumber_24 : decode cX4_takeNumber 24 = .ok (.aload_n 0, 1) := by decide +kernel
theorem dX4_takeNumber_25 : decode cX4_takeNumber 25 = .ok (.getfield 22, 3) := by decide +kernel
theorem dX4_takeNumber_28 : decode cX4_takeNumber 28 = .ok (.istore_n 3, 1) := by decide +kernel
theorem dX4_takeNumber_29 : decode cX4_takeNumber 29 = .ok (.iconst 0, 1) := by decide +kernel
theorem dX4_takeNumber_30 : decode cX4_takeNumber 30 = .ok (.istore 4, 2) := by decide +kernel
theorem dX4_takeNumber_32 : decode cX4_takeNumber 32 = .ok (.iconst 0, 1) := by decide +kernel
theorem dX4_takeNumber_33 : decode cX4_takeNumber 33 = .ok (.istore 5, 2) := by decide +kernel
theorem dX4_takeNumber_35 : decode cX4_takeNumber 35 = .ok (.iload 5, 2) := by decide +kernel
theorem dX4_takeNumber_37 : decode cX4_takeNumber 37 = .ok (.iconst 3, 1) := by decide +kernel
theorem dX4_takeNumber_38 : decode cX4_takeNumber 38 = .ok (.if_icmp .ge 52, 3) := by decide +kernel
theorem dX4_takeNumber_41 : decode cX4_takeNumber 41 = .ok (.aload_n 0, 1) := by decide +kernel
theorem dX4_takeNumber_42 : decode cX4_takeNumber 42 = .ok (.invokevirtual 40, 3) := by decide +kernel
theorem dX4_takeNumber_45 : decode cX4_takeNumber 45 = .ok (.bipush 48, 2) := by decide +kernel
theorem dX4_takeNumber_47 : decode cX4_takeNumber 47 = .ok (.if_icmp .lt 43, 3) := by decide +kernel
theorem dX4_takeNumber_50 : decode cX4_takeNumber 50 = .ok (.aload_n 0, 1) := by decide +kernel
theorem dX4_takeNumber_51 : decode cX4_takeNumber 51 = .ok (.invokevirtual 40, 3) := by decide +kernel
theorem dX4_takeNumber_54 : decode cX4_takeNumber 54 = .ok (.bipush 57, 2) := by decide +kernel
theorem dX4_takeNumber_56 : decode cX4_takeNumber 56 = .ok (.if_icmp .gt 34, 3) := by decide +kernel
theorem dX4_takeNumber_59 : decode cX4_takeNumber 59 = .ok (.bipush 10, 2) := by decide +kernel
theorem dX4_takeNumber_61 : decode cX4_takeNumber 61 = .ok (.iload 4, 2) := by decide +kernel
theorem dX4_takeNumber_63 : decode cX4_takeNumber 63 = .ok (.imul, 1) := by decide +kernel
theorem dX4_takeNumber_64 : decode cX4_takeNumber 64 = .ok (.aload_n 0, 1) := by decide +kernel
theorem dX4_takeNumber_65 : decode cX4_takeNumber 65 = .ok (.invokevirtual 40, 3) := by decide +kernel
theorem dX4_takeNumber_68 : decode cX4_takeNumber 68 = .ok (.bipush 48, 2) := by decide +kernel
theorem dX4_takeNumber_70 : decode cX4_takeNumber 70 = .ok (.isub, 1) := by decide +kernel
theorem dX4_takeNumber_71 : decode cX4_takeNumber 71 = .ok (.iadd, 1) := by decide +kernel
theorem dX4_takeNumber_72 : decode cX4_takeNumber 72 = .ok (.istore 4, 2) := by decide +kernel
theorem dX4_takeNumber_74 : decode cX4_takeNumber 74 = .ok (.aload_n 0, 1) := by decide +kernel
theorem dX4_takeNumber_75 : decode cX4_takeNumber 75 = .ok (.dup, 1) := by decide +kernel
theorem dX4_takeNumber_76 : decode cX4_takeNumber 76 = .ok (.getfield 22, 3) := by decide +kernel
theorem dX4_takeNumber_79 : decode cX4_takeNumber 79 = .ok (.iconst 1, 1) := by decide +kernel
theorem dX4_takeNumber_80 : decode cX4_takeNumber 80 = .ok (.iadd, 1) := by decide +kernel
theorem dX4_takeNumber_81 : decode cX4_takeNumber 81 = .ok (.putfield 22, 3) := by decide +kernel
theorem dX4_takeNumber_84 : decode cX4_takeNumber 84 = .ok (.iinc 5 1, 3) := by decide +kernel
theorem dX4_takeNumber_87 : decode cX4_takeNumber 87 = .ok (.goto (-52), 3) := by decide +kernel
theorem dX4_takeNumber_90 : decode cX4_takeNumber 90 = .ok (.aload_n 0, 1) := by decide +kernel
theorem dX4_takeNumber_91 : decode cX4_takeNumber 91 = .ok (.getfield 22, 3) := by decide +kernel
theorem dX4_takeNumber_94 : decode cX4_takeNumber 94 = .ok (.iload_n 3, 1) := by decide +kernel
theorem dX4_takeNumber_95 : decode cX4_takeNumber 95 = .ok (.if_icmp .ne 6, 3) := by decide +kernel
theorem dX4_takeNumber_98 : decode cX4_takeNumber 98 = .ok (.bipush (-2), 2) := by decide +kernel
theorem dX4_takeNumber_100 : decode cX4_takeNumber 100 = .ok (.ireturn, 1) := by decide +kernel
theorem dX4_takeNumber_101 : decode cX4_takeNumber 101 = .ok (.iload 4, 2) := by decide +kernel
theorem dX4_takeNumber_103 : decode cX4_takeNumber 103 = .ok (.iload_n 2, 1) := by decide +kernel
theorem dX4_takeNumber_104 : decode cX4_takeNumber 104 = .ok (.if_icmp .le 11, 3) := by decide +kernel
theorem dX4_takeNumber_107 : decode cX4_takeNumber 107 = .ok (.aload_n 0, 1) := by decide +kernel
theorem dX4_takeNumber_108 : decode cX4_takeNumber 108 = .ok (.iload_n 3, 1) := by decide +kernel
theorem dX4_takeNumber_109 : decode cX4_takeNumber 109 = .ok (.putfield 22, 3) := by decide +kernel
theorem dX4_takeNumber_112 : decode cX4_takeNumber 112 = .ok (.bipush (-2), 2) := by decide +kernel
theorem dX4_takeNumber_114 : decode cX4_takeNumber 114 = .ok (.ireturn, 1) := by decide +kernel
theorem dX4_takeNumber_115 : decode cX4_takeNumber 115 = .ok (.iload 4, 2) := by decide +kernel
theorem dX4_takeNumber_117 : decode cX4_takeNumber 117 = .ok (.ireturn, 1) := by decide +kernel
theorem dX4_takeEnd_0 : decode cX4_takeEnd 0 = .ok (.aload_n 0, 1) := by decide +kernel
theorem dX4_takeEnd_1 : decode cX4_takeEnd 1 = .ok (.invokevirtual 37, 3) := by decide +kernel
theorem dX4_takeEnd_4 : decode cX4_takeEnd 4 = .ok (.aload_n 0, 1) := by decide +kernel
theorem dX4_takeEnd_5 : decode cX4_takeEnd 5 = .ok (.invokevirtual 40, 3) := by decide +kernel
theorem dX4_takeEnd_8 : decode cX4_takeEnd 8 = .ok (.bipush 59, 2) := by decide +kernel
theorem dX4_takeEnd_10 : decode cX4_takeEnd 10 = .ok (.if_icmp .eq 5, 3) := by decide +kernel
theorem dX4_takeEnd_13 : decode cX4_takeEnd 13 = .ok (.iconst 0, 1) := by decide +kernel
theorem dX4_takeEnd_14 : decode cX4_takeEnd 14 = .ok (.ireturn, 1) := by decide +kernel
theorem dX4_takeEnd_15 : decode cX4_takeEnd 15 = .ok (.aload_n 0, 1) := by decide +kernel
theorem dX4_takeEnd_16 : decode cX4_takeEnd 16 = .ok (.dup, 1) := by decide +kernel
theorem dX4_takeEnd_17 : decode cX4_takeEnd 17 = .ok (.getfield 22, 3) := by decide +kernel
theorem dX4_takeEnd_20 : decode cX4_takeEnd 20 = .ok (.iconst 1, 1) := by decide +kernel
theorem dX4_takeEnd_21 : decode cX4_takeEnd 21 = .ok (.iadd, 1) := by decide +kernel
theorem dX4_takeEnd_22 : decode cX4_takeEnd 22 = .ok (.putfield 22, 3) := by decide +kernel
theorem dX4_takeEnd_25 : decode cX4_takeEnd 25 = .ok (.iconst 1, 1) := by decide +kernel
theorem dX4_takeEnd_26 : decode cX4_takeEnd 26 = .ok (.ireturn, 1) := by decide +kernel
theorem dX4_skipSpaces_0 : decode cX4_skipSpaces 0 = .ok (.aload_n 0, 1) := by decide +kernel
theorem dX4_skipSpaces_1 : decode cX4_skipSpaces 1 = .ok (.getfield 22, 3) := by decide +kernel
theorem dX4_skipSpaces_4 : decode cX4_skipSpaces 4 = .ok (.aload_n 0, 1) := by decide +kernel
theorem dX4_skipSpaces_5 : decode cX4_skipSpaces 5 = .ok (.getfield 19, 3) := by decide +kernel
theorem dX4_skipSpaces_8 : decode cX4_skipSpaces 8 = .ok (.if_icmp .ge 25, 3) := by decide +kernel
theorem dX4_skipSpaces_11 : decode cX4_skipSpaces 11 = .ok (.aload_n 0, 1) := by decide +kernel
theorem dX4_skipSpaces_12 : decode cX4_skipSpaces 12 = .ok (.invokevirtual 40, 3) := by decide +kernel
theorem dX4_skipSpaces_15 : decode cX4_skipSpaces 15 = .ok (.bipush 32, 2) := by decide +kernel
theorem dX4_skipSpaces_17 : decode cX4_skipSpaces 17 = .ok (.if_icmp .ne 16, 3) := by decide +kernel
theorem dX4_skipSpaces_20 : decode cX4_skipSpaces 20 = .ok (.aload_n 0, 1) := by decide +kernel
theorem dX4_skipSpaces_21 : decode cX4_skipSpaces 21 = .ok (.dup, 1) := by decide +kernel
theorem dX4_skipSpaces_22 : decode cX4_skipSpaces 22 = .ok (.getfield 22, 3) := by decide +kernel
theorem dX4_skipSpaces_25 : decode cX4_skipSpaces 25 = .ok (.iconst 1, 1) := by decide +kernel
theorem dX4_skipSpaces_26 : decode cX4_skipSpaces 26 = .ok (.iadd, 1) := by decide +kernel
theorem dX4_skipSpaces_27 : decode cX4_skipSpaces 27 = .ok (.putfield 22, 3) := by decide +kernel
theorem dX4_skipSpaces_30 : decode cX4_skipSpaces 30 = .ok (.goto (-30), 3) := by decide +kernel
theorem dX4_skipSpaces_33 : decode cX4_skipSpaces 33 = .ok (.return_, 1) := by decide +kernel
theorem dX4_here_0 : decode cX4_here 0 = .ok (.aload_n 0, 1) := by decide +kernel
theorem dX4_here_1 : decode cX4_here 1 = .ok (.getfield 22, 3) := by decide +kernel
theorem dX4_here_4 : decode cX4_here 4 = .ok (.ifCond .lt 26, 3) := by decide +kernel
theorem dX4_here_7 : decode cX4_here 7 = .ok (.aload_n 0, 1) := by decide +kernel
theorem dX4_here_8 : decode cX4_here 8 = .ok (.getfield 22, 3) := by decide +kernel
theorem dX4_here_11 : decode cX4_here 11 = .ok (.aload_n 0, 1) := by decide +kernel
theorem dX4_here_12 : decode cX4_here 12 = .ok (.getfield 19, 3) := by decide +kernel
theorem dX4_here_15 : decode cX4_here 15 = .ok (.if_icmp .ge 15, 3) := by decide +kernel
theorem dX4_here_18 : decode cX4_here 18 = .ok (.aload_n 0, 1) := by decide +kernel
theorem dX4_here_19 : decode cX4_here 19 = .ok (.getfield 15, 3) := by decide +kernel
theorem dX4_here_22 : decode cX4_here 22 = .ok (.aload_n 0, 1) := by decide +kernel
theorem dX4_here_23 : decode cX4_here 23 = .ok (.getfield 22, 3) := by decide +kernel
theorem dX4_here_26 : decode cX4_here 26 = .ok (.iaload, 1) := by decide +kernel
theorem dX4_here_27 : decode cX4_here 27 = .ok (.goto 4, 3) := by decide +kernel
theorem dX4_here_30 : decode cX4_here 30 = .ok (.iconst (-1), 1) := by decide +kernel
theorem dX4_here_31 : decode cX4_here 31 = .ok (.ireturn, 1) := by decide +kernel
