theorem dX6_init_0 : decode cX6_init 0 = .ok (.aload_n 0, 1) := by decide +kernel
theorem dX6_init_1 : decode cX6_init 1 = .ok (.invokespecial 1, 3) := by decide +kernel
theorem dX6_init_4 : decode cX6_init 4 = .ok (.iconst 2, 1) := by decide +kernel
theorem dX6_init_5 : decode cX6_init 5 = .ok (.bipush 20, 2) := by decide +kernel
theorem dX6_init_7 : decode cX6_init 7 = .ok (.iload_n 1, 1) := by decide +kernel
theorem dX6_init_8 : decode cX6_init 8 = .ok (.invokestatic 9, 3) := by decide +kernel
theorem dX6_init_11 : decode cX6_init 11 = .ok (.invokestatic 15, 3) := by decide +kernel
theorem dX6_init_14 : decode cX6_init 14 = .ok (.istore_n 2, 1) := by decide +kernel
theorem dX6_init_15 : decode cX6_init 15 = .ok (.aload_n 0, 1) := by decide +kernel
theorem dX6_init_16 : decode cX6_init 16 = .ok (.new 18, 3) := by decide +kernel
theorem dX6_init_19 : decode cX6_init 19 = .ok (.dup, 1) := by decide +kernel
theorem dX6_init_20 : decode cX6_init 20 = .ok (.iload_n 2, 1) := by decide +kernel
theorem dX6_init_21 : decode cX6_init 21 = .ok (.invokespecial 20, 3) := by decide +kernel
theorem dX6_init_24 : decode cX6_init 24 = .ok (.putfield 23, 3) := by decide +kernel
theorem dX6_init_27 : decode cX6_init 27 = .ok (.aload_n 0, 1) := by decide +kernel
theorem dX6_init_28 : decode cX6_init 28 = .ok (.iconst 4, 1) := by decide +kernel
theorem dX6_init_29 : decode cX6_init 29 = .ok (.anewarray 27, 3) := by decide +kernel
theorem dX6_init_32 : decode cX6_init 32 = .ok (.putfield 29, 3) := by decide +kernel
theorem dX6_init_35 : decode cX6_init 35 = .ok (.iconst 0, 1) := by decide +kernel
theorem dX6_init_36 : decode cX6_init 36 = .ok (.istore_n 3, 1) := by decide +kernel
theorem dX6_init_37 : decode cX6_init 37 = .ok (.iload_n 3, 1) := by decide +kernel
theorem dX6_init_38 : decode cX6_init 38 = .ok (.iconst 4, 1) := by decide +kernel
theorem dX6_init_39 : decode cX6_init 39 = .ok (.if_icmp .ge 22, 3) := by decide +kernel
theorem dX6_init_42 : decode cX6_init 42 = .ok (.aload_n 0, 1) := by decide +kernel
theorem dX6_init_43 : decode cX6_init 43 = .ok (.getfield 29, 3) := by decide +kernel
theorem dX6_init_46 : decode cX6_init 46 = .ok (.iload_n 3, 1) := by decide +kernel
theorem dX6_init_47 : decode cX6_init 47 = .ok (.new 27, 3) := by decide +kernel
theorem dX6_init_50 : decode cX6_init 50 = .ok (.dup, 1) := by decide +kernel
theorem dX6_init_51 : decode cX6_init 51 = .ok (.invokespecial 33, 3) := by decide +kernel
theorem dX6_init_54 : decode cX6_init 54 = .ok (.aastore, 1) := by decide +kernel
theorem dX6_init_55 : decode cX6_init 55 = .ok (.iinc 3 1, 3) := by decide +kernel
theorem dX6_init_58 : decode cX6_init 58 = .ok (.goto (-21), 3) := by decide +kernel
theorem dX6_init_61 : decode cX6_init 61 = .ok (.aload_n 0, 1) := by decide +kernel
theorem dX6_init_62 : decode cX6_init 62 = .ok (.new 34, 3) := by decide +kernel
theorem dX6_init_65 : decode cX6_init 65 = .ok (.dup, 1) := by decide +kernel
theorem dX6_init_66 : decode cX6_init 66 = .ok (.iload_n 2, 1) := by decide +kernel
theorem dX6_init_67 : decode cX6_init 67 = .ok (.invokespecial 36, 3) := by decide +kernel
theorem dX6_init_70 : decode cX6_init 70 = .ok (.putfield 37, 3) := by decide +kernel
theorem dX6_init_73 : decode cX6_init 73 = .ok (.aload_n 0, 1) := by decide +kernel
theorem dX6_init_74 : decode cX6_init 74 = .ok (.new 41, 3) := by decide +kernel
theorem dX6_init_77 : decode cX6_init 77 = .ok (.dup, 1) := by decide +kernel
theorem dX6_init_78 : decode cX6_init 78 = .ok (.invokespecial 43, 3) := by decide +kernel
theorem dX6_init_81 : decode cX6_init 81 = .ok (.putfield 44, 3) := by decide +kernel
theorem dX6_init_84 : decode cX6_init 84 = .ok (.aload_n 0, 1) := by decide +kernel
theorem dX6_init_85 : decode cX6_init 85 = .ok (.new 48, 3) := by decide +kernel
theorem dX6_init_88 : decode cX6_init 88 = .ok (.dup, 1) := by decide +kernel
theorem dX6_init_89 : decode cX6_init 89 = .ok (.iload_n 2, 1) := by decide +kernel
theorem dX6_init_90 : decode cX6_init 90 = .ok (.invokespecial 50, 3) := by decide +kernel
theorem dX6_init_93 : decode cX6_init 93 = .ok (.putfield 51, 3) := by decide +kernel
theorem dX6_init_96 : decode cX6_init 96 = .ok (.aload_n 0, 1) := by decide +kernel
theorem dX6_init_97 : decode cX6_init 97 = .ok (.new 55, 3) := by decide +kernel
theorem dX6_init_100 : decode cX6_init 100 = .ok (.dup, 1) := by decide +kernel
theorem dX6_init_101 : decode cX6_init 101 = .ok (.invokespecial 57, 3) := by decide +kernel
theorem dX6_init_104 : decode cX6_init 104 = .ok (.putfield 58, 3) := by decide +kernel
theorem dX6_init_107 : decode cX6_init 107 = .ok (.aload_n 0, 1) := by decide +kernel
theorem dX6_init_108 : decode cX6_init 108 = .ok (.new 55, 3) := by decide +kernel
theorem dX6_init_111 : decode cX6_init 111 = .ok (.dup, 1) := by decide +kernel
theorem dX6_init_112 : decode cX6_init 112 = .ok (.invokespecial 57, 3) := by decide +kernel
theorem dX6_init_115 : decode cX6_init 115 = .ok (.putfield 62, 3) := by decide +kernel
theorem dX6_init_118 : decode cX6_init 118 = .ok (.return_, 1) := by decide +kernel
theorem dX6_target_0 : decode cX6_target 0 = .ok (.aload_n 0, 1) := by decide +kernel
theorem dX6_target_1 : decode cX6_target 1 = .ok (.iload_n 1, 1) := by decide +kernel
theorem dX6_target_2 : decode cX6_target 2 = .ok (.iload_n 2, 1) := by decide +kernel
theorem dX6_target_3 : decode cX6_target 3 = .ok (.iload_n 3, 1) := by decide +kernel
theorem dX6_target_4 : decode cX6_target 4 = .ok (.iload 4, 2) := by decide +kernel
theorem dX6_target_6 : decode cX6_target 6 = .ok (.invokevirtual 65, 3) := by decide +kernel
theorem dX6_target_9 : decode cX6_target 9 = .ok (.iload 5, 2) := by decide +kernel
theorem dX6_target_11 : decode cX6_target 11 = .ok (.ifCond .lt 10, 3) := by decide +kernel
theorem dX6_target_14 : decode cX6_target 14 = .ok (.iload 5, 2) := by decide +kernel
theorem dX6_target_16 : decode cX6_target 16 = .ok (.bipush 100, 2) := by decide +kernel
theorem dX6_target_18 : decode cX6_target 18 = .ok (.if_icmp .le 13, 3) := by decide +kernel
theorem dX6_target_21 : decode cX6_target 21 = .ok (.new 69, 3) := by decide +kernel
theorem dX6_target_24 : decode cX6_target 24 = .ok (.dup, 1) := by decide +kernel
theorem dX6_target_25 : decode cX6_target 25 = .ok (.ldc 71, 2) := by decide +kernel
theorem dX6_target_27 : decode cX6_target 27 = .ok (.invokespecial 73, 3) := by decide +kernel
theorem dX6_target_30 : decode cX6_target 30 = .ok (.athrow, 1) := by decide +kernel
theorem dX6_target_31 : decode cX6_target 31 = .ok (.aload_n 0, 1) := by decide +kernel
theorem dX6_target_32 : decode cX6_target 32 = .ok (.getfield 23, 3) := by decide +kernel
theorem dX6_target_35 : decode cX6_target 35 = .ok (.iload_n 1, 1) := by decide +kernel
theorem dX6_target_36 : decode cX6_target 36 = .ok (.iload_n 2, 1) := by decide +kernel
theorem dX6_target_37 : decode cX6_target 37 = .ok (.iload_n 3, 1) := by decide +kernel
theorem dX6_target_38 : decode cX6_target 38 = .ok (.iload 4, 2) := by decide +kernel
theorem dX6_target_40 : decode cX6_target 40 = .ok (.iload 5, 2) := by decide +kernel
theorem dX6_target_42 : decode cX6_target 42 = .ok (.invokevirtual 76, 3) := by decide +kernel
theorem dX6_target_45 : decode cX6_target 45 = .ok (.return_, 1) := by decide +kernel
theorem dX6_keep_0 : decode cX6_keep 0 = .ok (.aload_n 0, 1) := by decide +kernel
theorem dX6_keep_1 : decode cX6_keep 1 = .ok (.iload_n 1, 1) := by decide +kernel
theorem dX6_keep_2 : decode cX6_keep 2 = .ok (.iload_n 2, 1) := by decide +kernel
theorem dX6_keep_3 : decode cX6_keep 3 = .ok (.iload_n 3, 1) := by decide +kernel
theorem dX6_keep_4 : decode cX6_keep 4 = .ok (.iload 4, 2) := by decide +kernel
theorem dX6_keep_6 : decode cX6_keep 6 = .ok (.invokevirtual 65, 3) := by decide +kernel
theorem dX6_keep_9 : decode cX6_keep 9 = .ok (.aload_n 0, 1) := by decide +kernel
theorem dX6_keep_10 : decode cX6_keep 10 = .ok (.getfield 23, 3) := by decide +kernel
theorem dX6_keep_13 : decode cX6_keep 13 = .ok (.iload_n 1, 1) := by decide +kernel
theorem dX6_keep_14 : decode cX6_keep 14 = .ok (.iload_n 2, 1) := by decide +kernel
theorem dX6_keep_15 : decode cX6_keep 15 = .ok (.iload_n 3, 1) := by decide +kernel
theorem dX6_keep_16 : decode cX6_keep 16 = .ok (.iload 4, 2) := by decide +kernel
theorem dX6_keep_18 : decode cX6_keep 18 = .ok (.iload 5, 2) := by decide +kernel
theorem dX6_keep_20 : decode cX6_keep 20 = .ok (.invokevirtual 80, 3) := by decide +kernel
theorem dX6_keep_23 : decode cX6_keep 23 = .ok (.return_, 1) := by decide +kernel
theorem dX6_tool_0 : decode cX6_tool 0 = .ok (.iload_n 1, 1) := by decide +kernel
theorem dX6_tool_1 : decode cX6_tool 1 = .ok (.invokestatic 84, 3) := by decide +kernel
theorem dX6_tool_4 : decode cX6_tool 4 = .ok (.iload_n 2, 1) := by decide +kernel
theorem dX6_tool_5 : decode cX6_tool 5 = .ok (.ifCond .lt 9, 3) := by decide +kernel
theorem dX6_tool_8 : decode cX6_tool 8 = .ok (.iload_n 2, 1) := by decide +kernel
theorem dX6_tool_9 : decode cX6_tool 9 = .ok (.bipush 6, 2) := by decide +kernel
theorem dX6_tool_11 : decode cX6_tool 11 = .ok (.if_icmp .le 13, 3) := by decide +kernel
theorem dX6_tool_14 : decode cX6_tool 14 = .ok (.new 69, 3) := by decide +kernel
theorem dX6_tool_17 : decode cX6_tool 17 = .ok (.dup, 1) := by decide +kernel
theorem dX6_tool_18 : decode cX6_tool 18 = .ok (.ldc 87, 2) := by decide +kernel
theorem dX6_tool_20 : decode cX6_tool 20 = .ok (.invokespecial 73, 3) := by decide +kernel
theorem dX6_tool_23 : decode cX6_tool 23 = .ok (.athrow, 1) := by decide +kernel
theorem dX6_tool_24 : decode cX6_tool 24 = .ok (.iload_n 3, 1) := by decide +kernel
theorem dX6_tool_25 : decode cX6_tool 25 = .ok (.iconst 1, 1) := by decide +kernel
theorem dX6_tool_26 : decode cX6_tool 26 = .ok (.if_icmp .lt 9, 3) := by decide +kernel
theorem dX6_tool_29 : decode cX6_tool 29 = .ok (.iload_n 3, 1) := by decide +kernel
theorem dX6_tool_30 : decode cX6_tool 30 = .ok (.bipush 10, 2) := by decide +kernel
theorem dX6_tool_32 : decode cX6_tool 32 = .ok (.if_icmp .le 13, 3) := by decide +kernel
theorem dX6_tool_35 : decode cX6_tool 35 = .ok (.new 69, 3) := by decide +kernel
theorem dX6_tool_38 : decode cX6_tool 38 = .ok (.dup, 1) := by decide +kernel
theorem dX6_tool_39 : decode cX6_tool 39 = .ok (.ldc 89, 2) := by decide +kernel
theorem dX6_tool_41 : decode cX6_tool 41 = .ok (.invokespecial 73, 3) := by decide +kernel
theorem dX6_tool_44 : decode cX6_tool 44 = .ok (.athrow, 1) := by decide +kernel
theorem dX6_tool_45 : decode cX6_tool 45 = .ok (.aload_n 0, 1) := by decide +kernel
theorem dX6_tool_46 : decode cX6_tool 46 = .ok (.getfield 29, 3) := by decide +kernel
theorem dX6_tool_49 : decode cX6_tool 49 = .ok (.iload_n 1, 1) := by decide +kernel
theorem dX6_tool_50 : decode cX6_tool 50 = .ok (.aaload, 1) := by decide +kernel
theorem dX6_tool_51 : decode cX6_tool 51 = .ok (.iload_n 2, 1) := by decide +kernel
theorem dX6_tool_52 : decode cX6_tool 52 = .ok (.iload_n 3, 1) := by decide +kernel
theorem dX6_tool_53 : decode cX6_tool 53 = .ok (.invokevirtual 91, 3) := by decide +kernel
theorem dX6_tool_56 : decode cX6_tool 56 = .ok (.return_, 1) := by decide +kernel
theorem dX6_unit_0 : decode cX6_unit 0 = .ok (.aload_n 0, 1) := by decide +kernel
theorem dX6_unit_1 : decode cX6_unit 1 = .ok (.getfield 37, 3) := by decide +kernel
theorem dX6_unit_4 : decode cX6_unit 4 = .ok (.iload_n 1, 1) := by decide +kernel
theorem dX6_unit_5 : decode cX6_unit 5 = .ok (.invokevirtual 95, 3) := by decide +kernel
theorem dX6_unit_8 : decode cX6_unit 8 = .ok (.ireturn, 1) := by decide +kernel
theorem dX6_read_0 : decode cX6_read 0 = .ok (.aload_n 0, 1) := by decide +kernel
theorem dX6_read_1 : decode cX6_read 1 = .ok (.getfield 37, 3) := by decide +kernel
theorem dX6_read_4 : decode cX6_read 4 = .ok (.aload_n 0, 1) := by decide +kernel
theorem dX6_read_5 : decode cX6_read 5 = .ok (.getfield 62, 3) := by decide +kernel
theorem dX6_read_8 : decode cX6_read 8 = .ok (.invokevirtual 99, 3) := by decide +kernel
theorem dX6_read_11 : decode cX6_read 11 = .ok (.istore_n 1, 1) := by decide +kernel
theorem dX6_read_12 : decode cX6_read 12 = .ok (.iload_n 1, 1) := by decide +kernel
theorem dX6_read_13 : decode cX6_read 13 = .ok (.ifCond .lt 21, 3) := by decide +kernel
theorem dX6_read_16 : decode cX6_read 16 = .ok (.aload_n 0, 1) := by decide +kernel
theorem dX6_read_17 : decode cX6_read 17 = .ok (.getfield 62, 3) := by decide +kernel
theorem dX6_read_20 : decode cX6_read 20 = .ok (.astore_n 2, 1) := by decide +kernel
theorem dX6_read_21 : decode cX6_read 21 = .ok (.aload_n 0, 1) := by decide +kernel
theorem dX6_read_22 : decode cX6_read 22 = .ok (.aload_n 0, 1) := by decide +kernel
theorem dX6_read_23 : decode cX6_read 23 = .ok (.getfield 58, 3) := by decide +kernel
theorem dX6_read_26 : decode cX6_read 26 = .ok (.putfield 62, 3) := by decide +kernel
theorem dX6_read_29 : decode cX6_read 29 = .ok (.aload_n 0, 1) := by decide +kernel
theorem dX6_read_30 : decode cX6_read 30 = .ok (.aload_n 2, 1) := by decide +kernel
theorem dX6_read_31 : decode cX6_read 31 = .ok (.putfield 58, 3) := by decide +kernel
theorem dX6_read_34 : decode cX6_read 34 = .ok (.iload_n 1, 1) := by decide +kernel
theorem dX6_read_35 : decode cX6_read 35 = .ok (.ireturn, 1) := by decide +kernel
theorem dX6_run_0 : decode cX6_run 0 = .ok (.aload_n 0, 1) := by decide +kernel
theorem dX6_run_1 : decode cX6_run 1 = .ok (.getfield 58, 3) := by decide +kernel
theorem dX6_run_4 : decode cX6_run 4 = .ok (.getfield 103, 3) := by decide +kernel
theorem dX6_run_7 : decode cX6_run 7 = .ok (.ifCond .ne 13, 3) := by decide +kernel
theorem dX6_run_10 : decode cX6_run 10 = .ok (.new 107, 3) := by decide +kernel
theorem dX6_run_13 : decode cX6_run 13 = .ok (.dup, 1) := by decide +kernel
theorem dX6_run_14 : decode cX6_run 14 = .ok (.ldc 109, 2) := by decide +kernel
theorem dX6_run_16 : decode cX6_run 16 = .ok (.invokespecial 111, 3) := by decide +kernel
theorem dX6_run_19 : decode cX6_run 19 = .ok (.athrow, 1) := by decide +kernel
theorem dX6_run_20 : decode cX6_run 20 = .ok (.aload_n 0, 1) := by decide +kernel
theorem dX6_run_21 : decode cX6_run 21 = .ok (.getfield 44, 3) := by decide +kernel
theorem dX6_run_24 : decode cX6_run 24 = .ok (.aload_n 0, 1) := by decide +kernel
theorem dX6_run_25 : decode cX6_run 25 = .ok (.getfield 58, 3) := by decide +kernel
theorem dX6_run_28 : decode cX6_run 28 = .ok (.aload_n 0, 1) := by decide +kernel
theorem dX6_run_29 : decode cX6_run 29 = .ok (.getfield 23, 3) := by decide +kernel
theorem dX6_run_32 : decode cX6_run 32 = .ok (.aload_n 0, 1) := by decide +kernel
theorem dX6_run_33 : decode cX6_run 33 = .ok (.getfield 29, 3) := by decide +kernel
theorem dX6_run_36 : decode cX6_run 36 = .ok (.invokevirtual 112, 3) := by decide +kernel
theorem dX6_run_39 : decode cX6_run 39 = .ok (.ireturn, 1) := by decide +kernel
theorem dX6_about_0 : decode cX6_about 0 = .ok (.iload_n 1, 1) := by decide +kernel
theorem dX6_about_1 : decode cX6_about 1 = .ok (.iconst 5, 1) := by decide +kernel
theorem dX6_about_2 : decode cX6_about 2 = .ok (.invokestatic 116, 3) := by decide +kernel
theorem dX6_about_5 : decode cX6_about 5 = .ok (.aload_n 0, 1) := by decide +kernel
theorem dX6_about_6 : decode cX6_about 6 = .ok (.getfield 44, 3) := by decide +kernel
theorem dX6_about_9 : decode cX6_about 9 = .ok (.getfield 119, 3) := by decide +kernel
theorem dX6_about_12 : decode cX6_about 12 = .ok (.ifCond .ne 13, 3) := by decide +kernel
theorem dX6_about_15 : decode cX6_about 15 = .ok (.new 107, 3) := by decide +kernel
theorem dX6_about_18 : decode cX6_about 18 = .ok (.dup, 1) := by decide +kernel
theorem dX6_about_19 : decode cX6_about 19 = .ok (.ldc 123, 2) := by decide +kernel
theorem dX6_about_21 : decode cX6_about 21 = .ok (.invokespecial 111, 3) := by decide +kernel
theorem dX6_about_24 : decode cX6_about 24 = .ok (.athrow, 1) := by decide +kernel
theorem dX6_about_25 : decode cX6_about 25 = .ok (.iload_n 1, 1) := by decide +kernel
theorem dX6_about_26 : decode cX6_about 26 = .ok (.tableswitch 74 0 4 #[34, 42, 50, 58, 66], 34) := by decide +kernel
theorem dX6_about_60 : decode cX6_about 60 = .ok (.aload_n 0, 1) := by decide +kernel
theorem dX6_about_61 : decode cX6_about 61 = .ok (.getfield 44, 3) := by decide +kernel
theorem dX6_about_64 : decode cX6_about 64 = .ok (.getfield 125, 3) := by decide +kernel
theorem dX6_about_67 : decode cX6_about 67 = .ok (.ireturn, 1) := by decide +kernel
theorem dX6_about_68 : decode cX6_about 68 = .ok (.aload_n 0, 1) := by decide +kernel
theorem dX6_about_69 : decode cX6_about 69 = .ok (.getfield 44, 3) := by decide +kernel
theorem dX6_about_72 : decode cX6_about 72 = .ok (.getfield 128, 3) := by decide +kernel
theorem dX6_about_75 : decode cX6_about 75 = .ok (.ireturn, 1) := by decide +kernel
theorem dX6_about_76 : decode cX6_about 76 = .ok (.aload_n 0, 1) := by decide +kernel
theorem dX6_about_77 : decode cX6_about 77 = .ok (.getfield 44, 3) := by decide +kernel
theorem dX6_about_80 : decode cX6_about 80 = .ok (.getfield 131, 3) := by decide +kernel
theorem dX6_about_83 : decode cX6_about 83 = .ok (.ireturn, 1) := by decide +kernel
theorem dX6_about_84 : decode cX6_about 84 = .ok (.aload_n 0, 1) := by decide +kernel
theorem dX6_about_85 : decode cX6_about 85 = .ok (.getfield 44, 3) := by decide +kernel
theorem dX6_about_88 : decode cX6_about 88 = .ok (.getfield 134, 3) := by decide +kernel
theorem dX6_about_91 : decode cX6_about 91 = .ok (.ireturn, 1) := by decide +kernel
theorem dX6_about_92 : decode cX6_about 92 = .ok (.aload_n 0, 1) := by decide +kernel
theorem dX6_about_93 : decode cX6_about 93 = .ok (.getfield 44, 3) := by decide +kernel
theorem dX6_about_96 : decode cX6_about 96 = .ok (.getfield 137, 3) := by decide +kernel
theorem dX6_about_99 : decode cX6_about 99 = .ok (.ireturn, 1) := by decide +kernel
theorem dX6_about_100 : decode cX6_about 100 = .ok (.aload_n 0, 1) := by decide +kernel
theorem dX6_about_101 : decode cX6_about 101 = .ok (.getfield 44, 3) := by decide +kernel
theorem dX6_about_104 : decode cX6_about 104 = .ok (.getfield 140, 3) := by decide +kernel
theorem dX6_about_107 : decode cX6_about 107 = .ok (.ireturn, 1) := by decide +kernel
theorem dX6_cell_0 : decode cX6_cell 0 = .ok (.aload_n 0, 1) := by decide +kernel
theorem dX6_cell_1 : decode cX6_cell 1 = .ok (.iload_n 1, 1) := by decide +kernel
theorem dX6_cell_2 : decode cX6_cell 2 = .ok (.iload_n 2, 1) := by decide +kernel
theorem dX6_cell_3 : decode cX6_cell 3 = .ok (.invokevirtual 143, 3) := by decide +kernel
theorem dX6_cell_6 : decode cX6_cell 6 = .ok (.iload_n 3, 1) := by decide +kernel
theorem dX6_cell_7 : decode cX6_cell 7 = .ok (.iconst 2, 1) := by decide +kernel
theorem dX6_cell_8 : decode cX6_cell 8 = .ok (.invokestatic 116, 3) := by decide +kernel
theorem dX6_cell_11 : decode cX6_cell 11 = .ok (.aload_n 0, 1) := by decide +kernel
theorem dX6_cell_12 : decode cX6_cell 12 = .ok (.getfield 23, 3) := by decide +kernel
theorem dX6_cell_15 : decode cX6_cell 15 = .ok (.iload_n 1, 1) := by decide +kernel
theorem dX6_cell_16 : decode cX6_cell 16 = .ok (.iload_n 2, 1) := by decide +kernel
theorem dX6_cell_17 : decode cX6_cell 17 = .ok (.invokevirtual 146, 3) := by decide +kernel
theorem dX6_cell_20 : decode cX6_cell 20 = .ok (.istore 4, 2) := by decide +kernel
theorem dX6_cell_22 : decode cX6_cell 22 = .ok (.iload_n 3, 1) := by decide +kernel
theorem dX6_cell_23 : decode cX6_cell 23 = .ok (.lookupswitch 47 #[(0, 25), (1, 36)], 25) := by decide +kernel
theorem dX6_cell_48 : decode cX6_cell 48 = .ok (.aload_n 0, 1) := by decide +kernel
theorem dX6_cell_49 : decode cX6_cell 49 = .ok (.getfield 23, 3) := by decide +kernel
theorem dX6_cell_52 : decode cX6_cell 52 = .ok (.getfield 149, 3) := by decide +kernel
theorem dX6_cell_55 : decode cX6_cell 55 = .ok (.iload 4, 2) := by decide +kernel
theorem dX6_cell_57 : decode cX6_cell 57 = .ok (.iaload, 1) := by decide +kernel
theorem dX6_cell_58 : decode cX6_cell 58 = .ok (.ireturn, 1) := by decide +kernel
theorem dX6_cell_59 : decode cX6_cell 59 = .ok (.aload_n 0, 1) := by decide +kernel
theorem dX6_cell_60 : decode cX6_cell 60 = .ok (.getfield 23, 3) := by decide +kernel
theorem dX6_cell_63 : decode cX6_cell 63 = .ok (.getfield 153, 3) := by decide +kernel
theorem dX6_cell_66 : decode cX6_cell 66 = .ok (.iload 4, 2) := by decide +kernel
theorem dX6_cell_68 : decode cX6_cell 68 = .ok (.iaload, 1) := by decide +kernel
theorem dX6_cell_69 : decode cX6_cell 69 = .ok (.ireturn, 1) := by decide +kernel
theorem dX6_cell_70 : decode cX6_cell 70 = .ok (.aload_n 0, 1) := by decide +kernel
theorem dX6_cell_71 : decode cX6_cell 71 = .ok (.getfield 23, 3) := by decide +kernel
theorem dX6_cell_74 : decode cX6_cell 74 = .ok (.getfield 156, 3) := by decide +kernel
theorem dX6_cell_77 : decode cX6_cell 77 = .ok (.iload 4, 2) := by decide +kernel
theorem dX6_cell_79 : decode cX6_cell 79 = .ok (.baload, 1) := by decide +kernel
theorem dX6_cell_80 : decode cX6_cell 80 = .ok (.ifCond .eq 7, 3) := by decide +kernel
theorem dX6_cell_83 : decode cX6_cell 83 = .ok (.iconst 1, 1) := by decide +kernel
theorem dX6_cell_84 : decode cX6_cell 84 = .ok (.goto 4, 3) := by decide +kernel
theorem dX6_cell_87 : decode cX6_cell 87 = .ok (.iconst 0, 1) := by decide +kernel
theorem dX6_cell_88 : decode cX6_cell 88 = .ok (.ireturn, 1) := by decide +kernel
theorem dX6_check_0 : decode cX6_check 0 = .ok (.iload_n 1, 1) := by decide +kernel
theorem dX6_check_1 : decode cX6_check 1 = .ok (.iconst 3, 1) := by decide +kernel
theorem dX6_check_2 : decode cX6_check 2 = .ok (.invokestatic 116, 3) := by decide +kernel
theorem dX6_check_5 : decode cX6_check 5 = .ok (.iload_n 1, 1) := by decide +kernel
theorem dX6_check_6 : decode cX6_check 6 = .ok (.tableswitch 53 0 2 #[26, 35, 44], 26) := by decide +kernel
theorem dX6_check_32 : decode cX6_check 32 = .ok (.aload_n 0, 1) := by decide +kernel
theorem dX6_check_33 : decode cX6_check 33 = .ok (.getfield 23, 3) := by decide +kernel
theorem dX6_check_36 : decode cX6_check 36 = .ok (.iconst 1, 1) := by decide +kernel
theorem dX6_check_37 : decode cX6_check 37 = .ok (.invokevirtual 160, 3) := by decide +kernel
theorem dX6_check_40 : decode cX6_check 40 = .ok (.ireturn, 1) := by decide +kernel
theorem dX6_check_41 : decode cX6_check 41 = .ok (.aload_n 0, 1) := by decide +kernel
theorem dX6_check_42 : decode cX6_check 42 = .ok (.getfield 23, 3) := by decide +kernel
theorem dX6_check_45 : decode cX6_check 45 = .ok (.iconst 0, 1) := by decide +kernel
theorem dX6_check_46 : decode cX6_check 46 = .ok (.invokevirtual 160, 3) := by decide +kernel
theorem dX6_check_49 : decode cX6_check 49 = .ok (.ireturn, 1) := by decide +kernel
theorem dX6_check_50 : decode cX6_check 50 = .ok (.aload_n 0, 1) := by decide +kernel
theorem dX6_check_51 : decode cX6_check 51 = .ok (.getfield 23, 3) := by decide +kernel
theorem dX6_check_54 : decode cX6_check 54 = .ok (.iconst 1, 1) := by decide +kernel
theorem dX6_check_55 : decode cX6_check 55 = .ok (.invokevirtual 164, 3) := by decide +kernel
theorem dX6_check_58 : decode cX6_check 58 = .ok (.ireturn, 1) := by decide +kernel
theorem dX6_check_59 : decode cX6_check 59 = .ok (.aload_n 0, 1) := by decide +kernel
theorem dX6_check_60 : decode cX6_check 60 = .ok (.getfield 23, 3) := by decide +kernel
theorem dX6_check_63 : decode cX6_check 63 = .ok (.iconst 0, 1) := by decide +kernel
theorem dX6_check_64 : decode cX6_check 64 = .ok (.invokevirtual 164, 3) := by decide +kernel
theorem dX6_check_67 : decode cX6_check 67 = .ok (.ireturn, 1) := by decide +kernel
theorem dX6_reached_0 : decode cX6_reached 0 = .ok (.iload_n 1, 1) := by decide +kernel
theorem dX6_reached_1 : decode cX6_reached 1 = .ok (.invokestatic 84, 3) := by decide +kernel
theorem dX6_reached_4 : decode cX6_reached 4 = .ok (.aload_n 0, 1) := by decide +kernel
theorem dX6_reached_5 : decode cX6_reached 5 = .ok (.getfield 23, 3) := by decide +kernel
theorem dX6_reached_8 : decode cX6_reached 8 = .ok (.aload_n 0, 1) := by decide +kernel
theorem dX6_reached_9 : decode cX6_reached 9 = .ok (.getfield 29, 3) := by decide +kernel
theorem dX6_reached_12 : decode cX6_reached 12 = .ok (.iload_n 1, 1) := by decide +kernel
theorem dX6_reached_13 : decode cX6_reached 13 = .ok (.aaload, 1) := by decide +kernel
theorem dX6_reached_14 : decode cX6_reached 14 = .ok (.invokevirtual 167, 3) := by decide +kernel
theorem dX6_reached_17 : decode cX6_reached 17 = .ok (.ireturn, 1) := by decide +kernel
theorem dX6_pieces_0 : decode cX6_pieces 0 = .ok (.aload_n 0, 1) := by decide +kernel
theorem dX6_pieces_1 : decode cX6_pieces 1 = .ok (.getfield 51, 3) := by decide +kernel
theorem dX6_pieces_4 : decode cX6_pieces 4 = .ok (.aload_n 0, 1) := by decide +kernel
theorem dX6_pieces_5 : decode cX6_pieces 5 = .ok (.getfield 23, 3) := by decide +kernel
theorem dX6_pieces_8 : decode cX6_pieces 8 = .ok (.invokevirtual 171, 3) := by decide +kernel
theorem dX6_pieces_11 : decode cX6_pieces 11 = .ok (.ireturn, 1) := by decide +kernel
theorem dX6_blank_0 : decode cX6_blank 0 = .ok (.aload_n 0, 1) := by decide +kernel
theorem dX6_blank_1 : decode cX6_blank 1 = .ok (.getfield 23, 3) := by decide +kernel
theorem dX6_blank_4 : decode cX6_blank 4 = .ok (.invokevirtual 174, 3) := by decide +kernel
theorem dX6_blank_7 : decode cX6_blank 7 = .ok (.return_, 1) := by decide +kernel
theorem dX6_demandBlock_0 : decode cX6_demandBlock 0 = .ok (.aload_n 0, 1) := by decide +kernel
theorem dX6_demandBlock_1 : decode cX6_demandBlock 1 = .ok (.iload_n 1, 1) := by decide +kernel
theorem dX6_demandBlock_2 : decode cX6_demandBlock 2 = .ok (.iload_n 2, 1) := by decide +kernel
theorem dX6_demandBlock_3 : decode cX6_demandBlock 3 = .ok (.invokevirtual 143, 3) := by decide +kernel
theorem dX6_demandBlock_6 : decode cX6_demandBlock 6 = .ok (.aload_n 0, 1) := by decide +kernel
theorem dX6_demandBlock_7 : decode cX6_demandBlock 7 = .ok (.iload_n 3, 1) := by decide +kernel
theorem dX6_demandBlock_8 : decode cX6_demandBlock 8 = .ok (.iload 4, 2) := by decide +kernel
theorem dX6_demandBlock_10 : decode cX6_demandBlock 10 = .ok (.invokevirtual 143, 3) := by decide +kernel
theorem dX6_demandBlock_13 : decode cX6_demandBlock 13 = .ok (.iload_n 3, 1) := by decide +kernel
theorem dX6_demandBlock_14 : decode cX6_demandBlock 14 = .ok (.iload_n 1, 1) := by decide +kernel
theorem dX6_demandBlock_15 : decode cX6_demandBlock 15 = .ok (.if_icmp .lt 9, 3) := by decide +kernel
theorem dX6_demandBlock_18 : decode cX6_demandBlock 18 = .ok (.iload 4, 2) := by decide +kernel
theorem dX6_demandBlock_20 : decode cX6_demandBlock 20 = .ok (.iload_n 2, 1) := by decide +kernel
theorem dX6_demandBlock_21 : decode cX6_demandBlock 21 = .ok (.if_icmp .ge 13, 3) := by decide +kernel
theorem dX6_demandBlock_24 : decode cX6_demandBlock 24 = .ok (.new 69, 3) := by decide +kernel
theorem dX6_demandBlock_27 : decode cX6_demandBlock 27 = .ok (.dup, 1) := by decide +kernel
theorem dX6_demandBlock_28 : decode cX6_demandBlock 28 = .ok (.ldc 177, 2) := by decide +kernel
theorem dX6_demandBlock_30 : decode cX6_demandBlock 30 = .ok (.invokespecial 73, 3) := by decide +kernel
theorem dX6_demandBlock_33 : decode cX6_demandBlock 33 = .ok (.athrow, 1) := by decide +kernel
theorem dX6_demandBlock_34 : decode cX6_demandBlock 34 = .ok (.return_, 1) := by decide +kernel
theorem dX6_demandCell_0 : decode cX6_demandCell 0 = .ok (.aload_n 0, 1) := by decide +kernel
theorem dX6_demandCell_1 : decode cX6_demandCell 1 = .ok (.getfield 23, 3) := by decide +kernel
theorem dX6_demandCell_4 : decode cX6_demandCell 4 = .ok (.iload_n 1, 1) := by decide +kernel
theorem dX6_demandCell_5 : decode cX6_demandCell 5 = .ok (.iload_n 2, 1) := by decide +kernel
theorem dX6_demandCell_6 : decode cX6_demandCell 6 = .ok (.invokevirtual 179, 3) := by decide +kernel
theorem dX6_demandCell_9 : decode cX6_demandCell 9 = .ok (.ifCond .ne 13, 3) := by decide +kernel
theorem dX6_demandCell_12 : decode cX6_demandCell 12 = .ok (.new 183, 3) := by decide +kernel
theorem dX6_demandCell_15 : decode cX6_demandCell 15 = .ok (.dup, 1) := by decide +kernel
theorem dX6_demandCell_16 : decode cX6_demandCell 16 = .ok (.ldc 185, 2) := by decide +kernel
theorem dX6_demandCell_18 : decode cX6_demandCell 18 = .ok (.invokespecial 187, 3) := by decide +kernel
theorem dX6_demandCell_21 : decode cX6_demandCell 21 = .ok (.athrow, 1) := by decide +kernel
theorem dX6_demandCell_22 : decode cX6_demandCell 22 = .ok (.return_, 1) := by decide +kernel
theorem dX6_demandTool_0 : decode cX6_demandTool 0 = .ok (.iload_n 0, 1) := by decide +kernel
theorem dX6_demandTool_1 : decode cX6_demandTool 1 = .ok (.ifCond .lt 8, 3) := by decide +kernel
theorem dX6_demandTool_4 : decode cX6_demandTool 4 = .ok (.iload_n 0, 1) := by decide +kernel
theorem dX6_demandTool_5 : decode cX6_demandTool 5 = .ok (.iconst 4, 1) := by decide +kernel
theorem dX6_demandTool_6 : decode cX6_demandTool 6 = .ok (.if_icmp .lt 13, 3) := by decide +kernel
theorem dX6_demandTool_9 : decode cX6_demandTool 9 = .ok (.new 183, 3) := by decide +kernel
theorem dX6_demandTool_12 : decode cX6_demandTool 12 = .ok (.dup, 1) := by decide +kernel
theorem dX6_demandTool_13 : decode cX6_demandTool 13 = .ok (.ldc 188, 2) := by decide +kernel
theorem dX6_demandTool_15 : decode cX6_demandTool 15 = .ok (.invokespecial 187, 3) := by decide +kernel
theorem dX6_demandTool_18 : decode cX6_demandTool 18 = .ok (.athrow, 1) := by decide +kernel
theorem dX6_demandTool_19 : decode cX6_demandTool 19 = .ok (.return_, 1) := by decide +kernel
theorem dX6_demandWhat_0 : decode cX6_demandWhat 0 = .ok (.iload_n 0, 1) := by decide +kernel
theorem dX6_demandWhat_1 : decode cX6_demandWhat 1 = .ok (.ifCond .lt 8, 3) := by decide +kernel
theorem dX6_demandWhat_4 : decode cX6_demandWhat 4 = .ok (.iload_n 0, 1) := by decide +kernel
theorem dX6_demandWhat_5 : decode cX6_demandWhat 5 = .ok (.iload_n 1, 1) := by decide +kernel
theorem dX6_demandWhat_6 : decode cX6_demandWhat 6 = .ok (.if_icmp .le 13, 3) := by decide +kernel
theorem dX6_demandWhat_9 : decode cX6_demandWhat 9 = .ok (.new 183, 3) := by decide +kernel
theorem dX6_demandWhat_12 : decode cX6_demandWhat 12 = .ok (.dup, 1) := by decide +kernel
theorem dX6_demandWhat_13 : decode cX6_demandWhat 13 = .ok (.ldc 190, 2) := by decide +kernel
theorem dX6_demandWhat_15 : decode cX6_demandWhat 15 = .ok (.invokespecial 187, 3) := by decide +kernel
theorem dX6_demandWhat_18 : decode cX6_demandWhat 18 = .ok (.athrow, 1) := by decide +kernel
theorem dX6_demandWhat_19 : decode cX6_demandWhat 19 = .ok (.return_, 1) := by decide +kernel
theorem dL_cell1_0 : decode cL_cell1 0 = .ok (.iload_n 1, 1) := by decide +kernel
theorem dL_cell1_1 : decode cL_cell1 1 = .ok (.aload_n 0, 1) := by decide +kernel
theorem dL_cell1_2 : decode cL_cell1 2 = .ok (.arraylength, 1) := by decide +kernel
theorem dL_cell1_3 : decode cL_cell1 3 = .ok (.if_icmp .ge 9, 3) := by decide +kernel
theorem dL_cell1_6 : decode cL_cell1 6 = .ok (.aload_n 0, 1) := by decide +kernel
theorem dL_cell1_7 : decode cL_cell1 7 = .ok (.iload_n 1, 1) := by decide +kernel
theorem dL_cell1_8 : decode cL_cell1 8 = .ok (.iaload, 1) := by decide +kernel
theorem dL_cell1_9 : decode cL_cell1 9 = .ok (.goto 4, 3) := by decide +kernel
theorem dL_cell1_12 : decode cL_cell1 12 = .ok (.iconst 0, 1) := by decide +kernel
theorem dL_cell1_13 : decode cL_cell1 13 = .ok (.ireturn, 1) := by decide +kernel
theorem dL_target_0 : decode cL_target 0 = .ok (.aload_n 0, 1) := by decide +kernel
theorem dL_target_1 : decode cL_target 1 = .ok (.iload_n 1, 1) := by decide +kernel
theorem dL_target_2 : decode cL_target 2 = .ok (.iload_n 2, 1) := by decide +kernel
theorem dL_target_3 : decode cL_target 3 = .ok (.iload_n 3, 1) := by decide +kernel
theorem dL_target_4 : decode cL_target 4 = .ok (.iload 4, 2) := by decide +kernel
theorem dL_target_6 : decode cL_target 6 = .ok (.iload 5, 2) := by decide +kernel
theorem dL_target_8 : decode cL_target 8 = .ok (.invokevirtual 7, 3) := by decide +kernel
theorem dL_target_11 : decode cL_target 11 = .ok (.goto 11, 3) := by decide +kernel
theorem dL_target_14 : decode cL_target 14 = .ok (.astore 6, 2) := by decide +kernel
theorem dL_target_16 : decode cL_target 16 = .ok (.iconst 1, 1) := by decide +kernel
theorem dL_target_17 : decode cL_target 17 = .ok (.ireturn, 1) := by decide +kernel
theorem dL_target_18 : decode cL_target 18 = .ok (.astore 6, 2) := by decide +kernel
theorem dL_target_20 : decode cL_target 20 = .ok (.iconst 2, 1) := by decide +kernel
theorem dL_target_21 : decode cL_target 21 = .ok (.ireturn, 1) := by decide +kernel
theorem dL_target_22 : decode cL_target 22 = .ok (.iconst 0, 1) := by decide +kernel
theorem dL_target_23 : decode cL_target 23 = .ok (.ireturn, 1) := by decide +kernel
theorem dL_keep_0 : decode cL_keep 0 = .ok (.aload_n 0, 1) := by decide +kernel
theorem dL_keep_1 : decode cL_keep 1 = .ok (.iload_n 1, 1) := by decide +kernel
theorem dL_keep_2 : decode cL_keep 2 = .ok (.iload_n 2, 1) := by decide +kernel
theorem dL_keep_3 : decode cL_keep 3 = .ok (.iload_n 3, 1) := by decide +kernel
theorem dL_keep_4 : decode cL_keep 4 = .ok (.iload 4, 2) := by decide +kernel
theorem dL_keep_6 : decode cL_keep 6 = .ok (.iload 5, 2) := by decide +kernel
theorem dL_keep_8 : decode cL_keep 8 = .ok (.invokevirtual 17, 3) := by decide +kernel
theorem dL_keep_11 : decode cL_keep 11 = .ok (.goto 11, 3) := by decide +kernel
theorem dL_keep_14 : decode cL_keep 14 = .ok (.astore 6, 2) := by decide +kernel
theorem dL_keep_16 : decode cL_keep 16 = .ok (.iconst 1, 1) := by decide +kernel
theorem dL_keep_17 : decode cL_keep 17 = .ok (.ireturn, 1) := by decide +kernel
theorem dL_keep_18 : decode cL_keep 18 = .ok (.astore 6, 2) := by decide +kernel
theorem dL_keep_20 : decode cL_keep 20 = .ok (.iconst 2, 1) := by decide +kernel
theorem dL_keep_21 : decode cL_keep 21 = .ok (.ireturn, 1) := by decide +kernel
theorem dL_keep_22 : decode cL_keep 22 = .ok (.iconst 0, 1) := by decide +kernel
theorem dL_keep_23 : decode cL_keep 23 = .ok (.ireturn, 1) := by decide +kernel
theorem dL_tool_0 : decode cL_tool 0 = .ok (.aload_n 0, 1) := by decide +kernel
theorem dL_tool_1 : decode cL_tool 1 = .ok (.iload_n 1, 1) := by decide +kernel
theorem dL_tool_2 : decode cL_tool 2 = .ok (.iload_n 2, 1) := by decide +kernel
theorem dL_tool_3 : decode cL_tool 3 = .ok (.iload_n 3, 1) := by decide +kernel
theorem dL_tool_4 : decode cL_tool 4 = .ok (.invokevirtual 21, 3) := by decide +kernel
theorem dL_tool_7 : decode cL_tool 7 = .ok (.goto 11, 3) := by decide +kernel
theorem dL_tool_10 : decode cL_tool 10 = .ok (.astore 4, 2) := by decide +kernel
theorem dL_tool_12 : decode cL_tool 12 = .ok (.iconst 1, 1) := by decide +kernel
theorem dL_tool_13 : decode cL_tool 13 = .ok (.ireturn, 1) := by decide +kernel
theorem dL_tool_14 : decode cL_tool 14 = .ok (.astore 4, 2) := by decide +kernel
theorem dL_tool_16 : decode cL_tool 16 = .ok (.iconst 2, 1) := by decide +kernel
theorem dL_tool_17 : decode cL_tool 17 = .ok (.ireturn, 1) := by decide +kernel
theorem dL_tool_18 : decode cL_tool 18 = .ok (.iconst 0, 1) := by decide +kernel
theorem dL_tool_19 : decode cL_tool 19 = .ok (.ireturn, 1) := by decide +kernel
theorem dL_run_0 : decode cL_run 0 = .ok (.aload_n 1, 1) := by decide +kernel
theorem dL_run_1 : decode cL_run 1 = .ok (.iconst 0, 1) := by decide +kernel
theorem dL_run_2 : decode cL_run 2 = .ok (.aload_n 0, 1) := by decide +kernel
theorem dL_run_3 : decode cL_run 3 = .ok (.invokevirtual 25, 3) := by decide +kernel
theorem dL_run_6 : decode cL_run 6 = .ok (.i2l, 1) := by decide +kernel
theorem dL_run_7 : decode cL_run 7 = .ok (.lastore, 1) := by decide +kernel
theorem dL_run_8 : decode cL_run 8 = .ok (.goto 6, 3) := by decide +kernel
theorem dL_run_11 : decode cL_run 11 = .ok (.astore_n 2, 1) := by decide +kernel
theorem dL_run_12 : decode cL_run 12 = .ok (.iconst 1, 1) := by decide +kernel
theorem dL_run_13 : decode cL_run 13 = .ok (.ireturn, 1) := by decide +kernel
theorem dL_run_14 : decode cL_run 14 = .ok (.iconst 0, 1) := by decide +kernel
theorem dL_run_15 : decode cL_run 15 = .ok (.ireturn, 1) := by decide +kernel
theorem dL_about_0 : decode cL_about 0 = .ok (.aload_n 2, 1) := by decide +kernel
theorem dL_about_1 : decode cL_about 1 = .ok (.iconst 0, 1) := by decide +kernel
theorem dL_about_2 : decode cL_about 2 = .ok (.aload_n 0, 1) := by decide +kernel
theorem dL_about_3 : decode cL_about 3 = .ok (.iload_n 1, 1) := by decide +kernel
theorem dL_about_4 : decode cL_about 4 = .ok (.invokevirtual 31, 3) := by decide +kernel
theorem dL_about_7 : decode cL_about 7 = .ok (.i2l, 1) := by decide +kernel
theorem dL_about_8 : decode cL_about 8 = .ok (.lastore, 1) := by decide +kernel
theorem dL_about_9 : decode cL_about 9 = .ok (.goto 9, 3) := by decide +kernel
theorem dL_about_12 : decode cL_about 12 = .ok (.astore_n 3, 1) := by decide +kernel
theorem dL_about_13 : decode cL_about 13 = .ok (.iconst 1, 1) := by decide +kernel
theorem dL_about_14 : decode cL_about 14 = .ok (.ireturn, 1) := by decide +kernel
theorem dL_about_15 : decode cL_about 15 = .ok (.astore_n 3, 1) := by decide +kernel
theorem dL_about_16 : decode cL_about 16 = .ok (.iconst 2, 1) := by decide +kernel
theorem dL_about_17 : decode cL_about 17 = .ok (.ireturn, 1) := by decide +kernel
theorem dL_about_18 : decode cL_about 18 = .ok (.iconst 0, 1) := by decide +kernel
theorem dL_about_19 : decode cL_about 19 = .ok (.ireturn, 1) := by decide +kernel
theorem dL_cell2_0 : decode cL_cell2 0 = .ok (.aload 4, 2) := by decide +kernel
theorem dL_cell2_2 : decode cL_cell2 2 = .ok (.iconst 0, 1) := by decide +kernel
theorem dL_cell2_3 : decode cL_cell2 3 = .ok (.aload_n 0, 1) := by decide +kernel
theorem dL_cell2_4 : decode cL_cell2 4 = .ok (.iload_n 1, 1) := by decide +kernel
theorem dL_cell2_5 : decode cL_cell2 5 = .ok (.iload_n 2, 1) := by decide +kernel
theorem dL_cell2_6 : decode cL_cell2 6 = .ok (.iload_n 3, 1) := by decide +kernel
theorem dL_cell2_7 : decode cL_cell2 7 = .ok (.invokevirtual 35, 3) := by decide +kernel
theorem dL_cell2_10 : decode cL_cell2 10 = .ok (.i2l, 1) := by decide +kernel
theorem dL_cell2_11 : decode cL_cell2 11 = .ok (.lastore, 1) := by decide +kernel
theorem dL_cell2_12 : decode cL_cell2 12 = .ok (.goto 7, 3) := by decide +kernel
theorem dL_cell2_15 : decode cL_cell2 15 = .ok (.astore 5, 2) := by decide +kernel
theorem dL_cell2_17 : decode cL_cell2 17 = .ok (.iconst 1, 1) := by decide +kernel
theorem dL_cell2_18 : decode cL_cell2 18 = .ok (.ireturn, 1) := by decide +kernel
theorem dL_cell2_19 : decode cL_cell2 19 = .ok (.iconst 0, 1) := by decide +kernel
theorem dL_cell2_20 : decode cL_cell2 20 = .ok (.ireturn, 1) := by decide +kernel
theorem dL_check_0 : decode cL_check 0 = .ok (.aload_n 2, 1) := by decide +kernel
theorem dL_check_1 : decode cL_check 1 = .ok (.iconst 0, 1) := by decide +kernel
theorem dL_check_2 : decode cL_check 2 = .ok (.aload_n 0, 1) := by decide +kernel
theorem dL_check_3 : decode cL_check 3 = .ok (.iload_n 1, 1) := by decide +kernel
theorem dL_check_4 : decode cL_check 4 = .ok (.invokevirtual 39, 3) := by decide +kernel
theorem dL_check_7 : decode cL_check 7 = .ok (.i2l, 1) := by decide +kernel
theorem dL_check_8 : decode cL_check 8 = .ok (.lastore, 1) := by decide +kernel
theorem dL_check_9 : decode cL_check 9 = .ok (.goto 6, 3) := by decide +kernel
theorem dL_check_12 : decode cL_check 12 = .ok (.astore_n 3, 1) := by decide +kernel
theorem dL_check_13 : decode cL_check 13 = .ok (.iconst 1, 1) := by decide +kernel
theorem dL_check_14 : decode cL_check 14 = .ok (.ireturn, 1) := by decide +kernel
theorem dL_check_15 : decode cL_check 15 = .ok (.iconst 0, 1) := by decide +kernel
theorem dL_check_16 : decode cL_check 16 = .ok (.ireturn, 1) := by decide +kernel
theorem dL_reached_0 : decode cL_reached 0 = .ok (.aload_n 2, 1) := by decide +kernel
theorem dL_reached_1 : decode cL_reached 1 = .ok (.iconst 0, 1) := by decide +kernel
theorem dL_reached_2 : decode cL_reached 2 = .ok (.aload_n 0, 1) := by decide +kernel
theorem dL_reached_3 : decode cL_reached 3 = .ok (.iload_n 1, 1) := by decide +kernel
theorem dL_reached_4 : decode cL_reached 4 = .ok (.invokevirtual 42, 3) := by decide +kernel
theorem dL_reached_7 : decode cL_reached 7 = .ok (.i2l, 1) := by decide +kernel
theorem dL_reached_8 : decode cL_reached 8 = .ok (.lastore, 1) := by decide +kernel
theorem dL_reached_9 : decode cL_reached 9 = .ok (.goto 6, 3) := by decide +kernel
theorem dL_reached_12 : decode cL_reached 12 = .ok (.astore_n 3, 1) := by decide +kernel
theorem dL_reached_13 : decode cL_reached 13 = .ok (.iconst 1, 1) := by decide +kernel
theorem dL_reached_14 : decode cL_reached 14 = .ok (.ireturn, 1) := by decide +kernel
theorem dL_reached_15 : decode cL_reached 15 = .ok (.iconst 0, 1) := by decide +kernel
theorem dL_reached_16 : decode cL_reached 16 = .ok (.ireturn, 1) := by decide +kernel
