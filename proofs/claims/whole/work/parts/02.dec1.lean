theorem dX0_init_0 : decode cX0_init 0 = .ok (.aload_n 0, 1) := by decide +kernel
theorem dX0_init_1 : decode cX0_init 1 = .ok (.invokespecial 3, 3) := by decide +kernel
theorem dX0_init_4 : decode cX0_init 4 = .ok (.aload_n 0, 1) := by decide +kernel
theorem dX0_init_5 : decode cX0_init 5 = .ok (.iload_n 1, 1) := by decide +kernel
theorem dX0_init_6 : decode cX0_init 6 = .ok (.putfield 9, 3) := by decide +kernel
theorem dX0_init_9 : decode cX0_init 9 = .ok (.aload_n 0, 1) := by decide +kernel
theorem dX0_init_10 : decode cX0_init 10 = .ok (.iload_n 1, 1) := by decide +kernel
theorem dX0_init_11 : decode cX0_init 11 = .ok (.iload_n 1, 1) := by decide +kernel
theorem dX0_init_12 : decode cX0_init 12 = .ok (.imul, 1) := by decide +kernel
theorem dX0_init_13 : decode cX0_init 13 = .ok (.putfield 15, 3) := by decide +kernel
theorem dX0_init_16 : decode cX0_init 16 = .ok (.aload_n 0, 1) := by decide +kernel
theorem dX0_init_17 : decode cX0_init 17 = .ok (.aload_n 0, 1) := by decide +kernel
theorem dX0_init_18 : decode cX0_init 18 = .ok (.getfield 15, 3) := by decide +kernel
theorem dX0_init_21 : decode cX0_init 21 = .ok (.newarray .int, 2) := by decide +kernel
theorem dX0_init_23 : decode cX0_init 23 = .ok (.putfield 18, 3) := by decide +kernel
theorem dX0_init_26 : decode cX0_init 26 = .ok (.aload_n 0, 1) := by decide +kernel
theorem dX0_init_27 : decode cX0_init 27 = .ok (.aload_n 0, 1) := by decide +kernel
theorem dX0_init_28 : decode cX0_init 28 = .ok (.getfield 15, 3) := by decide +kernel
theorem dX0_init_31 : decode cX0_init 31 = .ok (.newarray .int, 2) := by decide +kernel
theorem dX0_init_33 : decode cX0_init 33 = .ok (.putfield 22, 3) := by decide +kernel
theorem dX0_init_36 : decode cX0_init 36 = .ok (.iconst 0, 1) := by decide +kernel
theorem dX0_init_37 : decode cX0_init 37 = .ok (.istore_n 2, 1) := by decide +kernel
theorem dX0_init_38 : decode cX0_init 38 = .ok (.iload_n 2, 1) := by decide +kernel
theorem dX0_init_39 : decode cX0_init 39 = .ok (.aload_n 0, 1) := by decide +kernel
theorem dX0_init_40 : decode cX0_init 40 = .ok (.getfield 15, 3) := by decide +kernel
theorem dX0_init_43 : decode cX0_init 43 = .ok (.if_icmp .ge 25, 3) := by decide +kernel
theorem dX0_init_46 : decode cX0_init 46 = .ok (.aload_n 0, 1) := by decide +kernel
theorem dX0_init_47 : decode cX0_init 47 = .ok (.getfield 18, 3) := by decide +kernel
theorem dX0_init_50 : decode cX0_init 50 = .ok (.iload_n 2, 1) := by decide +kernel
theorem dX0_init_51 : decode cX0_init 51 = .ok (.bipush 100, 2) := by decide +kernel
theorem dX0_init_53 : decode cX0_init 53 = .ok (.iastore, 1) := by decide +kernel
theorem dX0_init_54 : decode cX0_init 54 = .ok (.aload_n 0, 1) := by decide +kernel
theorem dX0_init_55 : decode cX0_init 55 = .ok (.getfield 22, 3) := by decide +kernel
theorem dX0_init_58 : decode cX0_init 58 = .ok (.iload_n 2, 1) := by decide +kernel
theorem dX0_init_59 : decode cX0_init 59 = .ok (.bipush 100, 2) := by decide +kernel
theorem dX0_init_61 : decode cX0_init 61 = .ok (.iastore, 1) := by decide +kernel
theorem dX0_init_62 : decode cX0_init 62 = .ok (.iinc 2 1, 3) := by decide +kernel
theorem dX0_init_65 : decode cX0_init 65 = .ok (.goto (-27), 3) := by decide +kernel
theorem dX0_init_68 : decode cX0_init 68 = .ok (.aload_n 0, 1) := by decide +kernel
theorem dX0_init_69 : decode cX0_init 69 = .ok (.aload_n 0, 1) := by decide +kernel
theorem dX0_init_70 : decode cX0_init 70 = .ok (.getfield 15, 3) := by decide +kernel
theorem dX0_init_73 : decode cX0_init 73 = .ok (.newarray .boolean, 2) := by decide +kernel
theorem dX0_init_75 : decode cX0_init 75 = .ok (.putfield 25, 3) := by decide +kernel
theorem dX0_init_78 : decode cX0_init 78 = .ok (.aload_n 0, 1) := by decide +kernel
theorem dX0_init_79 : decode cX0_init 79 = .ok (.aload_n 0, 1) := by decide +kernel
theorem dX0_init_80 : decode cX0_init 80 = .ok (.getfield 15, 3) := by decide +kernel
theorem dX0_init_83 : decode cX0_init 83 = .ok (.newarray .boolean, 2) := by decide +kernel
theorem dX0_init_85 : decode cX0_init 85 = .ok (.putfield 29, 3) := by decide +kernel
theorem dX0_init_88 : decode cX0_init 88 = .ok (.aload_n 0, 1) := by decide +kernel
theorem dX0_init_89 : decode cX0_init 89 = .ok (.aload_n 0, 1) := by decide +kernel
theorem dX0_init_90 : decode cX0_init 90 = .ok (.getfield 15, 3) := by decide +kernel
theorem dX0_init_93 : decode cX0_init 93 = .ok (.newarray .int, 2) := by decide +kernel
theorem dX0_init_95 : decode cX0_init 95 = .ok (.putfield 32, 3) := by decide +kernel
theorem dX0_init_98 : decode cX0_init 98 = .ok (.aload_n 0, 1) := by decide +kernel
theorem dX0_init_99 : decode cX0_init 99 = .ok (.iconst 0, 1) := by decide +kernel
theorem dX0_init_100 : decode cX0_init 100 = .ok (.putfield 35, 3) := by decide +kernel
theorem dX0_init_103 : decode cX0_init 103 = .ok (.return_, 1) := by decide +kernel
theorem dX0_holds_0 : decode cX0_holds 0 = .ok (.iload_n 1, 1) := by decide +kernel
theorem dX0_holds_1 : decode cX0_holds 1 = .ok (.ifCond .lt 27, 3) := by decide +kernel
theorem dX0_holds_4 : decode cX0_holds 4 = .ok (.iload_n 1, 1) := by decide +kernel
theorem dX0_holds_5 : decode cX0_holds 5 = .ok (.aload_n 0, 1) := by decide +kernel
theorem dX0_holds_6 : decode cX0_holds 6 = .ok (.getfield 9, 3) := by decide +kernel
theorem dX0_holds_9 : decode cX0_holds 9 = .ok (.if_icmp .ge 19, 3) := by decide +kernel
theorem dX0_holds_12 : decode cX0_holds 12 = .ok (.iload_n 2, 1) := by decide +kernel
theorem dX0_holds_13 : decode cX0_holds 13 = .ok (.ifCond .lt 15, 3) := by decide +kernel
theorem dX0_holds_16 : decode cX0_holds 16 = .ok (.iload_n 2, 1) := by decide +kernel
theorem dX0_holds_17 : decode cX0_holds 17 = .ok (.aload_n 0, 1) := by decide +kernel
theorem dX0_holds_18 : decode cX0_holds 18 = .ok (.getfield 9, 3) := by decide +kernel
theorem dX0_holds_21 : decode cX0_holds 21 = .ok (.if_icmp .ge 7, 3) := by decide +kernel
theorem dX0_holds_24 : decode cX0_holds 24 = .ok (.iconst 1, 1) := by decide +kernel
theorem dX0_holds_25 : decode cX0_holds 25 = .ok (.goto 4, 3) := by decide +kernel
theorem dX0_holds_28 : decode cX0_holds 28 = .ok (.iconst 0, 1) := by decide +kernel
theorem dX0_holds_29 : decode cX0_holds 29 = .ok (.ireturn, 1) := by decide +kernel
theorem dX0_placeOf_0 : decode cX0_placeOf 0 = .ok (.aload_n 0, 1) := by decide +kernel
theorem dX0_placeOf_1 : decode cX0_placeOf 1 = .ok (.getfield 9, 3) := by decide +kernel
theorem dX0_placeOf_4 : decode cX0_placeOf 4 = .ok (.iload_n 2, 1) := by decide +kernel
theorem dX0_placeOf_5 : decode cX0_placeOf 5 = .ok (.imul, 1) := by decide +kernel
theorem dX0_placeOf_6 : decode cX0_placeOf 6 = .ok (.iload_n 1, 1) := by decide +kernel
theorem dX0_placeOf_7 : decode cX0_placeOf 7 = .ok (.iadd, 1) := by decide +kernel
theorem dX0_placeOf_8 : decode cX0_placeOf 8 = .ok (.ireturn, 1) := by decide +kernel
theorem dX0_aimBlock_0 : decode cX0_aimBlock 0 = .ok (.iload_n 2, 1) := by decide +kernel
theorem dX0_aimBlock_1 : decode cX0_aimBlock 1 = .ok (.istore 6, 2) := by decide +kernel
theorem dX0_aimBlock_3 : decode cX0_aimBlock 3 = .ok (.iload 6, 2) := by decide +kernel
theorem dX0_aimBlock_5 : decode cX0_aimBlock 5 = .ok (.iload 4, 2) := by decide +kernel
theorem dX0_aimBlock_7 : decode cX0_aimBlock 7 = .ok (.if_icmp .gt 39, 3) := by decide +kernel
theorem dX0_aimBlock_10 : decode cX0_aimBlock 10 = .ok (.iload_n 1, 1) := by decide +kernel
theorem dX0_aimBlock_11 : decode cX0_aimBlock 11 = .ok (.istore 7, 2) := by decide +kernel
theorem dX0_aimBlock_13 : decode cX0_aimBlock 13 = .ok (.iload 7, 2) := by decide +kernel
theorem dX0_aimBlock_15 : decode cX0_aimBlock 15 = .ok (.iload_n 3, 1) := by decide +kernel
theorem dX0_aimBlock_16 : decode cX0_aimBlock 16 = .ok (.if_icmp .gt 24, 3) := by decide +kernel
theorem dX0_aimBlock_19 : decode cX0_aimBlock 19 = .ok (.aload_n 0, 1) := by decide +kernel
theorem dX0_aimBlock_20 : decode cX0_aimBlock 20 = .ok (.getfield 22, 3) := by decide +kernel
theorem dX0_aimBlock_23 : decode cX0_aimBlock 23 = .ok (.aload_n 0, 1) := by decide +kernel
theorem dX0_aimBlock_24 : decode cX0_aimBlock 24 = .ok (.iload 7, 2) := by decide +kernel
theorem dX0_aimBlock_26 : decode cX0_aimBlock 26 = .ok (.iload 6, 2) := by decide +kernel
theorem dX0_aimBlock_28 : decode cX0_aimBlock 28 = .ok (.invokevirtual 38, 3) := by decide +kernel
theorem dX0_aimBlock_31 : decode cX0_aimBlock 31 = .ok (.iload 5, 2) := by decide +kernel
theorem dX0_aimBlock_33 : decode cX0_aimBlock 33 = .ok (.iastore, 1) := by decide +kernel
theorem dX0_aimBlock_34 : decode cX0_aimBlock 34 = .ok (.iinc 7 1, 3) := by decide +kernel
theorem dX0_aimBlock_37 : decode cX0_aimBlock 37 = .ok (.goto (-24), 3) := by decide +kernel
theorem dX0_aimBlock_40 : decode cX0_aimBlock 40 = .ok (.iinc 6 1, 3) := by decide +kernel
theorem dX0_aimBlock_43 : decode cX0_aimBlock 43 = .ok (.goto (-40), 3) := by decide +kernel
theorem dX0_aimBlock_46 : decode cX0_aimBlock 46 = .ok (.return_, 1) := by decide +kernel
theorem dX0_guardBlock_0 : decode cX0_guardBlock 0 = .ok (.iload_n 2, 1) := by decide +kernel
theorem dX0_guardBlock_1 : decode cX0_guardBlock 1 = .ok (.istore 6, 2) := by decide +kernel
theorem dX0_guardBlock_3 : decode cX0_guardBlock 3 = .ok (.iload 6, 2) := by decide +kernel
theorem dX0_guardBlock_5 : decode cX0_guardBlock 5 = .ok (.iload 4, 2) := by decide +kernel
theorem dX0_guardBlock_7 : decode cX0_guardBlock 7 = .ok (.if_icmp .gt 39, 3) := by decide +kernel
theorem dX0_guardBlock_10 : decode cX0_guardBlock 10 = .ok (.iload_n 1, 1) := by decide +kernel
theorem dX0_guardBlock_11 : decode cX0_guardBlock 11 = .ok (.istore 7, 2) := by decide +kernel
theorem dX0_guardBlock_13 : decode cX0_guardBlock 13 = .ok (.iload 7, 2) := by decide +kernel
theorem dX0_guardBlock_15 : decode cX0_guardBlock 15 = .ok (.iload_n 3, 1) := by decide +kernel
theorem dX0_guardBlock_16 : decode cX0_guardBlock 16 = .ok (.if_icmp .gt 24, 3) := by decide +kernel
theorem dX0_guardBlock_19 : decode cX0_guardBlock 19 = .ok (.aload_n 0, 1) := by decide +kernel
theorem dX0_guardBlock_20 : decode cX0_guardBlock 20 = .ok (.getfield 25, 3) := by decide +kernel
theorem dX0_guardBlock_23 : decode cX0_guardBlock 23 = .ok (.aload_n 0, 1) := by decide +kernel
theorem dX0_guardBlock_24 : decode cX0_guardBlock 24 = .ok (.iload 7, 2) := by decide +kernel
theorem dX0_guardBlock_26 : decode cX0_guardBlock 26 = .ok (.iload 6, 2) := by decide +kernel
theorem dX0_guardBlock_28 : decode cX0_guardBlock 28 = .ok (.invokevirtual 38, 3) := by decide +kernel
theorem dX0_guardBlock_31 : decode cX0_guardBlock 31 = .ok (.iload 5, 2) := by decide +kernel
theorem dX0_guardBlock_33 : decode cX0_guardBlock 33 = .ok (.bastore, 1) := by decide +kernel
theorem dX0_guardBlock_34 : decode cX0_guardBlock 34 = .ok (.iinc 7 1, 3) := by decide +kernel
theorem dX0_guardBlock_37 : decode cX0_guardBlock 37 = .ok (.goto (-24), 3) := by decide +kernel
theorem dX0_guardBlock_40 : decode cX0_guardBlock 40 = .ok (.iinc 6 1, 3) := by decide +kernel
theorem dX0_guardBlock_43 : decode cX0_guardBlock 43 = .ok (.goto (-40), 3) := by decide +kernel
theorem dX0_guardBlock_46 : decode cX0_guardBlock 46 = .ok (.return_, 1) := by decide +kernel
theorem dX0_fillUp_0 : decode cX0_fillUp 0 = .ok (.iconst 0, 1) := by decide +kernel
theorem dX0_fillUp_1 : decode cX0_fillUp 1 = .ok (.istore_n 1, 1) := by decide +kernel
theorem dX0_fillUp_2 : decode cX0_fillUp 2 = .ok (.iload_n 1, 1) := by decide +kernel
theorem dX0_fillUp_3 : decode cX0_fillUp 3 = .ok (.aload_n 0, 1) := by decide +kernel
theorem dX0_fillUp_4 : decode cX0_fillUp 4 = .ok (.getfield 15, 3) := by decide +kernel
theorem dX0_fillUp_7 : decode cX0_fillUp 7 = .ok (.if_icmp .ge 17, 3) := by decide +kernel
theorem dX0_fillUp_10 : decode cX0_fillUp 10 = .ok (.aload_n 0, 1) := by decide +kernel
theorem dX0_fillUp_11 : decode cX0_fillUp 11 = .ok (.getfield 18, 3) := by decide +kernel
theorem dX0_fillUp_14 : decode cX0_fillUp 14 = .ok (.iload_n 1, 1) := by decide +kernel
theorem dX0_fillUp_15 : decode cX0_fillUp 15 = .ok (.bipush 100, 2) := by decide +kernel
theorem dX0_fillUp_17 : decode cX0_fillUp 17 = .ok (.iastore, 1) := by decide +kernel
theorem dX0_fillUp_18 : decode cX0_fillUp 18 = .ok (.iinc 1 1, 3) := by decide +kernel
theorem dX0_fillUp_21 : decode cX0_fillUp 21 = .ok (.goto (-19), 3) := by decide +kernel
theorem dX0_fillUp_24 : decode cX0_fillUp 24 = .ok (.return_, 1) := by decide +kernel
theorem dX0_isOff_0 : decode cX0_isOff 0 = .ok (.iload_n 2, 1) := by decide +kernel
theorem dX0_isOff_1 : decode cX0_isOff 1 = .ok (.ifCond .eq 26, 3) := by decide +kernel
theorem dX0_isOff_4 : decode cX0_isOff 4 = .ok (.aload_n 0, 1) := by decide +kernel
theorem dX0_isOff_5 : decode cX0_isOff 5 = .ok (.getfield 18, 3) := by decide +kernel
theorem dX0_isOff_8 : decode cX0_isOff 8 = .ok (.iload_n 1, 1) := by decide +kernel
theorem dX0_isOff_9 : decode cX0_isOff 9 = .ok (.iaload, 1) := by decide +kernel
theorem dX0_isOff_10 : decode cX0_isOff 10 = .ok (.aload_n 0, 1) := by decide +kernel
theorem dX0_isOff_11 : decode cX0_isOff 11 = .ok (.getfield 22, 3) := by decide +kernel
theorem dX0_isOff_14 : decode cX0_isOff 14 = .ok (.iload_n 1, 1) := by decide +kernel
theorem dX0_isOff_15 : decode cX0_isOff 15 = .ok (.iaload, 1) := by decide +kernel
theorem dX0_isOff_16 : decode cX0_isOff 16 = .ok (.if_icmp .le 7, 3) := by decide +kernel
theorem dX0_isOff_19 : decode cX0_isOff 19 = .ok (.iconst 1, 1) := by decide +kernel
theorem dX0_isOff_20 : decode cX0_isOff 20 = .ok (.goto 27, 3) := by decide +kernel
theorem dX0_isOff_23 : decode cX0_isOff 23 = .ok (.iconst 0, 1) := by decide +kernel
theorem dX0_isOff_24 : decode cX0_isOff 24 = .ok (.goto 23, 3) := by decide +kernel
theorem dX0_isOff_27 : decode cX0_isOff 27 = .ok (.aload_n 0, 1) := by decide +kernel
theorem dX0_isOff_28 : decode cX0_isOff 28 = .ok (.getfield 18, 3) := by decide +kernel
theorem dX0_isOff_31 : decode cX0_isOff 31 = .ok (.iload_n 1, 1) := by decide +kernel
theorem dX0_isOff_32 : decode cX0_isOff 32 = .ok (.iaload, 1) := by decide +kernel
theorem dX0_isOff_33 : decode cX0_isOff 33 = .ok (.aload_n 0, 1) := by decide +kernel
theorem dX0_isOff_34 : decode cX0_isOff 34 = .ok (.getfield 22, 3) := by decide +kernel
theorem dX0_isOff_37 : decode cX0_isOff 37 = .ok (.iload_n 1, 1) := by decide +kernel
theorem dX0_isOff_38 : decode cX0_isOff 38 = .ok (.iaload, 1) := by decide +kernel
theorem dX0_isOff_39 : decode cX0_isOff 39 = .ok (.if_icmp .ge 7, 3) := by decide +kernel
theorem dX0_isOff_42 : decode cX0_isOff 42 = .ok (.iconst 1, 1) := by decide +kernel
theorem dX0_isOff_43 : decode cX0_isOff 43 = .ok (.goto 4, 3) := by decide +kernel
theorem dX0_isOff_46 : decode cX0_isOff 46 = .ok (.iconst 0, 1) := by decide +kernel
theorem dX0_isOff_47 : decode cX0_isOff 47 = .ok (.ireturn, 1) := by decide +kernel
theorem dX0_countOff_0 : decode cX0_countOff 0 = .ok (.iconst 0, 1) := by decide +kernel
theorem dX0_countOff_1 : decode cX0_countOff 1 = .ok (.istore_n 2, 1) := by decide +kernel
theorem dX0_countOff_2 : decode cX0_countOff 2 = .ok (.iconst 0, 1) := by decide +kernel
theorem dX0_countOff_3 : decode cX0_countOff 3 = .ok (.istore_n 3, 1) := by decide +kernel
theorem dX0_countOff_4 : decode cX0_countOff 4 = .ok (.iload_n 3, 1) := by decide +kernel
theorem dX0_countOff_5 : decode cX0_countOff 5 = .ok (.aload_n 0, 1) := by decide +kernel
theorem dX0_countOff_6 : decode cX0_countOff 6 = .ok (.getfield 15, 3) := by decide +kernel
theorem dX0_countOff_9 : decode cX0_countOff 9 = .ok (.if_icmp .ge 21, 3) := by decide +kernel
theorem dX0_countOff_12 : decode cX0_countOff 12 = .ok (.aload_n 0, 1) := by decide +kernel
theorem dX0_countOff_13 : decode cX0_countOff 13 = .ok (.iload_n 3, 1) := by decide +kernel
theorem dX0_countOff_14 : decode cX0_countOff 14 = .ok (.iload_n 1, 1) := by decide +kernel
theorem dX0_countOff_15 : decode cX0_countOff 15 = .ok (.invokevirtual 42, 3) := by decide +kernel
theorem dX0_countOff_18 : decode cX0_countOff 18 = .ok (.ifCond .eq 6, 3) := by decide +kernel
theorem dX0_countOff_21 : decode cX0_countOff 21 = .ok (.iinc 2 1, 3) := by decide +kernel
theorem dX0_countOff_24 : decode cX0_countOff 24 = .ok (.iinc 3 1, 3) := by decide +kernel
theorem dX0_countOff_27 : decode cX0_countOff 27 = .ok (.goto (-23), 3) := by decide +kernel
theorem dX0_countOff_30 : decode cX0_countOff 30 = .ok (.iload_n 2, 1) := by decide +kernel
theorem dX0_countOff_31 : decode cX0_countOff 31 = .ok (.ireturn, 1) := by decide +kernel
theorem dX0_firstOff_0 : decode cX0_firstOff 0 = .ok (.iconst 0, 1) := by decide +kernel
theorem dX0_firstOff_1 : decode cX0_firstOff 1 = .ok (.istore_n 2, 1) := by decide +kernel
theorem dX0_firstOff_2 : decode cX0_firstOff 2 = .ok (.iload_n 2, 1) := by decide +kernel
theorem dX0_firstOff_3 : decode cX0_firstOff 3 = .ok (.aload_n 0, 1) := by decide +kernel
theorem dX0_firstOff_4 : decode cX0_firstOff 4 = .ok (.getfield 15, 3) := by decide +kernel
theorem dX0_firstOff_7 : decode cX0_firstOff 7 = .ok (.if_icmp .ge 20, 3) := by decide +kernel
theorem dX0_firstOff_10 : decode cX0_firstOff 10 = .ok (.aload_n 0, 1) := by decide +kernel
theorem dX0_firstOff_11 : decode cX0_firstOff 11 = .ok (.iload_n 2, 1) := by decide +kernel
theorem dX0_firstOff_12 : decode cX0_firstOff 12 = .ok (.iload_n 1, 1) := by decide +kernel
theorem dX0_firstOff_13 : decode cX0_firstOff 13 = .ok (.invokevirtual 42, 3) := by decide +kernel
theorem dX0_firstOff_16 : decode cX0_firstOff 16 = .ok (.ifCond .eq 5, 3) := by decide +kernel
theorem dX0_firstOff_19 : decode cX0_firstOff 19 = .ok (.iload_n 2, 1) := by decide +kernel
theorem dX0_firstOff_20 : decode cX0_firstOff 20 = .ok (.ireturn, 1) := by decide +kernel
theorem dX0_firstOff_21 : decode cX0_firstOff 21 = .ok (.iinc 2 1, 3) := by decide +kernel
theorem dX0_firstOff_24 : decode cX0_firstOff 24 = .ok (.goto (-22), 3) := by decide +kernel
theorem dX0_firstOff_27 : decode cX0_firstOff 27 = .ok (.iconst (-1), 1) := by decide +kernel
theorem dX0_firstOff_28 : decode cX0_firstOff 28 = .ok (.ireturn, 1) := by decide +kernel
theorem dX0_layDisc_0 : decode cX0_layDisc 0 = .ok (.aload_n 0, 1) := by decide +kernel
theorem dX0_layDisc_1 : decode cX0_layDisc 1 = .ok (.iconst 0, 1) := by decide +kernel
theorem dX0_layDisc_2 : decode cX0_layDisc 2 = .ok (.putfield 35, 3) := by decide +kernel
theorem dX0_layDisc_5 : decode cX0_layDisc 5 = .ok (.aload_n 0, 1) := by decide +kernel
theorem dX0_layDisc_6 : decode cX0_layDisc 6 = .ok (.getfield 9, 3) := by decide +kernel
theorem dX0_layDisc_9 : decode cX0_layDisc 9 = .ok (.iconst 1, 1) := by decide +kernel
theorem dX0_layDisc_10 : decode cX0_layDisc 10 = .ok (.isub, 1) := by decide +kernel
theorem dX0_layDisc_11 : decode cX0_layDisc 11 = .ok (.iload_n 3, 1) := by decide +kernel
theorem dX0_layDisc_12 : decode cX0_layDisc 12 = .ok (.aload_n 1, 1) := by decide +kernel
theorem dX0_layDisc_13 : decode cX0_layDisc 13 = .ok (.getfield 46, 3) := by decide +kernel
theorem dX0_layDisc_16 : decode cX0_layDisc 16 = .ok (.iadd, 1) := by decide +kernel
theorem dX0_layDisc_17 : decode cX0_layDisc 17 = .ok (.invokestatic 51, 3) := by decide +kernel
theorem dX0_layDisc_20 : decode cX0_layDisc 20 = .ok (.istore 4, 2) := by decide +kernel
theorem dX0_layDisc_22 : decode cX0_layDisc 22 = .ok (.iconst 0, 1) := by decide +kernel
theorem dX0_layDisc_23 : decode cX0_layDisc 23 = .ok (.iload_n 3, 1) := by decide +kernel
theorem dX0_layDisc_24 : decode cX0_layDisc 24 = .ok (.aload_n 1, 1) := by decide +kernel
theorem dX0_layDisc_25 : decode cX0_layDisc 25 = .ok (.getfield 46, 3) := by decide +kernel
theorem dX0_layDisc_28 : decode cX0_layDisc 28 = .ok (.isub, 1) := by decide +kernel
theorem dX0_layDisc_29 : decode cX0_layDisc 29 = .ok (.invokestatic 56, 3) := by decide +kernel
theorem dX0_layDisc_32 : decode cX0_layDisc 32 = .ok (.istore 5, 2) := by decide +kernel
theorem dX0_layDisc_34 : decode cX0_layDisc 34 = .ok (.iload 5, 2) := by decide +kernel
theorem dX0_layDisc_36 : decode cX0_layDisc 36 = .ok (.iload 4, 2) := by decide +kernel
theorem dX0_layDisc_38 : decode cX0_layDisc 38 = .ok (.if_icmp .gt 99, 3) := by decide +kernel
theorem dX0_layDisc_41 : decode cX0_layDisc 41 = .ok (.aload_n 1, 1) := by decide +kernel
theorem dX0_layDisc_42 : decode cX0_layDisc 42 = .ok (.getfield 59, 3) := by decide +kernel
theorem dX0_layDisc_45 : decode cX0_layDisc 45 = .ok (.iload 5, 2) := by decide +kernel
theorem dX0_layDisc_47 : decode cX0_layDisc 47 = .ok (.iload_n 3, 1) := by decide +kernel
theorem dX0_layDisc_48 : decode cX0_layDisc 48 = .ok (.isub, 1) := by decide +kernel
theorem dX0_layDisc_49 : decode cX0_layDisc 49 = .ok (.invokestatic 62, 3) := by decide +kernel
theorem dX0_layDisc_52 : decode cX0_layDisc 52 = .ok (.iaload, 1) := by decide +kernel
theorem dX0_layDisc_53 : decode cX0_layDisc 53 = .ok (.istore 6, 2) := by decide +kernel
theorem dX0_layDisc_55 : decode cX0_layDisc 55 = .ok (.aload_n 0, 1) := by decide +kernel
theorem dX0_layDisc_56 : decode cX0_layDisc 56 = .ok (.getfield 9, 3) := by decide +kernel
theorem dX0_layDisc_59 : decode cX0_layDisc 59 = .ok (.iconst 1, 1) := by decide +kernel
theorem dX0_layDisc_60 : decode cX0_layDisc 60 = .ok (.isub, 1) := by decide +kernel
theorem dX0_layDisc_61 : decode cX0_layDisc 61 = .ok (.iload_n 2, 1) := by decide +kernel
theorem dX0_layDisc_62 : decode cX0_layDisc 62 = .ok (.iload 6, 2) := by decide +kernel
theorem dX0_layDisc_64 : decode cX0_layDisc 64 = .ok (.iadd, 1) := by decide +kernel
theorem dX0_layDisc_65 : decode cX0_layDisc 65 = .ok (.invokestatic 51, 3) := by decide +kernel
theorem dX0_layDisc_68 : decode cX0_layDisc 68 = .ok (.istore 7, 2) := by decide +kernel
theorem dX0_layDisc_70 : decode cX0_layDisc 70 = .ok (.iconst 0, 1) := by decide +kernel
theorem dX0_layDisc_71 : decode cX0_layDisc 71 = .ok (.iload_n 2, 1) := by decide +kernel
theorem dX0_layDisc_72 : decode cX0_layDisc 72 = .ok (.iload 6, 2) := by decide +kernel
theorem dX0_layDisc_74 : decode cX0_layDisc 74 = .ok (.isub, 1) := by decide +kernel
theorem dX0_layDisc_75 : decode cX0_layDisc 75 = .ok (.invokestatic 56, 3) := by decide +kernel
theorem dX0_layDisc_78 : decode cX0_layDisc 78 = .ok (.istore 8, 2) := by decide +kernel
theorem dX0_layDisc_80 : decode cX0_layDisc 80 = .ok (.iload 8, 2) := by decide +kernel
theorem dX0_layDisc_82 : decode cX0_layDisc 82 = .ok (.iload 7, 2) := by decide +kernel
theorem dX0_layDisc_84 : decode cX0_layDisc 84 = .ok (.if_icmp .gt 47, 3) := by decide +kernel
theorem dX0_layDisc_87 : decode cX0_layDisc 87 = .ok (.aload_n 0, 1) := by decide +kernel
theorem dX0_layDisc_88 : decode cX0_layDisc 88 = .ok (.getfield 35, 3) := by decide +kernel
theorem dX0_layDisc_91 : decode cX0_layDisc 91 = .ok (.aload_n 0, 1) := by decide +kernel
theorem dX0_layDisc_92 : decode cX0_layDisc 92 = .ok (.getfield 15, 3) := by decide +kernel
theorem dX0_layDisc_95 : decode cX0_layDisc 95 = .ok (.if_icmp .ge 36, 3) := by decide +kernel
theorem dX0_layDisc_98 : decode cX0_layDisc 98 = .ok (.aload_n 0, 1) := by decide +kernel
theorem dX0_layDisc_99 : decode cX0_layDisc 99 = .ok (.getfield 32, 3) := by decide +kernel
theorem dX0_layDisc_102 : decode cX0_layDisc 102 = .ok (.aload_n 0, 1) := by decide +kernel
theorem dX0_layDisc_103 : decode cX0_layDisc 103 = .ok (.getfield 35, 3) := by decide +kernel
theorem dX0_layDisc_106 : decode cX0_layDisc 106 = .ok (.aload_n 0, 1) := by decide +kernel
theorem dX0_layDisc_107 : decode cX0_layDisc 107 = .ok (.iload 8, 2) := by decide +kernel
theorem dX0_layDisc_109 : decode cX0_layDisc 109 = .ok (.iload 5, 2) := by decide +kernel
theorem dX0_layDisc_111 : decode cX0_layDisc 111 = .ok (.invokevirtual 38, 3) := by decide +kernel
theorem dX0_layDisc_114 : decode cX0_layDisc 114 = .ok (.iastore, 1) := by decide +kernel
theorem dX0_layDisc_115 : decode cX0_layDisc 115 = .ok (.aload_n 0, 1) := by decide +kernel
theorem dX0_layDisc_116 : decode cX0_layDisc 116 = .ok (.dup, 1) := by decide +kernel
theorem dX0_layDisc_117 : decode cX0_layDisc 117 = .ok (.getfield 35, 3) := by decide +kernel
theorem dX0_layDisc_120 : decode cX0_layDisc 120 = .ok (.iconst 1, 1) := by decide +kernel
theorem dX0_layDisc_121 : decode cX0_layDisc 121 = .ok (.iadd, 1) := by decide +kernel
theorem dX0_layDisc_122 : decode cX0_layDisc 122 = .ok (.putfield 35, 3) := by decide +kernel
theorem dX0_layDisc_125 : decode cX0_layDisc 125 = .ok (.iinc 8 1, 3) := by decide +kernel
theorem dX0_layDisc_128 : decode cX0_layDisc 128 = .ok (.goto (-48), 3) := by decide +kernel
theorem dX0_layDisc_131 : decode cX0_layDisc 131 = .ok (.iinc 5 1, 3) := by decide +kernel
theorem dX0_layDisc_134 : decode cX0_layDisc 134 = .ok (.goto (-100), 3) := by decide +kernel
theorem dX0_layDisc_137 : decode cX0_layDisc 137 = .ok (.return_, 1) := by decide +kernel
theorem dX0_discRisesAbove_0 : decode cX0_discRisesAbove 0 = .ok (.iconst 0, 1) := by decide +kernel
theorem dX0_discRisesAbove_1 : decode cX0_discRisesAbove 1 = .ok (.istore_n 2, 1) := by decide +kernel
theorem dX0_discRisesAbove_2 : decode cX0_discRisesAbove 2 = .ok (.iload_n 2, 1) := by decide +kernel
theorem dX0_discRisesAbove_3 : decode cX0_discRisesAbove 3 = .ok (.aload_n 0, 1) := by decide +kernel
theorem dX0_discRisesAbove_4 : decode cX0_discRisesAbove 4 = .ok (.getfield 35, 3) := by decide +kernel
theorem dX0_discRisesAbove_7 : decode cX0_discRisesAbove 7 = .ok (.if_icmp .ge 26, 3) := by decide +kernel
theorem dX0_discRisesAbove_10 : decode cX0_discRisesAbove 10 = .ok (.aload_n 0, 1) := by decide +kernel
theorem dX0_discRisesAbove_11 : decode cX0_discRisesAbove 11 = .ok (.getfield 18, 3) := by decide +kernel
theorem dX0_discRisesAbove_14 : decode cX0_discRisesAbove 14 = .ok (.aload_n 0, 1) := by decide +kernel
theorem dX0_discRisesAbove_15 : decode cX0_discRisesAbove 15 = .ok (.getfield 32, 3) := by decide +kernel
theorem dX0_discRisesAbove_18 : decode cX0_discRisesAbove 18 = .ok (.iload_n 2, 1) := by decide +kernel
theorem dX0_discRisesAbove_19 : decode cX0_discRisesAbove 19 = .ok (.iaload, 1) := by decide +kernel
theorem dX0_discRisesAbove_20 : decode cX0_discRisesAbove 20 = .ok (.iaload, 1) := by decide +kernel
theorem dX0_discRisesAbove_21 : decode cX0_discRisesAbove 21 = .ok (.iload_n 1, 1) := by decide +kernel
theorem dX0_discRisesAbove_22 : decode cX0_discRisesAbove 22 = .ok (.if_icmp .le 5, 3) := by decide +kernel
theorem dX0_discRisesAbove_25 : decode cX0_discRisesAbove 25 = .ok (.iconst 1, 1) := by decide +kernel
theorem dX0_discRisesAbove_26 : decode cX0_discRisesAbove 26 = .ok (.ireturn, 1) := by decide +kernel
theorem dX0_discRisesAbove_27 : decode cX0_discRisesAbove 27 = .ok (.iinc 2 1, 3) := by decide +kernel
theorem dX0_discRisesAbove_30 : decode cX0_discRisesAbove 30 = .ok (.goto (-28), 3) := by decide +kernel
theorem dX0_discRisesAbove_33 : decode cX0_discRisesAbove 33 = .ok (.iconst 0, 1) := by decide +kernel
theorem dX0_discRisesAbove_34 : decode cX0_discRisesAbove 34 = .ok (.ireturn, 1) := by decide +kernel
theorem dX0_discHasKeptAbove_0 : decode cX0_discHasKeptAbove 0 = .ok (.iconst 0, 1) := by decide +kernel
theorem dX0_discHasKeptAbove_1 : decode cX0_discHasKeptAbove 1 = .ok (.istore_n 2, 1) := by decide +kernel
theorem dX0_discHasKeptAbove_2 : decode cX0_discHasKeptAbove 2 = .ok (.iload_n 2, 1) := by decide +kernel
theorem dX0_discHasKeptAbove_3 : decode cX0_discHasKeptAbove 3 = .ok (.aload_n 0, 1) := by decide +kernel
theorem dX0_discHasKeptAbove_4 : decode cX0_discHasKeptAbove 4 = .ok (.getfield 35, 3) := by decide +kernel
theorem dX0_discHasKeptAbove_7 : decode cX0_discHasKeptAbove 7 = .ok (.if_icmp .ge 40, 3) := by decide +kernel
theorem dX0_discHasKeptAbove_10 : decode cX0_discHasKeptAbove 10 = .ok (.aload_n 0, 1) := by decide +kernel
theorem dX0_discHasKeptAbove_11 : decode cX0_discHasKeptAbove 11 = .ok (.getfield 25, 3) := by decide +kernel
theorem dX0_discHasKeptAbove_14 : decode cX0_discHasKeptAbove 14 = .ok (.aload_n 0, 1) := by decide +kernel
theorem dX0_discHasKeptAbove_15 : decode cX0_discHasKeptAbove 15 = .ok (.getfield 32, 3) := by decide +kernel
theorem dX0_discHasKeptAbove_18 : decode cX0_discHasKeptAbove 18 = .ok (.iload_n 2, 1) := by decide +kernel
theorem dX0_discHasKeptAbove_19 : decode cX0_discHasKeptAbove 19 = .ok (.iaload, 1) := by decide +kernel
theorem dX0_discHasKeptAbove_20 : decode cX0_discHasKeptAbove 20 = .ok (.baload, 1) := by decide +kernel
theorem dX0_discHasKeptAbove_21 : decode cX0_discHasKeptAbove 21 = .ok (.ifCond .eq 20, 3) := by decide +kernel
theorem dX0_discHasKeptAbove_24 : decode cX0_discHasKeptAbove 24 = .ok (.aload_n 0, 1) := by decide +kernel
theorem dX0_discHasKeptAbove_25 : decode cX0_discHasKeptAbove 25 = .ok (.getfield 18, 3) := by decide +kernel
theorem dX0_discHasKeptAbove_28 : decode cX0_discHasKeptAbove 28 = .ok (.aload_n 0, 1) := by decide +kernel
theorem dX0_discHasKeptAbove_29 : decode cX0_discHasKeptAbove 29 = .ok (.getfield 32, 3) := by decide +kernel
theorem dX0_discHasKeptAbove_32 : decode cX0_discHasKeptAbove 32 = .ok (.iload_n 2, 1) := by decide +kernel
theorem dX0_discHasKeptAbove_33 : decode cX0_discHasKeptAbove 33 = .ok (.iaload, 1) := by decide +kernel
theorem dX0_discHasKeptAbove_34 : decode cX0_discHasKeptAbove 34 = .ok (.iaload, 1) := by decide +kernel
theorem dX0_discHasKeptAbove_35 : decode cX0_discHasKeptAbove 35 = .ok (.iload_n 1, 1) := by decide +kernel
theorem dX0_discHasKeptAbove_36 : decode cX0_discHasKeptAbove 36 = .ok (.if_icmp .le 5, 3) := by decide +kernel
theorem dX0_discHasKeptAbove_39 : decode cX0_discHasKeptAbove 39 = .ok (.iconst 1, 1) := by decide +kernel
theorem dX0_discHasKeptAbove_40 : decode cX0_discHasKeptAbove 40 = .ok (.ireturn, 1) := by decide +kernel
theorem dX0_discHasKeptAbove_41 : decode cX0_discHasKeptAbove 41 = .ok (.iinc 2 1, 3) := by decide +kernel
theorem dX0_discHasKeptAbove_44 : decode cX0_discHasKeptAbove 44 = .ok (.goto (-42), 3) := by decide +kernel
theorem dX0_discHasKeptAbove_47 : decode cX0_discHasKeptAbove 47 = .ok (.iconst 0, 1) := by decide +kernel
theorem dX0_discHasKeptAbove_48 : decode cX0_discHasKeptAbove 48 = .ok (.ireturn, 1) := by decide +kernel
theorem dX0_lowerDisc_0 : decode cX0_lowerDisc 0 = .ok (.iconst 0, 1) := by decide +kernel
theorem dX0_lowerDisc_1 : decode cX0_lowerDisc 1 = .ok (.istore_n 2, 1) := by decide +kernel
theorem dX0_lowerDisc_2 : decode cX0_lowerDisc 2 = .ok (.iconst 0, 1) := by decide +kernel
theorem dX0_lowerDisc_3 : decode cX0_lowerDisc 3 = .ok (.istore_n 3, 1) := by decide +kernel
theorem dX0_lowerDisc_4 : decode cX0_lowerDisc 4 = .ok (.iload_n 3, 1) := by decide +kernel
theorem dX0_lowerDisc_5 : decode cX0_lowerDisc 5 = .ok (.aload_n 0, 1) := by decide +kernel
theorem dX0_lowerDisc_6 : decode cX0_lowerDisc 6 = .ok (.getfield 35, 3) := by decide +kernel
theorem dX0_lowerDisc_9 : decode cX0_lowerDisc 9 = .ok (.if_icmp .ge 39, 3) := by decide +kernel
theorem dX0_lowerDisc_12 : decode cX0_lowerDisc 12 = .ok (.aload_n 0, 1) := by decide +kernel
theorem dX0_lowerDisc_13 : decode cX0_lowerDisc 13 = .ok (.getfield 18, 3) := by decide +kernel
theorem dX0_lowerDisc_16 : decode cX0_lowerDisc 16 = .ok (.aload_n 0, 1) := by decide +kernel
theorem dX0_lowerDisc_17 : decode cX0_lowerDisc 17 = .ok (.getfield 32, 3) := by decide +kernel
theorem dX0_lowerDisc_20 : decode cX0_lowerDisc 20 = .ok (.iload_n 3, 1) := by decide +kernel
theorem dX0_lowerDisc_21 : decode cX0_lowerDisc 21 = .ok (.iaload, 1) := by decide +kernel
theorem dX0_lowerDisc_22 : decode cX0_lowerDisc 22 = .ok (.iaload, 1) := by decide +kernel
theorem dX0_lowerDisc_23 : decode cX0_lowerDisc 23 = .ok (.iload_n 1, 1) := by decide +kernel
theorem dX0_lowerDisc_24 : decode cX0_lowerDisc 24 = .ok (.if_icmp .le 18, 3) := by decide +kernel
theorem dX0_lowerDisc_27 : decode cX0_lowerDisc 27 = .ok (.aload_n 0, 1) := by decide +kernel
theorem dX0_lowerDisc_28 : decode cX0_lowerDisc 28 = .ok (.getfield 18, 3) := by decide +kernel
theorem dX0_lowerDisc_31 : decode cX0_lowerDisc 31 = .ok (.aload_n 0, 1) := by decide +kernel
theorem dX0_lowerDisc_32 : decode cX0_lowerDisc 32 = .ok (.getfield 32, 3) := by decide +kernel
theorem dX0_lowerDisc_35 : decode cX0_lowerDisc 35 = .ok (.iload_n 3, 1) := by decide +kernel
theorem dX0_lowerDisc_36 : decode cX0_lowerDisc 36 = .ok (.iaload, 1) := by decide +kernel
theorem dX0_lowerDisc_37 : decode cX0_lowerDisc 37 = .ok (.iload_n 1, 1) := by decide +kernel
theorem dX0_lowerDisc_38 : decode cX0_lowerDisc 38 = .ok (.iastore, 1) := by decide +kernel
theorem dX0_lowerDisc_39 : decode cX0_lowerDisc 39 = .ok (.iinc 2 1, 3) := by decide +kernel
theorem dX0_lowerDisc_42 : decode cX0_lowerDisc 42 = .ok (.iinc 3 1, 3) := by decide +kernel
theorem dX0_lowerDisc_45 : decode cX0_lowerDisc 45 = .ok (.goto (-41), 3) := by decide +kernel
theorem dX0_lowerDisc_48 : decode cX0_lowerDisc 48 = .ok (.iload_n 2, 1) := by decide +kernel
theorem dX0_lowerDisc_49 : decode cX0_lowerDisc 49 = .ok (.ireturn, 1) := by decide +kernel
theorem dX0_countReached_0 : decode cX0_countReached 0 = .ok (.iconst 0, 1) := by decide +kernel
theorem dX0_countReached_1 : decode cX0_countReached 1 = .ok (.istore_n 2, 1) := by decide +kernel
theorem dX0_countReached_2 : decode cX0_countReached 2 = .ok (.iload_n 2, 1) := by decide +kernel
theorem dX0_countReached_3 : decode cX0_countReached 3 = .ok (.aload_n 0, 1) := by decide +kernel
theorem dX0_countReached_4 : decode cX0_countReached 4 = .ok (.getfield 15, 3) := by decide +kernel
theorem dX0_countReached_7 : decode cX0_countReached 7 = .ok (.if_icmp .ge 16, 3) := by decide +kernel
theorem dX0_countReached_10 : decode cX0_countReached 10 = .ok (.aload_n 0, 1) := by decide +kernel
theorem dX0_countReached_11 : decode cX0_countReached 11 = .ok (.getfield 29, 3) := by decide +kernel
theorem dX0_countReached_14 : decode cX0_countReached 14 = .ok (.iload_n 2, 1) := by decide +kernel
theorem dX0_countReached_15 : decode cX0_countReached 15 = .ok (.iconst 0, 1) := by decide +kernel
theorem dX0_countReached_16 : decode cX0_countReached 16 = .ok (.bastore, 1) := by decide +kernel
theorem dX0_countReached_17 : decode cX0_countReached 17 = .ok (.iinc 2 1, 3) := by decide +kernel
theorem dX0_countReached_20 : decode cX0_countReached 20 = .ok (.goto (-18), 3) := by decide +kernel
theorem dX0_countReached_23 : decode cX0_countReached 23 = .ok (.iconst 0, 1) := by decide +kernel
theorem dX0_countReached_24 : decode cX0_countReached 24 = .ok (.istore_n 2, 1) := by decide +kernel
theorem dX0_countReached_25 : decode cX0_countReached 25 = .ok (.iconst 0, 1) := by decide +kernel
theorem dX0_countReached_26 : decode cX0_countReached 26 = .ok (.istore_n 3, 1) := by decide +kernel
theorem dX0_countReached_27 : decode cX0_countReached 27 = .ok (.iload_n 3, 1) := by decide +kernel
theorem dX0_countReached_28 : decode cX0_countReached 28 = .ok (.aload_n 0, 1) := by decide +kernel
theorem dX0_countReached_29 : decode cX0_countReached 29 = .ok (.getfield 9, 3) := by decide +kernel
theorem dX0_countReached_32 : decode cX0_countReached 32 = .ok (.if_icmp .ge 53, 3) := by decide +kernel
theorem dX0_countReached_35 : decode cX0_countReached 35 = .ok (.iconst 0, 1) := by decide +kernel
theorem dX0_countReached_36 : decode cX0_countReached 36 = .ok (.istore 4, 2) := by decide +kernel
theorem dX0_countReached_38 : decode cX0_countReached 38 = .ok (.iload 4, 2) := by decide +kernel
theorem dX0_countReached_40 : decode cX0_countReached 40 = .ok (.aload_n 0, 1) := by decide +kernel
theorem dX0_countReached_41 : decode cX0_countReached 41 = .ok (.getfield 9, 3) := by decide +kernel
theorem dX0_countReached_44 : decode cX0_countReached 44 = .ok (.if_icmp .ge 35, 3) := by decide +kernel
theorem dX0_countReached_47 : decode cX0_countReached 47 = .ok (.aload_n 0, 1) := by decide +kernel
theorem dX0_countReached_48 : decode cX0_countReached 48 = .ok (.aload_n 1, 1) := by decide +kernel
theorem dX0_countReached_49 : decode cX0_countReached 49 = .ok (.iload 4, 2) := by decide +kernel
theorem dX0_countReached_51 : decode cX0_countReached 51 = .ok (.iload_n 3, 1) := by decide +kernel
theorem dX0_countReached_52 : decode cX0_countReached 52 = .ok (.invokevirtual 66, 3) := by decide +kernel
theorem dX0_countReached_55 : decode cX0_countReached 55 = .ok (.aload_n 0, 1) := by decide +kernel
theorem dX0_countReached_56 : decode cX0_countReached 56 = .ok (.invokevirtual 70, 3) := by decide +kernel
theorem dX0_countReached_59 : decode cX0_countReached 59 = .ok (.ifCond .ne 14, 3) := by decide +kernel
theorem dX0_countReached_62 : decode cX0_countReached 62 = .ok (.iload_n 2, 1) := by decide +kernel
theorem dX0_countReached_63 : decode cX0_countReached 63 = .ok (.aload_n 0, 1) := by decide +kernel
theorem dX0_countReached_64 : decode cX0_countReached 64 = .ok (.aload_n 0, 1) := by decide +kernel
theorem dX0_countReached_65 : decode cX0_countReached 65 = .ok (.invokevirtual 74, 3) := by decide +kernel
theorem dX0_countReached_68 : decode cX0_countReached 68 = .ok (.invokevirtual 78, 3) := by decide +kernel
theorem dX0_countReached_71 : decode cX0_countReached 71 = .ok (.iadd, 1) := by decide +kernel
theorem dX0_countReached_72 : decode cX0_countReached 72 = .ok (.istore_n 2, 1) := by decide +kernel
theorem dX0_countReached_73 : decode cX0_countReached 73 = .ok (.iinc 4 1, 3) := by decide +kernel
theorem dX0_countReached_76 : decode cX0_countReached 76 = .ok (.goto (-38), 3) := by decide +kernel
theorem dX0_countReached_79 : decode cX0_countReached 79 = .ok (.iinc 3 1, 3) := by decide +kernel
theorem dX0_countReached_82 : decode cX0_countReached 82 = .ok (.goto (-55), 3) := by decide +kernel
theorem dX0_countReached_85 : decode cX0_countReached 85 = .ok (.iload_n 2, 1) := by decide +kernel
theorem dX0_countReached_86 : decode cX0_countReached 86 = .ok (.ireturn, 1) := by decide +kernel
theorem dX0_discHasKept_0 : decode cX0_discHasKept 0 = .ok (.iconst 0, 1) := by decide +kernel
theorem dX0_discHasKept_1 : decode cX0_discHasKept 1 = .ok (.istore_n 1, 1) := by decide +kernel
theorem dX0_discHasKept_2 : decode cX0_discHasKept 2 = .ok (.iload_n 1, 1) := by decide +kernel
theorem dX0_discHasKept_3 : decode cX0_discHasKept 3 = .ok (.aload_n 0, 1) := by decide +kernel
theorem dX0_discHasKept_4 : decode cX0_discHasKept 4 = .ok (.getfield 35, 3) := by decide +kernel
theorem dX0_discHasKept_7 : decode cX0_discHasKept 7 = .ok (.if_icmp .ge 25, 3) := by decide +kernel
theorem dX0_discHasKept_10 : decode cX0_discHasKept 10 = .ok (.aload_n 0, 1) := by decide +kernel
theorem dX0_discHasKept_11 : decode cX0_discHasKept 11 = .ok (.getfield 25, 3) := by decide +kernel
theorem dX0_discHasKept_14 : decode cX0_discHasKept 14 = .ok (.aload_n 0, 1) := by decide +kernel
theorem dX0_discHasKept_15 : decode cX0_discHasKept 15 = .ok (.getfield 32, 3) := by decide +kernel
theorem dX0_discHasKept_18 : decode cX0_discHasKept 18 = .ok (.iload_n 1, 1) := by decide +kernel
theorem dX0_discHasKept_19 : decode cX0_discHasKept 19 = .ok (.iaload, 1) := by decide +kernel
theorem dX0_discHasKept_20 : decode cX0_discHasKept 20 = .ok (.baload, 1) := by decide +kernel
theorem dX0_discHasKept_21 : decode cX0_discHasKept 21 = .ok (.ifCond .eq 5, 3) := by decide +kernel
theorem dX0_discHasKept_24 : decode cX0_discHasKept 24 = .ok (.iconst 1, 1) := by decide +kernel
theorem dX0_discHasKept_25 : decode cX0_discHasKept 25 = .ok (.ireturn, 1) := by decide +kernel
theorem dX0_discHasKept_26 : decode cX0_discHasKept 26 = .ok (.iinc 1 1, 3) := by decide +kernel
theorem dX0_discHasKept_29 : decode cX0_discHasKept 29 = .ok (.goto (-27), 3) := by decide +kernel
theorem dX0_discHasKept_32 : decode cX0_discHasKept 32 = .ok (.iconst 0, 1) := by decide +kernel
theorem dX0_discHasKept_33 : decode cX0_discHasKept 33 = .ok (.ireturn, 1) := by decide +kernel
theorem dX0_highestTargetInDisc_0 : decode cX0_highestTargetInDisc 0 = .ok (.iconst 0, 1) := by decide +kernel
theorem dX0_highestTargetInDisc_1 : decode cX0_highestTargetInDisc 1 = .ok (.istore_n 1, 1) := by decide +kernel
theorem dX0_highestTargetInDisc_2 : decode cX0_highestTargetInDisc 2 = .ok (.iconst 0, 1) := by decide +kernel
theorem dX0_highestTargetInDisc_3 : decode cX0_highestTargetInDisc 3 = .ok (.istore_n 2, 1) := by decide +kernel
theorem dX0_highestTargetInDisc_4 : decode cX0_highestTargetInDisc 4 = .ok (.iload_n 2, 1) := by decide +kernel
theorem dX0_highestTargetInDisc_5 : decode cX0_highestTargetInDisc 5 = .ok (.aload_n 0, 1) := by decide +kernel
theorem dX0_highestTargetInDisc_6 : decode cX0_highestTargetInDisc 6 = .ok (.getfield 35, 3) := by decide +kernel
theorem dX0_highestTargetInDisc_9 : decode cX0_highestTargetInDisc 9 = .ok (.if_icmp .ge 25, 3) := by decide +kernel
theorem dX0_highestTargetInDisc_12 : decode cX0_highestTargetInDisc 12 = .ok (.iload_n 1, 1) := by decide +kernel
theorem dX0_highestTargetInDisc_13 : decode cX0_highestTargetInDisc 13 = .ok (.aload_n 0, 1) := by decide +kernel
theorem dX0_highestTargetInDisc_14 : decode cX0_highestTargetInDisc 14 = .ok (.getfield 22, 3) := by decide +kernel
theorem dX0_highestTargetInDisc_17 : decode cX0_highestTargetInDisc 17 = .ok (.aload_n 0, 1) := by decide +kernel
theorem dX0_highestTargetInDisc_18 : decode cX0_highestTargetInDisc 18 = .ok (.getfield 32, 3) := by decide +kernel
theorem dX0_highestTargetInDisc_21 : decode cX0_highestTargetInDisc 21 = .ok (.iload_n 2, 1) := by decide +kernel
theorem dX0_highestTargetInDisc_22 : decode cX0_highestTargetInDisc 22 = .ok (.iaload, 1) := by decide +kernel
theorem dX0_highestTargetInDisc_23 : decode cX0_highestTargetInDisc 23 = .ok (.iaload, 1) := by decide +kernel
theorem dX0_highestTargetInDisc_24 : decode cX0_highestTargetInDisc 24 = .ok (.invokestatic 56, 3) := by decide +kernel
theorem dX0_highestTargetInDisc_27 : decode cX0_highestTargetInDisc 27 = .ok (.istore_n 1, 1) := by decide +kernel
theorem dX0_highestTargetInDisc_28 : decode cX0_highestTargetInDisc 28 = .ok (.iinc 2 1, 3) := by decide +kernel
theorem dX0_highestTargetInDisc_31 : decode cX0_highestTargetInDisc 31 = .ok (.goto (-27), 3) := by decide +kernel
theorem dX0_highestTargetInDisc_34 : decode cX0_highestTargetInDisc 34 = .ok (.iload_n 1, 1) := by decide +kernel
theorem dX0_highestTargetInDisc_35 : decode cX0_highestTargetInDisc 35 = .ok (.ireturn, 1) := by decide +kernel
theorem dX0_markReached_0 : decode cX0_markReached 0 = .ok (.iconst 0, 1) := by decide +kernel
theorem dX0_markReached_1 : decode cX0_markReached 1 = .ok (.istore_n 2, 1) := by decide +kernel
theorem dX0_markReached_2 : decode cX0_markReached 2 = .ok (.iconst 0, 1) := by decide +kernel
theorem dX0_markReached_3 : decode cX0_markReached 3 = .ok (.istore_n 3, 1) := by decide +kernel
theorem dX0_markReached_4 : decode cX0_markReached 4 = .ok (.iload_n 3, 1) := by decide +kernel
theorem dX0_markReached_5 : decode cX0_markReached 5 = .ok (.aload_n 0, 1) := by decide +kernel
theorem dX0_markReached_6 : decode cX0_markReached 6 = .ok (.getfield 35, 3) := by decide +kernel
theorem dX0_markReached_9 : decode cX0_markReached 9 = .ok (.if_icmp .ge 59, 3) := by decide +kernel
theorem dX0_markReached_12 : decode cX0_markReached 12 = .ok (.aload_n 0, 1) := by decide +kernel
theorem dX0_markReached_13 : decode cX0_markReached 13 = .ok (.getfield 32, 3) := by decide +kernel
theorem dX0_markReached_16 : decode cX0_markReached 16 = .ok (.iload_n 3, 1) := by decide +kernel
theorem dX0_markReached_17 : decode cX0_markReached 17 = .ok (.iaload, 1) := by decide +kernel
theorem dX0_markReached_18 : decode cX0_markReached 18 = .ok (.istore 4, 2) := by decide +kernel
theorem dX0_markReached_20 : decode cX0_markReached 20 = .ok (.aload_n 0, 1) := by decide +kernel
theorem dX0_markReached_21 : decode cX0_markReached 21 = .ok (.getfield 29, 3) := by decide +kernel
theorem dX0_markReached_24 : decode cX0_markReached 24 = .ok (.iload 4, 2) := by decide +kernel
theorem dX0_markReached_26 : decode cX0_markReached 26 = .ok (.baload, 1) := by decide +kernel
theorem dX0_markReached_27 : decode cX0_markReached 27 = .ok (.ifCond .ne 35, 3) := by decide +kernel
theorem dX0_markReached_30 : decode cX0_markReached 30 = .ok (.aload_n 0, 1) := by decide +kernel
theorem dX0_markReached_31 : decode cX0_markReached 31 = .ok (.getfield 22, 3) := by decide +kernel
theorem dX0_markReached_34 : decode cX0_markReached 34 = .ok (.iload 4, 2) := by decide +kernel
theorem dX0_markReached_36 : decode cX0_markReached 36 = .ok (.iaload, 1) := by decide +kernel
theorem dX0_markReached_37 : decode cX0_markReached 37 = .ok (.iload_n 1, 1) := by decide +kernel
theorem dX0_markReached_38 : decode cX0_markReached 38 = .ok (.if_icmp .ne 24, 3) := by decide +kernel
theorem dX0_markReached_41 : decode cX0_markReached 41 = .ok (.aload_n 0, 1) := by decide +kernel
theorem dX0_markReached_42 : decode cX0_markReached 42 = .ok (.iload 4, 2) := by decide +kernel
theorem dX0_markReached_44 : decode cX0_markReached 44 = .ok (.iconst 1, 1) := by decide +kernel
theorem dX0_markReached_45 : decode cX0_markReached 45 = .ok (.invokevirtual 42, 3) := by decide +kernel
theorem dX0_markReached_48 : decode cX0_markReached 48 = .ok (.ifCond .eq 14, 3) := by decide +kernel
theorem dX0_markReached_51 : decode cX0_markReached 51 = .ok (.aload_n 0, 1) := by decide +kernel
theorem dX0_markReached_52 : decode cX0_markReached 52 = .ok (.getfield 29, 3) := by decide +kernel
theorem dX0_markReached_55 : decode cX0_markReached 55 = .ok (.iload 4, 2) := by decide +kernel
theorem dX0_markReached_57 : decode cX0_markReached 57 = .ok (.iconst 1, 1) := by decide +kernel
theorem dX0_markReached_58 : decode cX0_markReached 58 = .ok (.bastore, 1) := by decide +kernel
theorem dX0_markReached_59 : decode cX0_markReached 59 = .ok (.iinc 2 1, 3) := by decide +kernel
theorem dX0_markReached_62 : decode cX0_markReached 62 = .ok (.iinc 3 1, 3) := by decide +kernel
theorem dX0_markReached_65 : decode cX0_markReached 65 = .ok (.goto (-61), 3) := by decide +kernel
theorem dX0_markReached_68 : decode cX0_markReached 68 = .ok (.iload_n 2, 1) := by decide +kernel
theorem dX0_markReached_69 : decode cX0_markReached 69 = .ok (.ireturn, 1) := by decide +kernel
theorem dX5_init_0 : decode cX5_init 0 = .ok (.aload_n 0, 1) := by decide +kernel
theorem dX5_init_1 : decode cX5_init 1 = .ok (.invokespecial 3, 3) := by decide +kernel
theorem dX5_init_4 : decode cX5_init 4 = .ok (.aload_n 0, 1) := by decide +kernel
theorem dX5_init_5 : decode cX5_init 5 = .ok (.iconst 0, 1) := by decide +kernel
theorem dX5_init_6 : decode cX5_init 6 = .ok (.putfield 9, 3) := by decide +kernel
theorem dX5_init_9 : decode cX5_init 9 = .ok (.aload_n 0, 1) := by decide +kernel
theorem dX5_init_10 : decode cX5_init 10 = .ok (.iconst 1, 1) := by decide +kernel
theorem dX5_init_11 : decode cX5_init 11 = .ok (.putfield 15, 3) := by decide +kernel
theorem dX5_init_14 : decode cX5_init 14 = .ok (.aload_n 0, 1) := by decide +kernel
theorem dX5_init_15 : decode cX5_init 15 = .ok (.bipush 7, 2) := by decide +kernel
theorem dX5_init_17 : decode cX5_init 17 = .ok (.newarray .int, 2) := by decide +kernel
theorem dX5_init_19 : decode cX5_init 19 = .ok (.putfield 18, 3) := by decide +kernel
theorem dX5_init_22 : decode cX5_init 22 = .ok (.return_, 1) := by decide +kernel
theorem dX5_become_0 : decode cX5_become 0 = .ok (.aload_n 0, 1) := by decide +kernel
theorem dX5_become_1 : decode cX5_become 1 = .ok (.iload_n 1, 1) := by decide +kernel
theorem dX5_become_2 : decode cX5_become 2 = .ok (.putfield 9, 3) := by decide +kernel
theorem dX5_become_5 : decode cX5_become 5 = .ok (.aload_n 0, 1) := by decide +kernel
theorem dX5_become_6 : decode cX5_become 6 = .ok (.iload_n 2, 1) := by decide +kernel
theorem dX5_become_7 : decode cX5_become 7 = .ok (.putfield 15, 3) := by decide +kernel
theorem dX5_become_10 : decode cX5_become 10 = .ok (.iconst 0, 1) := by decide +kernel
theorem dX5_become_11 : decode cX5_become 11 = .ok (.istore_n 3, 1) := by decide +kernel
theorem dX5_become_12 : decode cX5_become 12 = .ok (.iload_n 3, 1) := by decide +kernel
theorem dX5_become_13 : decode cX5_become 13 = .ok (.bipush 6, 2) := by decide +kernel
theorem dX5_become_15 : decode cX5_become 15 = .ok (.if_icmp .gt 20, 3) := by decide +kernel
theorem dX5_become_18 : decode cX5_become 18 = .ok (.aload_n 0, 1) := by decide +kernel
theorem dX5_become_19 : decode cX5_become 19 = .ok (.getfield 18, 3) := by decide +kernel
theorem dX5_become_22 : decode cX5_become 22 = .ok (.iload_n 3, 1) := by decide +kernel
theorem dX5_become_23 : decode cX5_become 23 = .ok (.iload_n 3, 1) := by decide +kernel
theorem dX5_become_24 : decode cX5_become 24 = .ok (.iload_n 1, 1) := by decide +kernel
theorem dX5_become_25 : decode cX5_become 25 = .ok (.invokestatic 22, 3) := by decide +kernel
theorem dX5_become_28 : decode cX5_become 28 = .ok (.iastore, 1) := by decide +kernel
theorem dX5_become_29 : decode cX5_become 29 = .ok (.iinc 3 1, 3) := by decide +kernel
theorem dX5_become_32 : decode cX5_become 32 = .ok (.goto (-20), 3) := by decide +kernel
theorem dX5_become_35 : decode cX5_become 35 = .ok (.return_, 1) := by decide +kernel
theorem dX5_halfWidthAt_0 : decode cX5_halfWidthAt 0 = .ok (.iconst 0, 1) := by decide +kernel
theorem dX5_halfWidthAt_1 : decode cX5_halfWidthAt 1 = .ok (.istore_n 2, 1) := by decide +kernel
theorem dX5_halfWidthAt_2 : decode cX5_halfWidthAt 2 = .ok (.iconst 1, 1) := by decide +kernel
theorem dX5_halfWidthAt_3 : decode cX5_halfWidthAt 3 = .ok (.istore_n 3, 1) := by decide +kernel
theorem dX5_halfWidthAt_4 : decode cX5_halfWidthAt 4 = .ok (.iload_n 3, 1) := by decide +kernel
theorem dX5_halfWidthAt_5 : decode cX5_halfWidthAt 5 = .ok (.iload_n 1, 1) := by decide +kernel
theorem dX5_halfWidthAt_6 : decode cX5_halfWidthAt 6 = .ok (.if_icmp .gt 24, 3) := by decide +kernel
theorem dX5_halfWidthAt_9 : decode cX5_halfWidthAt 9 = .ok (.iload_n 3, 1) := by decide +kernel
theorem dX5_halfWidthAt_10 : decode cX5_halfWidthAt 10 = .ok (.iload_n 3, 1) := by decide +kernel
theorem dX5_halfWidthAt_11 : decode cX5_halfWidthAt 11 = .ok (.imul, 1) := by decide +kernel
theorem dX5_halfWidthAt_12 : decode cX5_halfWidthAt 12 = .ok (.iload_n 0, 1) := by decide +kernel
theorem dX5_halfWidthAt_13 : decode cX5_halfWidthAt 13 = .ok (.iload_n 0, 1) := by decide +kernel
theorem dX5_halfWidthAt_14 : decode cX5_halfWidthAt 14 = .ok (.imul, 1) := by decide +kernel
theorem dX5_halfWidthAt_15 : decode cX5_halfWidthAt 15 = .ok (.iadd, 1) := by decide +kernel
theorem dX5_halfWidthAt_16 : decode cX5_halfWidthAt 16 = .ok (.iload_n 1, 1) := by decide +kernel
theorem dX5_halfWidthAt_17 : decode cX5_halfWidthAt 17 = .ok (.iload_n 1, 1) := by decide +kernel
theorem dX5_halfWidthAt_18 : decode cX5_halfWidthAt 18 = .ok (.imul, 1) := by decide +kernel
theorem dX5_halfWidthAt_19 : decode cX5_halfWidthAt 19 = .ok (.if_icmp .gt 5, 3) := by decide +kernel
theorem dX5_halfWidthAt_22 : decode cX5_halfWidthAt 22 = .ok (.iload_n 3, 1) := by decide +kernel
theorem dX5_halfWidthAt_23 : decode cX5_halfWidthAt 23 = .ok (.istore_n 2, 1) := by decide +kernel
theorem dX5_halfWidthAt_24 : decode cX5_halfWidthAt 24 = .ok (.iinc 3 1, 3) := by decide +kernel
theorem dX5_halfWidthAt_27 : decode cX5_halfWidthAt 27 = .ok (.goto (-23), 3) := by decide +kernel
theorem dX5_halfWidthAt_30 : decode cX5_halfWidthAt 30 = .ok (.iload_n 2, 1) := by decide +kernel
theorem dX5_halfWidthAt_31 : decode cX5_halfWidthAt 31 = .ok (.ireturn, 1) := by decide +kernel
theorem dJm_abs_0 : decode cJm_abs 0 = .ok (.iload_n 0, 1) := by decide +kernel
theorem dJm_abs_1 : decode cJm_abs 1 = .ok (.ifCond .ge 8, 3) := by decide +kernel
theorem dJm_abs_4 : decode cJm_abs 4 = .ok (.iload_n 0, 1) := by decide +kernel
theorem dJm_abs_5 : decode cJm_abs 5 = .ok (.ineg, 1) := by decide +kernel
theorem dJm_abs_6 : decode cJm_abs 6 = .ok (.goto 4, 3) := by decide +kernel
theorem dJm_abs_9 : decode cJm_abs 9 = .ok (.iload_n 0, 1) := by decide +kernel
theorem dJm_abs_10 : decode cJm_abs 10 = .ok (.ireturn, 1) := by decide +kernel
theorem dJm_floorDiv_0 : decode cJm_floorDiv 0 = .ok (.iload_n 0, 1) := by decide +kernel
theorem dJm_floorDiv_1 : decode cJm_floorDiv 1 = .ok (.iload_n 1, 1) := by decide +kernel
theorem dJm_floorDiv_2 : decode cJm_floorDiv 2 = .ok (.idiv, 1) := by decide +kernel
theorem dJm_floorDiv_3 : decode cJm_floorDiv 3 = .ok (.istore_n 2, 1) := by decide +kernel
theorem dJm_floorDiv_4 : decode cJm_floorDiv 4 = .ok (.iload_n 0, 1) := by decide +kernel
theorem dJm_floorDiv_5 : decode cJm_floorDiv 5 = .ok (.iload_n 1, 1) := by decide +kernel
theorem dJm_floorDiv_6 : decode cJm_floorDiv 6 = .ok (.ixor, 1) := by decide +kernel
theorem dJm_floorDiv_7 : decode cJm_floorDiv 7 = .ok (.ifCond .ge 14, 3) := by decide +kernel
theorem dJm_floorDiv_10 : decode cJm_floorDiv 10 = .ok (.iload_n 2, 1) := by decide +kernel
theorem dJm_floorDiv_11 : decode cJm_floorDiv 11 = .ok (.iload_n 1, 1) := by decide +kernel
theorem dJm_floorDiv_12 : decode cJm_floorDiv 12 = .ok (.imul, 1) := by decide +kernel
theorem dJm_floorDiv_13 : decode cJm_floorDiv 13 = .ok (.iload_n 0, 1) := by decide +kernel
theorem dJm_floorDiv_14 : decode cJm_floorDiv 14 = .ok (.if_icmp .eq 7, 3) := by decide +kernel
theorem dJm_floorDiv_17 : decode cJm_floorDiv 17 = .ok (.iload_n 2, 1) := by decide +kernel
theorem dJm_floorDiv_18 : decode cJm_floorDiv 18 = .ok (.iconst 1, 1) := by decide +kernel
theorem dJm_floorDiv_19 : decode cJm_floorDiv 19 = .ok (.isub, 1) := by decide +kernel
theorem dJm_floorDiv_20 : decode cJm_floorDiv 20 = .ok (.ireturn, 1) := by decide +kernel
theorem dJm_floorDiv_21 : decode cJm_floorDiv 21 = .ok (.iload_n 2, 1) := by decide +kernel
theorem dJm_floorDiv_22 : decode cJm_floorDiv 22 = .ok (.ireturn, 1) := by decide +kernel
theorem dJm_max_0 : decode cJm_max 0 = .ok (.iload_n 0, 1) := by decide +kernel
theorem dJm_max_1 : decode cJm_max 1 = .ok (.iload_n 1, 1) := by decide +kernel
theorem dJm_max_2 : decode cJm_max 2 = .ok (.if_icmp .lt 7, 3) := by decide +kernel
theorem dJm_max_5 : decode cJm_max 5 = .ok (.iload_n 0, 1) := by decide +kernel
theorem dJm_max_6 : decode cJm_max 6 = .ok (.goto 4, 3) := by decide +kernel
theorem dJm_max_9 : decode cJm_max 9 = .ok (.iload_n 1, 1) := by decide +kernel
theorem dJm_max_10 : decode cJm_max 10 = .ok (.ireturn, 1) := by decide +kernel
theorem dJm_min_0 : decode cJm_min 0 = .ok (.iload_n 0, 1) := by decide +kernel
theorem dJm_min_1 : decode cJm_min 1 = .ok (.iload_n 1, 1) := by decide +kernel
theorem dJm_min_2 : decode cJm_min 2 = .ok (.if_icmp .gt 7, 3) := by decide +kernel
theorem dJm_min_5 : decode cJm_min 5 = .ok (.iload_n 0, 1) := by decide +kernel
theorem dJm_min_6 : decode cJm_min 6 = .ok (.goto 4, 3) := by decide +kernel
theorem dJm_min_9 : decode cJm_min 9 = .ok (.iload_n 1, 1) := by decide +kernel
theorem dJm_min_10 : decode cJm_min 10 = .ok (.ireturn, 1) := by decide +kernel
