theorem mlL_56 : Cond.methodLink RL 56 yL_target ∈ tblG := List.mem_filter.mpr ⟨List.mem_of_getElem? (i := 355) (by decide +kernel), rfl⟩
theorem stL_target : Cond.static yL_target ∈ tblG := List.mem_filter.mpr ⟨List.mem_of_getElem? (i := 356) (by decide +kernel), rfl⟩
theorem iniL : Cond.initialized RL ∈ tblG := List.mem_filter.mpr ⟨List.mem_of_getElem? (i := 35) (by decide +kernel), rfl⟩
theorem mlL_59 : Cond.methodLink RL 59 yX7_target ∈ tblG := List.mem_filter.mpr ⟨List.mem_of_getElem? (i := 713) (by decide +kernel), rfl⟩
theorem imX7_target : Cond.instanceMethod yX7_target ∈ tblG := List.mem_filter.mpr ⟨List.mem_of_getElem? (i := 714) (by decide +kernel), rfl⟩
theorem seX7_target : Cond.selects RX7 yX7_target yX7_target ∈ tblG := List.mem_filter.mpr ⟨List.mem_of_getElem? (i := 715) (by decide +kernel), rfl⟩
set_option maxRecDepth 100000 in
theorem cdX7_target : Cond.code yX7_target cX7_target 8 none ∈ tblG := List.mem_filter.mpr ⟨List.mem_of_getElem? (i := 716) (rfl), rfl⟩
theorem ivL_59 : InV RL 59 yX7_target cX7_target 8 none 5 := ⟨mlL_59, imX7_target, seX7_target, iniX7, cdX7_target, by decide +kernel⟩
theorem mlL_60 : Cond.methodLink RL 60 yX7_thrown ∈ tblG := List.mem_filter.mpr ⟨List.mem_of_getElem? (i := 709) (by decide +kernel), rfl⟩
theorem imX7_thrown : Cond.instanceMethod yX7_thrown ∈ tblG := List.mem_filter.mpr ⟨List.mem_of_getElem? (i := 710) (by decide +kernel), rfl⟩
theorem seX7_thrown : Cond.selects RX7 yX7_thrown yX7_thrown ∈ tblG := List.mem_filter.mpr ⟨List.mem_of_getElem? (i := 711) (by decide +kernel), rfl⟩
set_option maxRecDepth 100000 in
theorem cdX7_thrown : Cond.code yX7_thrown cX7_thrown 1 (some .int) ∈ tblG := List.mem_filter.mpr ⟨List.mem_of_getElem? (i := 712) (rfl), rfl⟩
theorem ivL_60 : InV RL 60 yX7_thrown cX7_thrown 1 (some .int) 0 := ⟨mlL_60, imX7_thrown, seX7_thrown, iniX7, cdX7_thrown, by decide +kernel⟩
theorem mlL_63 : Cond.methodLink RL 63 yL_keep ∈ tblG := List.mem_filter.mpr ⟨List.mem_of_getElem? (i := 463) (by decide +kernel), rfl⟩
theorem stL_keep : Cond.static yL_keep ∈ tblG := List.mem_filter.mpr ⟨List.mem_of_getElem? (i := 464) (by decide +kernel), rfl⟩
theorem mlL_66 : Cond.methodLink RL 66 yX7_keep ∈ tblG := List.mem_filter.mpr ⟨List.mem_of_getElem? (i := 728) (by decide +kernel), rfl⟩
theorem imX7_keep : Cond.instanceMethod yX7_keep ∈ tblG := List.mem_filter.mpr ⟨List.mem_of_getElem? (i := 729) (by decide +kernel), rfl⟩
theorem seX7_keep : Cond.selects RX7 yX7_keep yX7_keep ∈ tblG := List.mem_filter.mpr ⟨List.mem_of_getElem? (i := 730) (by decide +kernel), rfl⟩
set_option maxRecDepth 100000 in
theorem cdX7_keep : Cond.code yX7_keep cX7_keep 8 none ∈ tblG := List.mem_filter.mpr ⟨List.mem_of_getElem? (i := 731) (rfl), rfl⟩
theorem ivL_66 : InV RL 66 yX7_keep cX7_keep 8 none 5 := ⟨mlL_66, imX7_keep, seX7_keep, iniX7, cdX7_keep, by decide +kernel⟩
theorem mlL_67 : Cond.methodLink RL 67 yL_tool ∈ tblG := List.mem_filter.mpr ⟨List.mem_of_getElem? (i := 474) (by decide +kernel), rfl⟩
theorem stL_tool : Cond.static yL_tool ∈ tblG := List.mem_filter.mpr ⟨List.mem_of_getElem? (i := 475) (by decide +kernel), rfl⟩
theorem mlL_70 : Cond.methodLink RL 70 yX7_tool ∈ tblG := List.mem_filter.mpr ⟨List.mem_of_getElem? (i := 732) (by decide +kernel), rfl⟩
theorem imX7_tool : Cond.instanceMethod yX7_tool ∈ tblG := List.mem_filter.mpr ⟨List.mem_of_getElem? (i := 733) (by decide +kernel), rfl⟩
theorem seX7_tool : Cond.selects RX7 yX7_tool yX7_tool ∈ tblG := List.mem_filter.mpr ⟨List.mem_of_getElem? (i := 734) (by decide +kernel), rfl⟩
set_option maxRecDepth 100000 in
theorem cdX7_tool : Cond.code yX7_tool cX7_tool 4 none ∈ tblG := List.mem_filter.mpr ⟨List.mem_of_getElem? (i := 735) (rfl), rfl⟩
theorem ivL_70 : InV RL 70 yX7_tool cX7_tool 4 none 3 := ⟨mlL_70, imX7_tool, seX7_tool, iniX7, cdX7_tool, by decide +kernel⟩
theorem mlL_71 : Cond.methodLink RL 71 yX6_unit ∈ tblG := List.mem_filter.mpr ⟨List.mem_of_getElem? (i := 264) (by decide +kernel), rfl⟩
theorem imX6_unit : Cond.instanceMethod yX6_unit ∈ tblG := List.mem_filter.mpr ⟨List.mem_of_getElem? (i := 265) (by decide +kernel), rfl⟩
theorem seX6_unit : Cond.selects RX6 yX6_unit yX6_unit ∈ tblG := List.mem_filter.mpr ⟨List.mem_of_getElem? (i := 266) (by decide +kernel), rfl⟩
set_option maxRecDepth 100000 in
theorem cdX6_unit : Cond.code yX6_unit cX6_unit 2 (some .boolean) ∈ tblG := List.mem_filter.mpr ⟨List.mem_of_getElem? (i := 267) (rfl), rfl⟩
theorem ivL_71 : InV RL 71 yX6_unit cX6_unit 2 (some .boolean) 1 := ⟨mlL_71, imX6_unit, seX6_unit, iniX6, cdX6_unit, by decide +kernel⟩
theorem mlL_75 : Cond.methodLink RL 75 yX7_unit ∈ tblG := List.mem_filter.mpr ⟨List.mem_of_getElem? (i := 736) (by decide +kernel), rfl⟩
theorem imX7_unit : Cond.instanceMethod yX7_unit ∈ tblG := List.mem_filter.mpr ⟨List.mem_of_getElem? (i := 737) (by decide +kernel), rfl⟩
theorem seX7_unit : Cond.selects RX7 yX7_unit yX7_unit ∈ tblG := List.mem_filter.mpr ⟨List.mem_of_getElem? (i := 738) (by decide +kernel), rfl⟩
set_option maxRecDepth 100000 in
theorem cdX7_unit : Cond.code yX7_unit cX7_unit 3 (some .boolean) ∈ tblG := List.mem_filter.mpr ⟨List.mem_of_getElem? (i := 739) (rfl), rfl⟩
theorem ivL_75 : InV RL 75 yX7_unit cX7_unit 3 (some .boolean) 1 := ⟨mlL_75, imX7_unit, seX7_unit, iniX7, cdX7_unit, by decide +kernel⟩
theorem mlL_76 : Cond.methodLink RL 76 yX6_read ∈ tblG := List.mem_filter.mpr ⟨List.mem_of_getElem? (i := 272) (by decide +kernel), rfl⟩
theorem imX6_read : Cond.instanceMethod yX6_read ∈ tblG := List.mem_filter.mpr ⟨List.mem_of_getElem? (i := 273) (by decide +kernel), rfl⟩
theorem seX6_read : Cond.selects RX6 yX6_read yX6_read ∈ tblG := List.mem_filter.mpr ⟨List.mem_of_getElem? (i := 274) (by decide +kernel), rfl⟩
set_option maxRecDepth 100000 in
theorem cdX6_read : Cond.code yX6_read cX6_read 3 (some .int) ∈ tblG := List.mem_filter.mpr ⟨List.mem_of_getElem? (i := 275) (rfl), rfl⟩
theorem ivL_76 : InV RL 76 yX6_read cX6_read 3 (some .int) 0 := ⟨mlL_76, imX6_read, seX6_read, iniX6, cdX6_read, by decide +kernel⟩
theorem mlL_79 : Cond.methodLink RL 79 yX7_read ∈ tblG := List.mem_filter.mpr ⟨List.mem_of_getElem? (i := 740) (by decide +kernel), rfl⟩
theorem imX7_read : Cond.instanceMethod yX7_read ∈ tblG := List.mem_filter.mpr ⟨List.mem_of_getElem? (i := 741) (by decide +kernel), rfl⟩
theorem seX7_read : Cond.selects RX7 yX7_read yX7_read ∈ tblG := List.mem_filter.mpr ⟨List.mem_of_getElem? (i := 742) (by decide +kernel), rfl⟩
set_option maxRecDepth 100000 in
theorem cdX7_read : Cond.code yX7_read cX7_read 3 (some .int) ∈ tblG := List.mem_filter.mpr ⟨List.mem_of_getElem? (i := 743) (rfl), rfl⟩
theorem ivL_79 : InV RL 79 yX7_read cX7_read 3 (some .int) 0 := ⟨mlL_79, imX7_read, seX7_read, iniX7, cdX7_read, by decide +kernel⟩
theorem mlL_80 : Cond.methodLink RL 80 yL_run ∈ tblG := List.mem_filter.mpr ⟨List.mem_of_getElem? (i := 494) (by decide +kernel), rfl⟩
theorem stL_run : Cond.static yL_run ∈ tblG := List.mem_filter.mpr ⟨List.mem_of_getElem? (i := 495) (by decide +kernel), rfl⟩
theorem mlL_83 : Cond.methodLink RL 83 yX7_run ∈ tblG := List.mem_filter.mpr ⟨List.mem_of_getElem? (i := 768) (by decide +kernel), rfl⟩
theorem imX7_run : Cond.instanceMethod yX7_run ∈ tblG := List.mem_filter.mpr ⟨List.mem_of_getElem? (i := 769) (by decide +kernel), rfl⟩
theorem seX7_run : Cond.selects RX7 yX7_run yX7_run ∈ tblG := List.mem_filter.mpr ⟨List.mem_of_getElem? (i := 770) (by decide +kernel), rfl⟩
set_option maxRecDepth 100000 in
theorem cdX7_run : Cond.code yX7_run cX7_run 3 (some .int) ∈ tblG := List.mem_filter.mpr ⟨List.mem_of_getElem? (i := 771) (rfl), rfl⟩
theorem ivL_83 : InV RL 83 yX7_run cX7_run 3 (some .int) 0 := ⟨mlL_83, imX7_run, seX7_run, iniX7, cdX7_run, by decide +kernel⟩
theorem mlL_84 : Cond.methodLink RL 84 yL_about ∈ tblG := List.mem_filter.mpr ⟨List.mem_of_getElem? (i := 570) (by decide +kernel), rfl⟩
theorem stL_about : Cond.static yL_about ∈ tblG := List.mem_filter.mpr ⟨List.mem_of_getElem? (i := 571) (by decide +kernel), rfl⟩
theorem mlL_87 : Cond.methodLink RL 87 yX7_about ∈ tblG := List.mem_filter.mpr ⟨List.mem_of_getElem? (i := 790) (by decide +kernel), rfl⟩
theorem imX7_about : Cond.instanceMethod yX7_about ∈ tblG := List.mem_filter.mpr ⟨List.mem_of_getElem? (i := 791) (by decide +kernel), rfl⟩
theorem seX7_about : Cond.selects RX7 yX7_about yX7_about ∈ tblG := List.mem_filter.mpr ⟨List.mem_of_getElem? (i := 792) (by decide +kernel), rfl⟩
set_option maxRecDepth 100000 in
theorem cdX7_about : Cond.code yX7_about cX7_about 2 (some .int) ∈ tblG := List.mem_filter.mpr ⟨List.mem_of_getElem? (i := 793) (rfl), rfl⟩
theorem ivL_87 : InV RL 87 yX7_about cX7_about 2 (some .int) 1 := ⟨mlL_87, imX7_about, seX7_about, iniX7, cdX7_about, by decide +kernel⟩
theorem mlL_88 : Cond.methodLink RL 88 yL_cell2 ∈ tblG := List.mem_filter.mpr ⟨List.mem_of_getElem? (i := 582) (by decide +kernel), rfl⟩
theorem stL_cell2 : Cond.static yL_cell2 ∈ tblG := List.mem_filter.mpr ⟨List.mem_of_getElem? (i := 583) (by decide +kernel), rfl⟩
theorem mlL_91 : Cond.methodLink RL 91 yX7_cell ∈ tblG := List.mem_filter.mpr ⟨List.mem_of_getElem? (i := 794) (by decide +kernel), rfl⟩
theorem imX7_cell : Cond.instanceMethod yX7_cell ∈ tblG := List.mem_filter.mpr ⟨List.mem_of_getElem? (i := 795) (by decide +kernel), rfl⟩
theorem seX7_cell : Cond.selects RX7 yX7_cell yX7_cell ∈ tblG := List.mem_filter.mpr ⟨List.mem_of_getElem? (i := 796) (by decide +kernel), rfl⟩
set_option maxRecDepth 100000 in
theorem cdX7_cell : Cond.code yX7_cell cX7_cell 5 (some .int) ∈ tblG := List.mem_filter.mpr ⟨List.mem_of_getElem? (i := 797) (rfl), rfl⟩
theorem ivL_91 : InV RL 91 yX7_cell cX7_cell 5 (some .int) 3 := ⟨mlL_91, imX7_cell, seX7_cell, iniX7, cdX7_cell, by decide +kernel⟩
theorem mlL_92 : Cond.methodLink RL 92 yL_check ∈ tblG := List.mem_filter.mpr ⟨List.mem_of_getElem? (i := 590) (by decide +kernel), rfl⟩
theorem stL_check : Cond.static yL_check ∈ tblG := List.mem_filter.mpr ⟨List.mem_of_getElem? (i := 591) (by decide +kernel), rfl⟩
theorem mlL_94 : Cond.methodLink RL 94 yX7_check ∈ tblG := List.mem_filter.mpr ⟨List.mem_of_getElem? (i := 798) (by decide +kernel), rfl⟩
theorem imX7_check : Cond.instanceMethod yX7_check ∈ tblG := List.mem_filter.mpr ⟨List.mem_of_getElem? (i := 799) (by decide +kernel), rfl⟩
theorem seX7_check : Cond.selects RX7 yX7_check yX7_check ∈ tblG := List.mem_filter.mpr ⟨List.mem_of_getElem? (i := 800) (by decide +kernel), rfl⟩
set_option maxRecDepth 100000 in
theorem cdX7_check : Cond.code yX7_check cX7_check 7 (some .int) ∈ tblG := List.mem_filter.mpr ⟨List.mem_of_getElem? (i := 801) (rfl), rfl⟩
theorem ivL_94 : InV RL 94 yX7_check cX7_check 7 (some .int) 1 := ⟨mlL_94, imX7_check, seX7_check, iniX7, cdX7_check, by decide +kernel⟩
theorem mlL_95 : Cond.methodLink RL 95 yL_reached ∈ tblG := List.mem_filter.mpr ⟨List.mem_of_getElem? (i := 609) (by decide +kernel), rfl⟩
theorem stL_reached : Cond.static yL_reached ∈ tblG := List.mem_filter.mpr ⟨List.mem_of_getElem? (i := 610) (by decide +kernel), rfl⟩
theorem mlL_97 : Cond.methodLink RL 97 yX7_reached ∈ tblG := List.mem_filter.mpr ⟨List.mem_of_getElem? (i := 802) (by decide +kernel), rfl⟩
theorem imX7_reached : Cond.instanceMethod yX7_reached ∈ tblG := List.mem_filter.mpr ⟨List.mem_of_getElem? (i := 803) (by decide +kernel), rfl⟩
theorem seX7_reached : Cond.selects RX7 yX7_reached yX7_reached ∈ tblG := List.mem_filter.mpr ⟨List.mem_of_getElem? (i := 804) (by decide +kernel), rfl⟩
set_option maxRecDepth 100000 in
theorem cdX7_reached : Cond.code yX7_reached cX7_reached 7 (some .int) ∈ tblG := List.mem_filter.mpr ⟨List.mem_of_getElem? (i := 805) (rfl), rfl⟩
theorem ivL_97 : InV RL 97 yX7_reached cX7_reached 7 (some .int) 1 := ⟨mlL_97, imX7_reached, seX7_reached, iniX7, cdX7_reached, by decide +kernel⟩
theorem mlL_98 : Cond.methodLink RL 98 yX6_pieces ∈ tblG := List.mem_filter.mpr ⟨List.mem_of_getElem? (i := 320) (by decide +kernel), rfl⟩
theorem imX6_pieces : Cond.instanceMethod yX6_pieces ∈ tblG := List.mem_filter.mpr ⟨List.mem_of_getElem? (i := 321) (by decide +kernel), rfl⟩
theorem seX6_pieces : Cond.selects RX6 yX6_pieces yX6_pieces ∈ tblG := List.mem_filter.mpr ⟨List.mem_of_getElem? (i := 322) (by decide +kernel), rfl⟩
set_option maxRecDepth 100000 in
theorem cdX6_pieces : Cond.code yX6_pieces cX6_pieces 1 (some .int) ∈ tblG := List.mem_filter.mpr ⟨List.mem_of_getElem? (i := 323) (rfl), rfl⟩
theorem ivL_98 : InV RL 98 yX6_pieces cX6_pieces 1 (some .int) 0 := ⟨mlL_98, imX6_pieces, seX6_pieces, iniX6, cdX6_pieces, by decide +kernel⟩
theorem mlL_101 : Cond.methodLink RL 101 yX7_pieces ∈ tblG := List.mem_filter.mpr ⟨List.mem_of_getElem? (i := 810) (by decide +kernel), rfl⟩
theorem imX7_pieces : Cond.instanceMethod yX7_pieces ∈ tblG := List.mem_filter.mpr ⟨List.mem_of_getElem? (i := 811) (by decide +kernel), rfl⟩
theorem seX7_pieces : Cond.selects RX7 yX7_pieces yX7_pieces ∈ tblG := List.mem_filter.mpr ⟨List.mem_of_getElem? (i := 812) (by decide +kernel), rfl⟩
set_option maxRecDepth 100000 in
theorem cdX7_pieces : Cond.code yX7_pieces cX7_pieces 3 (some .int) ∈ tblG := List.mem_filter.mpr ⟨List.mem_of_getElem? (i := 813) (rfl), rfl⟩
theorem ivL_101 : InV RL 101 yX7_pieces cX7_pieces 3 (some .int) 0 := ⟨mlL_101, imX7_pieces, seX7_pieces, iniX7, cdX7_pieces, by decide +kernel⟩
theorem mlL_102 : Cond.methodLink RL 102 yX6_blank ∈ tblG := List.mem_filter.mpr ⟨List.mem_of_getElem? (i := 344) (by decide +kernel), rfl⟩
theorem imX6_blank : Cond.instanceMethod yX6_blank ∈ tblG := List.mem_filter.mpr ⟨List.mem_of_getElem? (i := 345) (by decide +kernel), rfl⟩
theorem seX6_blank : Cond.selects RX6 yX6_blank yX6_blank ∈ tblG := List.mem_filter.mpr ⟨List.mem_of_getElem? (i := 346) (by decide +kernel), rfl⟩
set_option maxRecDepth 100000 in
theorem cdX6_blank : Cond.code yX6_blank cX6_blank 1 none ∈ tblG := List.mem_filter.mpr ⟨List.mem_of_getElem? (i := 347) (rfl), rfl⟩
theorem ivL_102 : InV RL 102 yX6_blank cX6_blank 1 none 0 := ⟨mlL_102, imX6_blank, seX6_blank, iniX6, cdX6_blank, by decide +kernel⟩
theorem mlL_105 : Cond.methodLink RL 105 yX7_blank ∈ tblG := List.mem_filter.mpr ⟨List.mem_of_getElem? (i := 818) (by decide +kernel), rfl⟩
theorem imX7_blank : Cond.instanceMethod yX7_blank ∈ tblG := List.mem_filter.mpr ⟨List.mem_of_getElem? (i := 819) (by decide +kernel), rfl⟩
theorem seX7_blank : Cond.selects RX7 yX7_blank yX7_blank ∈ tblG := List.mem_filter.mpr ⟨List.mem_of_getElem? (i := 820) (by decide +kernel), rfl⟩
set_option maxRecDepth 100000 in
theorem cdX7_blank : Cond.code yX7_blank cX7_blank 2 none ∈ tblG := List.mem_filter.mpr ⟨List.mem_of_getElem? (i := 821) (rfl), rfl⟩
theorem ivL_105 : InV RL 105 yX7_blank cX7_blank 2 none 0 := ⟨mlL_105, imX7_blank, seX7_blank, iniX7, cdX7_blank, by decide +kernel⟩
set_option maxRecDepth 100000 in
theorem cwijL_56 : Cond.codeWith yL_target cL_target 7 (some .int) [(0, 11, 14, 13), (0, 11, 18, 15)] ∈ tblG := List.mem_filter.mpr ⟨List.mem_of_getElem? (i := 357) rfl, rfl⟩
theorem ijL_56 : InJ RL 56 yL_target cL_target 7 (some .int) [(0, 11, 14, 13), (0, 11, 18, 15)] 6 := ⟨mlL_56, stL_target, iniL, cwijL_56, by decide +kernel⟩
set_option maxRecDepth 100000 in
theorem cwijL_63 : Cond.codeWith yL_keep cL_keep 7 (some .int) [(0, 11, 14, 13), (0, 11, 18, 15)] ∈ tblG := List.mem_filter.mpr ⟨List.mem_of_getElem? (i := 465) rfl, rfl⟩
theorem ijL_63 : InJ RL 63 yL_keep cL_keep 7 (some .int) [(0, 11, 14, 13), (0, 11, 18, 15)] 6 := ⟨mlL_63, stL_keep, iniL, cwijL_63, by decide +kernel⟩
set_option maxRecDepth 100000 in
theorem cwijL_67 : Cond.codeWith yL_tool cL_tool 5 (some .int) [(0, 7, 10, 13), (0, 7, 14, 15)] ∈ tblG := List.mem_filter.mpr ⟨List.mem_of_getElem? (i := 476) rfl, rfl⟩
theorem ijL_67 : InJ RL 67 yL_tool cL_tool 5 (some .int) [(0, 7, 10, 13), (0, 7, 14, 15)] 4 := ⟨mlL_67, stL_tool, iniL, cwijL_67, by decide +kernel⟩
set_option maxRecDepth 100000 in
theorem cwijL_80 : Cond.codeWith yL_run cL_run 3 (some .int) [(0, 8, 11, 29)] ∈ tblG := List.mem_filter.mpr ⟨List.mem_of_getElem? (i := 496) rfl, rfl⟩
theorem ijL_80 : InJ RL 80 yL_run cL_run 3 (some .int) [(0, 8, 11, 29)] 2 := ⟨mlL_80, stL_run, iniL, cwijL_80, by decide +kernel⟩
set_option maxRecDepth 100000 in
theorem cwijL_84 : Cond.codeWith yL_about cL_about 4 (some .int) [(0, 9, 12, 13), (0, 9, 15, 29)] ∈ tblG := List.mem_filter.mpr ⟨List.mem_of_getElem? (i := 572) rfl, rfl⟩
theorem ijL_84 : InJ RL 84 yL_about cL_about 4 (some .int) [(0, 9, 12, 13), (0, 9, 15, 29)] 3 := ⟨mlL_84, stL_about, iniL, cwijL_84, by decide +kernel⟩
set_option maxRecDepth 100000 in
theorem cwijL_88 : Cond.codeWith yL_cell2 cL_cell2 6 (some .int) [(0, 12, 15, 13)] ∈ tblG := List.mem_filter.mpr ⟨List.mem_of_getElem? (i := 584) rfl, rfl⟩
theorem ijL_88 : InJ RL 88 yL_cell2 cL_cell2 6 (some .int) [(0, 12, 15, 13)] 5 := ⟨mlL_88, stL_cell2, iniL, cwijL_88, by decide +kernel⟩
set_option maxRecDepth 100000 in
theorem cwijL_92 : Cond.codeWith yL_check cL_check 4 (some .int) [(0, 9, 12, 13)] ∈ tblG := List.mem_filter.mpr ⟨List.mem_of_getElem? (i := 592) rfl, rfl⟩
theorem ijL_92 : InJ RL 92 yL_check cL_check 4 (some .int) [(0, 9, 12, 13)] 3 := ⟨mlL_92, stL_check, iniL, cwijL_92, by decide +kernel⟩
set_option maxRecDepth 100000 in
theorem cwijL_95 : Cond.codeWith yL_reached cL_reached 4 (some .int) [(0, 9, 12, 13)] ∈ tblG := List.mem_filter.mpr ⟨List.mem_of_getElem? (i := 611) rfl, rfl⟩
theorem ijL_95 : InJ RL 95 yL_reached cL_reached 4 (some .int) [(0, 9, 12, 13)] 3 := ⟨mlL_95, stL_reached, iniL, cwijL_95, by decide +kernel⟩
