theorem mlL_7 : Cond.methodLink RL 7 yX6_target ∈ tblG := List.mem_filter.mpr ⟨List.mem_of_getElem? (i := 360) (by decide +kernel), rfl⟩
theorem imX6_target : Cond.instanceMethod yX6_target ∈ tblG := List.mem_filter.mpr ⟨List.mem_of_getElem? (i := 361) (by decide +kernel), rfl⟩
theorem seX6_target : Cond.selects RX6 yX6_target yX6_target ∈ tblG := List.mem_filter.mpr ⟨List.mem_of_getElem? (i := 362) (by decide +kernel), rfl⟩
set_option maxRecDepth 100000 in
theorem cdX6_target : Cond.code yX6_target cX6_target 6 none ∈ tblG := List.mem_filter.mpr ⟨List.mem_of_getElem? (i := 363) (rfl), rfl⟩
theorem ivL_7 : InV RL 7 yX6_target cX6_target 6 none 5 := ⟨mlL_7, imX6_target, seX6_target, iniX6, cdX6_target, by decide +kernel⟩
theorem mlL_17 : Cond.methodLink RL 17 yX6_keep ∈ tblG := List.mem_filter.mpr ⟨List.mem_of_getElem? (i := 466) (by decide +kernel), rfl⟩
theorem imX6_keep : Cond.instanceMethod yX6_keep ∈ tblG := List.mem_filter.mpr ⟨List.mem_of_getElem? (i := 467) (by decide +kernel), rfl⟩
theorem seX6_keep : Cond.selects RX6 yX6_keep yX6_keep ∈ tblG := List.mem_filter.mpr ⟨List.mem_of_getElem? (i := 468) (by decide +kernel), rfl⟩
set_option maxRecDepth 100000 in
theorem cdX6_keep : Cond.code yX6_keep cX6_keep 6 none ∈ tblG := List.mem_filter.mpr ⟨List.mem_of_getElem? (i := 469) (rfl), rfl⟩
theorem ivL_17 : InV RL 17 yX6_keep cX6_keep 6 none 5 := ⟨mlL_17, imX6_keep, seX6_keep, iniX6, cdX6_keep, by decide +kernel⟩
theorem mlL_21 : Cond.methodLink RL 21 yX6_tool ∈ tblG := List.mem_filter.mpr ⟨List.mem_of_getElem? (i := 477) (by decide +kernel), rfl⟩
theorem imX6_tool : Cond.instanceMethod yX6_tool ∈ tblG := List.mem_filter.mpr ⟨List.mem_of_getElem? (i := 478) (by decide +kernel), rfl⟩
theorem seX6_tool : Cond.selects RX6 yX6_tool yX6_tool ∈ tblG := List.mem_filter.mpr ⟨List.mem_of_getElem? (i := 479) (by decide +kernel), rfl⟩
set_option maxRecDepth 100000 in
theorem cdX6_tool : Cond.code yX6_tool cX6_tool 4 none ∈ tblG := List.mem_filter.mpr ⟨List.mem_of_getElem? (i := 480) (rfl), rfl⟩
theorem ivL_21 : InV RL 21 yX6_tool cX6_tool 4 none 3 := ⟨mlL_21, imX6_tool, seX6_tool, iniX6, cdX6_tool, by decide +kernel⟩
theorem mlL_25 : Cond.methodLink RL 25 yX6_run ∈ tblG := List.mem_filter.mpr ⟨List.mem_of_getElem? (i := 498) (by decide +kernel), rfl⟩
theorem imX6_run : Cond.instanceMethod yX6_run ∈ tblG := List.mem_filter.mpr ⟨List.mem_of_getElem? (i := 499) (by decide +kernel), rfl⟩
theorem seX6_run : Cond.selects RX6 yX6_run yX6_run ∈ tblG := List.mem_filter.mpr ⟨List.mem_of_getElem? (i := 500) (by decide +kernel), rfl⟩
set_option maxRecDepth 100000 in
theorem cdX6_run : Cond.code yX6_run cX6_run 1 (some .int) ∈ tblG := List.mem_filter.mpr ⟨List.mem_of_getElem? (i := 501) (rfl), rfl⟩
theorem ivL_25 : InV RL 25 yX6_run cX6_run 1 (some .int) 0 := ⟨mlL_25, imX6_run, seX6_run, iniX6, cdX6_run, by decide +kernel⟩
theorem mlL_31 : Cond.methodLink RL 31 yX6_about ∈ tblG := List.mem_filter.mpr ⟨List.mem_of_getElem? (i := 573) (by decide +kernel), rfl⟩
theorem imX6_about : Cond.instanceMethod yX6_about ∈ tblG := List.mem_filter.mpr ⟨List.mem_of_getElem? (i := 574) (by decide +kernel), rfl⟩
theorem seX6_about : Cond.selects RX6 yX6_about yX6_about ∈ tblG := List.mem_filter.mpr ⟨List.mem_of_getElem? (i := 575) (by decide +kernel), rfl⟩
set_option maxRecDepth 100000 in
theorem cdX6_about : Cond.code yX6_about cX6_about 2 (some .int) ∈ tblG := List.mem_filter.mpr ⟨List.mem_of_getElem? (i := 576) (rfl), rfl⟩
theorem ivL_31 : InV RL 31 yX6_about cX6_about 2 (some .int) 1 := ⟨mlL_31, imX6_about, seX6_about, iniX6, cdX6_about, by decide +kernel⟩
theorem mlL_35 : Cond.methodLink RL 35 yX6_cell ∈ tblG := List.mem_filter.mpr ⟨List.mem_of_getElem? (i := 585) (by decide +kernel), rfl⟩
theorem imX6_cell : Cond.instanceMethod yX6_cell ∈ tblG := List.mem_filter.mpr ⟨List.mem_of_getElem? (i := 586) (by decide +kernel), rfl⟩
theorem seX6_cell : Cond.selects RX6 yX6_cell yX6_cell ∈ tblG := List.mem_filter.mpr ⟨List.mem_of_getElem? (i := 587) (by decide +kernel), rfl⟩
set_option maxRecDepth 100000 in
theorem cdX6_cell : Cond.code yX6_cell cX6_cell 5 (some .int) ∈ tblG := List.mem_filter.mpr ⟨List.mem_of_getElem? (i := 588) (rfl), rfl⟩
theorem ivL_35 : InV RL 35 yX6_cell cX6_cell 5 (some .int) 3 := ⟨mlL_35, imX6_cell, seX6_cell, iniX6, cdX6_cell, by decide +kernel⟩
theorem mlL_39 : Cond.methodLink RL 39 yX6_check ∈ tblG := List.mem_filter.mpr ⟨List.mem_of_getElem? (i := 593) (by decide +kernel), rfl⟩
theorem imX6_check : Cond.instanceMethod yX6_check ∈ tblG := List.mem_filter.mpr ⟨List.mem_of_getElem? (i := 594) (by decide +kernel), rfl⟩
theorem seX6_check : Cond.selects RX6 yX6_check yX6_check ∈ tblG := List.mem_filter.mpr ⟨List.mem_of_getElem? (i := 595) (by decide +kernel), rfl⟩
set_option maxRecDepth 100000 in
theorem cdX6_check : Cond.code yX6_check cX6_check 2 (some .int) ∈ tblG := List.mem_filter.mpr ⟨List.mem_of_getElem? (i := 596) (rfl), rfl⟩
theorem ivL_39 : InV RL 39 yX6_check cX6_check 2 (some .int) 1 := ⟨mlL_39, imX6_check, seX6_check, iniX6, cdX6_check, by decide +kernel⟩
theorem mlL_42 : Cond.methodLink RL 42 yX6_reached ∈ tblG := List.mem_filter.mpr ⟨List.mem_of_getElem? (i := 612) (by decide +kernel), rfl⟩
theorem imX6_reached : Cond.instanceMethod yX6_reached ∈ tblG := List.mem_filter.mpr ⟨List.mem_of_getElem? (i := 613) (by decide +kernel), rfl⟩
theorem seX6_reached : Cond.selects RX6 yX6_reached yX6_reached ∈ tblG := List.mem_filter.mpr ⟨List.mem_of_getElem? (i := 614) (by decide +kernel), rfl⟩
set_option maxRecDepth 100000 in
theorem cdX6_reached : Cond.code yX6_reached cX6_reached 2 (some .int) ∈ tblG := List.mem_filter.mpr ⟨List.mem_of_getElem? (i := 615) (rfl), rfl⟩
theorem ivL_42 : InV RL 42 yX6_reached cX6_reached 2 (some .int) 1 := ⟨mlL_42, imX6_reached, seX6_reached, iniX6, cdX6_reached, by decide +kernel⟩
theorem lcl_13 : Cond.classLink RL 13 (exN 0) ∈ tblG := List.mem_filter.mpr ⟨List.mem_of_getElem? (i := 358) (by decide +kernel), rfl⟩
theorem lcl_15 : Cond.classLink RL 15 (exN 1) ∈ tblG := List.mem_filter.mpr ⟨List.mem_of_getElem? (i := 359) (by decide +kernel), rfl⟩
theorem lcl_29 : Cond.classLink RL 29 (exN 2) ∈ tblG := List.mem_filter.mpr ⟨List.mem_of_getElem? (i := 497) (by decide +kernel), rfl⟩
