theorem flX0_9 : Cond.fieldLink RX0 9 "RouterPaths$Grid" "side" "I" ∈ tblG := List.mem_filter.mpr ⟨List.mem_of_getElem? (i := 71) (by decide +kernel), rfl⟩
theorem flX0_22 : Cond.fieldLink RX0 22 "RouterPaths$Grid" "targets" "[I" ∈ tblG := List.mem_filter.mpr ⟨List.mem_of_getElem? (i := 76) (by decide +kernel), rfl⟩
theorem mlX0_38 : Cond.methodLink RX0 38 yX0_placeOf ∈ tblG := List.mem_filter.mpr ⟨List.mem_of_getElem? (i := 462) (by decide +kernel), rfl⟩
theorem imX0_placeOf : Cond.instanceMethod yX0_placeOf ∈ tblG := List.mem_filter.mpr ⟨List.mem_of_getElem? (i := 337) (by decide +kernel), rfl⟩
theorem seX0_placeOf : Cond.selects RX0 yX0_placeOf yX0_placeOf ∈ tblG := List.mem_filter.mpr ⟨List.mem_of_getElem? (i := 338) (by decide +kernel), rfl⟩
theorem iniX0 : Cond.initialized RX0 ∈ tblG := List.mem_filter.mpr ⟨List.mem_of_getElem? (i := 38) (by decide +kernel), rfl⟩
set_option maxRecDepth 100000 in
theorem cdX0_placeOf : Cond.code yX0_placeOf cX0_placeOf 3 (some .int) ∈ tblG := List.mem_filter.mpr ⟨List.mem_of_getElem? (i := 339) (rfl), rfl⟩
theorem ivX0_38 : InV RX0 38 yX0_placeOf cX0_placeOf 3 (some .int) 2 := ⟨mlX0_38, imX0_placeOf, seX0_placeOf, iniX0, cdX0_placeOf, by decide +kernel⟩
theorem flX0_25 : Cond.fieldLink RX0 25 "RouterPaths$Grid" "kept" "[Z" ∈ tblG := List.mem_filter.mpr ⟨List.mem_of_getElem? (i := 78) (by decide +kernel), rfl⟩
theorem flX0_15 : Cond.fieldLink RX0 15 "RouterPaths$Grid" "cells" "I" ∈ tblG := List.mem_filter.mpr ⟨List.mem_of_getElem? (i := 72) (by decide +kernel), rfl⟩
theorem flX0_18 : Cond.fieldLink RX0 18 "RouterPaths$Grid" "heights" "[I" ∈ tblG := List.mem_filter.mpr ⟨List.mem_of_getElem? (i := 73) (by decide +kernel), rfl⟩
theorem mlX0_42 : Cond.methodLink RX0 42 yX0_isOff ∈ tblG := List.mem_filter.mpr ⟨List.mem_of_getElem? (i := 601) (by decide +kernel), rfl⟩
theorem imX0_isOff : Cond.instanceMethod yX0_isOff ∈ tblG := List.mem_filter.mpr ⟨List.mem_of_getElem? (i := 603) (by decide +kernel), rfl⟩
theorem seX0_isOff : Cond.selects RX0 yX0_isOff yX0_isOff ∈ tblG := List.mem_filter.mpr ⟨List.mem_of_getElem? (i := 18) (by decide +kernel), rfl⟩
set_option maxRecDepth 100000 in
theorem cdX0_isOff : Cond.code yX0_isOff cX0_isOff 3 (some .boolean) ∈ tblG := List.mem_filter.mpr ⟨List.mem_of_getElem? (i := 604) (rfl), rfl⟩
theorem ivX0_42 : InV RX0 42 yX0_isOff cX0_isOff 3 (some .boolean) 2 := ⟨mlX0_42, imX0_isOff, seX0_isOff, iniX0, cdX0_isOff, by decide +kernel⟩
theorem flX0_35 : Cond.fieldLink RX0 35 "RouterPaths$Grid" "discSize" "I" ∈ tblG := List.mem_filter.mpr ⟨List.mem_of_getElem? (i := 82) (by decide +kernel), rfl⟩
theorem flX0_46 : Cond.fieldLink RX0 46 "RouterPaths$Tool" "radius" "I" ∈ tblG := List.mem_filter.mpr ⟨List.mem_of_getElem? (i := 110) (by decide +kernel), rfl⟩
theorem mlX0_51 : Cond.methodLink RX0 51 Lib.Math.min.name ∈ tblG := List.mem_filter.mpr ⟨List.mem_of_getElem? (i := 547) (by decide +kernel), rfl⟩
theorem mst_min : Cond.static Lib.Math.min.name ∈ tblG := List.mem_filter.mpr ⟨List.mem_of_getElem? (i := 60) (by decide +kernel), rfl⟩
theorem mini : Cond.initialized "java/lang/Math" ∈ tblG := List.mem_filter.mpr ⟨List.mem_of_getElem? (i := 37) (by decide +kernel), rfl⟩
set_option maxRecDepth 100000 in
theorem mcd_min : Cond.code Lib.Math.min.name Lib.Math.min.code 2 (some .int) ∈ tblG := List.mem_filter.mpr ⟨List.mem_of_getElem? (i := 61) (rfl), rfl⟩
theorem mlX0_56 : Cond.methodLink RX0 56 Lib.Math.max.name ∈ tblG := List.mem_filter.mpr ⟨List.mem_of_getElem? (i := 548) (by decide +kernel), rfl⟩
theorem mst_max : Cond.static Lib.Math.max.name ∈ tblG := List.mem_filter.mpr ⟨List.mem_of_getElem? (i := 63) (by decide +kernel), rfl⟩
set_option maxRecDepth 100000 in
theorem mcd_max : Cond.code Lib.Math.max.name Lib.Math.max.code 2 (some .int) ∈ tblG := List.mem_filter.mpr ⟨List.mem_of_getElem? (i := 64) (rfl), rfl⟩
theorem flX0_59 : Cond.fieldLink RX0 59 "RouterPaths$Tool" "halfWidths" "[I" ∈ tblG := List.mem_filter.mpr ⟨List.mem_of_getElem? (i := 114) (by decide +kernel), rfl⟩
theorem mlX0_62 : Cond.methodLink RX0 62 Lib.Math.abs.name ∈ tblG := List.mem_filter.mpr ⟨List.mem_of_getElem? (i := 549) (by decide +kernel), rfl⟩
theorem mst_abs : Cond.static Lib.Math.abs.name ∈ tblG := List.mem_filter.mpr ⟨List.mem_of_getElem? (i := 534) (by decide +kernel), rfl⟩
set_option maxRecDepth 100000 in
theorem mcd_abs : Cond.code Lib.Math.abs.name Lib.Math.abs.code 1 (some .int) ∈ tblG := List.mem_filter.mpr ⟨List.mem_of_getElem? (i := 535) (rfl), rfl⟩
theorem flX0_32 : Cond.fieldLink RX0 32 "RouterPaths$Grid" "disc" "[I" ∈ tblG := List.mem_filter.mpr ⟨List.mem_of_getElem? (i := 81) (by decide +kernel), rfl⟩
theorem flX0_29 : Cond.fieldLink RX0 29 "RouterPaths$Grid" "marks" "[Z" ∈ tblG := List.mem_filter.mpr ⟨List.mem_of_getElem? (i := 80) (by decide +kernel), rfl⟩
theorem mlX0_66 : Cond.methodLink RX0 66 yX0_layDisc ∈ tblG := List.mem_filter.mpr ⟨List.mem_of_getElem? (i := 620) (by decide +kernel), rfl⟩
theorem imX0_layDisc : Cond.instanceMethod yX0_layDisc ∈ tblG := List.mem_filter.mpr ⟨List.mem_of_getElem? (i := 544) (by decide +kernel), rfl⟩
theorem seX0_layDisc : Cond.selects RX0 yX0_layDisc yX0_layDisc ∈ tblG := List.mem_filter.mpr ⟨List.mem_of_getElem? (i := 545) (by decide +kernel), rfl⟩
set_option maxRecDepth 100000 in
theorem cdX0_layDisc : Cond.code yX0_layDisc cX0_layDisc 9 none ∈ tblG := List.mem_filter.mpr ⟨List.mem_of_getElem? (i := 546) (rfl), rfl⟩
theorem ivX0_66 : InV RX0 66 yX0_layDisc cX0_layDisc 9 none 3 := ⟨mlX0_66, imX0_layDisc, seX0_layDisc, iniX0, cdX0_layDisc, by decide +kernel⟩
theorem mlX0_70 : Cond.methodLink RX0 70 yX0_discHasKept ∈ tblG := List.mem_filter.mpr ⟨List.mem_of_getElem? (i := 621) (by decide +kernel), rfl⟩
theorem imX0_discHasKept : Cond.instanceMethod yX0_discHasKept ∈ tblG := List.mem_filter.mpr ⟨List.mem_of_getElem? (i := 623) (by decide +kernel), rfl⟩
theorem seX0_discHasKept : Cond.selects RX0 yX0_discHasKept yX0_discHasKept ∈ tblG := List.mem_filter.mpr ⟨List.mem_of_getElem? (i := 19) (by decide +kernel), rfl⟩
set_option maxRecDepth 100000 in
theorem cdX0_discHasKept : Cond.code yX0_discHasKept cX0_discHasKept 2 (some .boolean) ∈ tblG := List.mem_filter.mpr ⟨List.mem_of_getElem? (i := 624) (rfl), rfl⟩
theorem ivX0_70 : InV RX0 70 yX0_discHasKept cX0_discHasKept 2 (some .boolean) 0 := ⟨mlX0_70, imX0_discHasKept, seX0_discHasKept, iniX0, cdX0_discHasKept, by decide +kernel⟩
theorem mlX0_74 : Cond.methodLink RX0 74 yX0_highestTargetInDisc ∈ tblG := List.mem_filter.mpr ⟨List.mem_of_getElem? (i := 625) (by decide +kernel), rfl⟩
theorem imX0_highestTargetInDisc : Cond.instanceMethod yX0_highestTargetInDisc ∈ tblG := List.mem_filter.mpr ⟨List.mem_of_getElem? (i := 627) (by decide +kernel), rfl⟩
theorem seX0_highestTargetInDisc : Cond.selects RX0 yX0_highestTargetInDisc yX0_highestTargetInDisc ∈ tblG := List.mem_filter.mpr ⟨List.mem_of_getElem? (i := 20) (by decide +kernel), rfl⟩
set_option maxRecDepth 100000 in
theorem cdX0_highestTargetInDisc : Cond.code yX0_highestTargetInDisc cX0_highestTargetInDisc 3 (some .int) ∈ tblG := List.mem_filter.mpr ⟨List.mem_of_getElem? (i := 628) (rfl), rfl⟩
theorem ivX0_74 : InV RX0 74 yX0_highestTargetInDisc cX0_highestTargetInDisc 3 (some .int) 0 := ⟨mlX0_74, imX0_highestTargetInDisc, seX0_highestTargetInDisc, iniX0, cdX0_highestTargetInDisc, by decide +kernel⟩
theorem mlX0_78 : Cond.methodLink RX0 78 yX0_markReached ∈ tblG := List.mem_filter.mpr ⟨List.mem_of_getElem? (i := 629) (by decide +kernel), rfl⟩
theorem imX0_markReached : Cond.instanceMethod yX0_markReached ∈ tblG := List.mem_filter.mpr ⟨List.mem_of_getElem? (i := 631) (by decide +kernel), rfl⟩
theorem seX0_markReached : Cond.selects RX0 yX0_markReached yX0_markReached ∈ tblG := List.mem_filter.mpr ⟨List.mem_of_getElem? (i := 21) (by decide +kernel), rfl⟩
set_option maxRecDepth 100000 in
theorem cdX0_markReached : Cond.code yX0_markReached cX0_markReached 5 (some .int) ∈ tblG := List.mem_filter.mpr ⟨List.mem_of_getElem? (i := 632) (rfl), rfl⟩
theorem ivX0_78 : InV RX0 78 yX0_markReached cX0_markReached 5 (some .int) 1 := ⟨mlX0_78, imX0_markReached, seX0_markReached, iniX0, cdX0_markReached, by decide +kernel⟩
theorem flX5_9 : Cond.fieldLink RX5 9 "RouterPaths$Tool" "radius" "I" ∈ tblG := List.mem_filter.mpr ⟨List.mem_of_getElem? (i := 109) (by decide +kernel), rfl⟩
theorem flX5_15 : Cond.fieldLink RX5 15 "RouterPaths$Tool" "feed" "I" ∈ tblG := List.mem_filter.mpr ⟨List.mem_of_getElem? (i := 111) (by decide +kernel), rfl⟩
theorem flX5_18 : Cond.fieldLink RX5 18 "RouterPaths$Tool" "halfWidths" "[I" ∈ tblG := List.mem_filter.mpr ⟨List.mem_of_getElem? (i := 113) (by decide +kernel), rfl⟩
theorem mlX5_22 : Cond.methodLink RX5 22 yX5_halfWidthAt ∈ tblG := List.mem_filter.mpr ⟨List.mem_of_getElem? (i := 491) (by decide +kernel), rfl⟩
theorem stX5_halfWidthAt : Cond.static yX5_halfWidthAt ∈ tblG := List.mem_filter.mpr ⟨List.mem_of_getElem? (i := 492) (by decide +kernel), rfl⟩
theorem iniX5 : Cond.initialized RX5 ∈ tblG := List.mem_filter.mpr ⟨List.mem_of_getElem? (i := 39) (by decide +kernel), rfl⟩
set_option maxRecDepth 100000 in
theorem cdX5_halfWidthAt : Cond.code yX5_halfWidthAt cX5_halfWidthAt 4 (some .int) ∈ tblG := List.mem_filter.mpr ⟨List.mem_of_getElem? (i := 493) (rfl), rfl⟩
theorem ivX5_22 : InS RX5 22 yX5_halfWidthAt cX5_halfWidthAt 4 (some .int) 2 := ⟨mlX5_22, stX5_halfWidthAt, iniX5, cdX5_halfWidthAt, by decide +kernel⟩
theorem flX3_9 : Cond.fieldLink RX3 9 "RouterPaths$Program" "count" "I" ∈ tblG := List.mem_filter.mpr ⟨List.mem_of_getElem? (i := 214) (by decide +kernel), rfl⟩
theorem flX3_15 : Cond.fieldLink RX3 15 "RouterPaths$Program" "letters" "[C" ∈ tblG := List.mem_filter.mpr ⟨List.mem_of_getElem? (i := 218) (by decide +kernel), rfl⟩
theorem flX3_19 : Cond.fieldLink RX3 19 "RouterPaths$Program" "digits" "[I" ∈ tblG := List.mem_filter.mpr ⟨List.mem_of_getElem? (i := 220) (by decide +kernel), rfl⟩
theorem flX3_23 : Cond.fieldLink RX3 23 "RouterPaths$Program" "xs" "[I" ∈ tblG := List.mem_filter.mpr ⟨List.mem_of_getElem? (i := 222) (by decide +kernel), rfl⟩
theorem flX3_26 : Cond.fieldLink RX3 26 "RouterPaths$Program" "ys" "[I" ∈ tblG := List.mem_filter.mpr ⟨List.mem_of_getElem? (i := 224) (by decide +kernel), rfl⟩
theorem flX3_29 : Cond.fieldLink RX3 29 "RouterPaths$Program" "zs" "[I" ∈ tblG := List.mem_filter.mpr ⟨List.mem_of_getElem? (i := 226) (by decide +kernel), rfl⟩
theorem mlX2_38 : Cond.methodLink RX2 38 yX0_holds ∈ tblG := List.mem_filter.mpr ⟨List.mem_of_getElem? (i := 332) (by decide +kernel), rfl⟩
theorem imX0_holds : Cond.instanceMethod yX0_holds ∈ tblG := List.mem_filter.mpr ⟨List.mem_of_getElem? (i := 333) (by decide +kernel), rfl⟩
theorem seX0_holds : Cond.selects RX0 yX0_holds yX0_holds ∈ tblG := List.mem_filter.mpr ⟨List.mem_of_getElem? (i := 334) (by decide +kernel), rfl⟩
set_option maxRecDepth 100000 in
theorem cdX0_holds : Cond.code yX0_holds cX0_holds 3 (some .boolean) ∈ tblG := List.mem_filter.mpr ⟨List.mem_of_getElem? (i := 335) (rfl), rfl⟩
theorem ivX2_38 : InV RX2 38 yX0_holds cX0_holds 3 (some .boolean) 2 := ⟨mlX2_38, imX0_holds, seX0_holds, iniX0, cdX0_holds, by decide +kernel⟩
theorem flX2_27 : Cond.fieldLink RX2 27 "RouterPaths$PieceCounter" "queued" "I" ∈ tblG := List.mem_filter.mpr ⟨List.mem_of_getElem? (i := 194) (by decide +kernel), rfl⟩
theorem flX2_13 : Cond.fieldLink RX2 13 "RouterPaths$PieceCounter" "cells" "I" ∈ tblG := List.mem_filter.mpr ⟨List.mem_of_getElem? (i := 190) (by decide +kernel), rfl⟩
theorem mlX2_44 : Cond.methodLink RX2 44 yX0_placeOf ∈ tblG := List.mem_filter.mpr ⟨List.mem_of_getElem? (i := 336) (by decide +kernel), rfl⟩
theorem ivX2_44 : InV RX2 44 yX0_placeOf cX0_placeOf 3 (some .int) 2 := ⟨mlX2_44, imX0_placeOf, seX0_placeOf, iniX0, cdX0_placeOf, by decide +kernel⟩
theorem flX2_16 : Cond.fieldLink RX2 16 "RouterPaths$PieceCounter" "taken" "[Z" ∈ tblG := List.mem_filter.mpr ⟨List.mem_of_getElem? (i := 191) (by decide +kernel), rfl⟩
theorem flX2_48 : Cond.fieldLink RX2 48 "RouterPaths$Grid" "heights" "[I" ∈ tblG := List.mem_filter.mpr ⟨List.mem_of_getElem? (i := 74) (by decide +kernel), rfl⟩
theorem flX2_20 : Cond.fieldLink RX2 20 "RouterPaths$PieceCounter" "queueX" "[I" ∈ tblG := List.mem_filter.mpr ⟨List.mem_of_getElem? (i := 192) (by decide +kernel), rfl⟩
theorem flX2_24 : Cond.fieldLink RX2 24 "RouterPaths$PieceCounter" "queueY" "[I" ∈ tblG := List.mem_filter.mpr ⟨List.mem_of_getElem? (i := 193) (by decide +kernel), rfl⟩
theorem mlX2_30 : Cond.methodLink RX2 30 yX2_take ∈ tblG := List.mem_filter.mpr ⟨List.mem_of_getElem? (i := 328) (by decide +kernel), rfl⟩
theorem imX2_take : Cond.instanceMethod yX2_take ∈ tblG := List.mem_filter.mpr ⟨List.mem_of_getElem? (i := 330) (by decide +kernel), rfl⟩
theorem seX2_take : Cond.selects RX2 yX2_take yX2_take ∈ tblG := List.mem_filter.mpr ⟨List.mem_of_getElem? (i := 9) (by decide +kernel), rfl⟩
theorem iniX2 : Cond.initialized RX2 ∈ tblG := List.mem_filter.mpr ⟨List.mem_of_getElem? (i := 42) (by decide +kernel), rfl⟩
set_option maxRecDepth 100000 in
theorem cdX2_take : Cond.code yX2_take cX2_take 5 none ∈ tblG := List.mem_filter.mpr ⟨List.mem_of_getElem? (i := 331) (rfl), rfl⟩
theorem ivX2_30 : InV RX2 30 yX2_take cX2_take 5 none 3 := ⟨mlX2_30, imX2_take, seX2_take, iniX2, cdX2_take, by decide +kernel⟩
theorem flX2_7 : Cond.fieldLink RX2 7 "RouterPaths$PieceCounter" "side" "I" ∈ tblG := List.mem_filter.mpr ⟨List.mem_of_getElem? (i := 189) (by decide +kernel), rfl⟩
theorem mlX2_34 : Cond.methodLink RX2 34 yX2_spread ∈ tblG := List.mem_filter.mpr ⟨List.mem_of_getElem? (i := 340) (by decide +kernel), rfl⟩
theorem imX2_spread : Cond.instanceMethod yX2_spread ∈ tblG := List.mem_filter.mpr ⟨List.mem_of_getElem? (i := 342) (by decide +kernel), rfl⟩
theorem seX2_spread : Cond.selects RX2 yX2_spread yX2_spread ∈ tblG := List.mem_filter.mpr ⟨List.mem_of_getElem? (i := 10) (by decide +kernel), rfl⟩
set_option maxRecDepth 100000 in
theorem cdX2_spread : Cond.code yX2_spread cX2_spread 6 none ∈ tblG := List.mem_filter.mpr ⟨List.mem_of_getElem? (i := 343) (rfl), rfl⟩
theorem ivX2_34 : InV RX2 34 yX2_spread cX2_spread 6 none 2 := ⟨mlX2_34, imX2_spread, seX2_spread, iniX2, cdX2_spread, by decide +kernel⟩
theorem flX4_19 : Cond.fieldLink RX4 19 "RouterPaths$Reader" "length" "I" ∈ tblG := List.mem_filter.mpr ⟨List.mem_of_getElem? (i := 130) (by decide +kernel), rfl⟩
theorem flX4_15 : Cond.fieldLink RX4 15 "RouterPaths$Reader" "text" "[I" ∈ tblG := List.mem_filter.mpr ⟨List.mem_of_getElem? (i := 129) (by decide +kernel), rfl⟩
theorem flX4_22 : Cond.fieldLink RX4 22 "RouterPaths$Reader" "place" "I" ∈ tblG := List.mem_filter.mpr ⟨List.mem_of_getElem? (i := 131) (by decide +kernel), rfl⟩
theorem mlX4_40 : Cond.methodLink RX4 40 yX4_here ∈ tblG := List.mem_filter.mpr ⟨List.mem_of_getElem? (i := 292) (by decide +kernel), rfl⟩
theorem imX4_here : Cond.instanceMethod yX4_here ∈ tblG := List.mem_filter.mpr ⟨List.mem_of_getElem? (i := 294) (by decide +kernel), rfl⟩
theorem seX4_here : Cond.selects RX4 yX4_here yX4_here ∈ tblG := List.mem_filter.mpr ⟨List.mem_of_getElem? (i := 3) (by decide +kernel), rfl⟩
theorem iniX4 : Cond.initialized RX4 ∈ tblG := List.mem_filter.mpr ⟨List.mem_of_getElem? (i := 40) (by decide +kernel), rfl⟩
set_option maxRecDepth 100000 in
theorem cdX4_here : Cond.code yX4_here cX4_here 1 (some .int) ∈ tblG := List.mem_filter.mpr ⟨List.mem_of_getElem? (i := 295) (rfl), rfl⟩
theorem ivX4_40 : InV RX4 40 yX4_here cX4_here 1 (some .int) 0 := ⟨mlX4_40, imX4_here, seX4_here, iniX4, cdX4_here, by decide +kernel⟩
theorem mlX4_37 : Cond.methodLink RX4 37 yX4_skipSpaces ∈ tblG := List.mem_filter.mpr ⟨List.mem_of_getElem? (i := 288) (by decide +kernel), rfl⟩
theorem imX4_skipSpaces : Cond.instanceMethod yX4_skipSpaces ∈ tblG := List.mem_filter.mpr ⟨List.mem_of_getElem? (i := 290) (by decide +kernel), rfl⟩
theorem seX4_skipSpaces : Cond.selects RX4 yX4_skipSpaces yX4_skipSpaces ∈ tblG := List.mem_filter.mpr ⟨List.mem_of_getElem? (i := 2) (by decide +kernel), rfl⟩
set_option maxRecDepth 100000 in
theorem cdX4_skipSpaces : Cond.code yX4_skipSpaces cX4_skipSpaces 1 none ∈ tblG := List.mem_filter.mpr ⟨List.mem_of_getElem? (i := 291) (rfl), rfl⟩
theorem ivX4_37 : InV RX4 37 yX4_skipSpaces cX4_skipSpaces 1 none 0 := ⟨mlX4_37, imX4_skipSpaces, seX4_skipSpaces, iniX4, cdX4_skipSpaces, by decide +kernel⟩
theorem mlX4_50 : Cond.methodLink RX4 50 yX4_takeDigit ∈ tblG := List.mem_filter.mpr ⟨List.mem_of_getElem? (i := 300) (by decide +kernel), rfl⟩
theorem imX4_takeDigit : Cond.instanceMethod yX4_takeDigit ∈ tblG := List.mem_filter.mpr ⟨List.mem_of_getElem? (i := 302) (by decide +kernel), rfl⟩
theorem seX4_takeDigit : Cond.selects RX4 yX4_takeDigit yX4_takeDigit ∈ tblG := List.mem_filter.mpr ⟨List.mem_of_getElem? (i := 5) (by decide +kernel), rfl⟩
set_option maxRecDepth 100000 in
theorem cdX4_takeDigit : Cond.code yX4_takeDigit cX4_takeDigit 3 (some .int) ∈ tblG := List.mem_filter.mpr ⟨List.mem_of_getElem? (i := 303) (rfl), rfl⟩
theorem ivX4_50 : InV RX4 50 yX4_takeDigit cX4_takeDigit 3 (some .int) 1 := ⟨mlX4_50, imX4_takeDigit, seX4_takeDigit, iniX4, cdX4_takeDigit, by decide +kernel⟩
theorem mlX4_54 : Cond.methodLink RX4 54 yX4_takeEnd ∈ tblG := List.mem_filter.mpr ⟨List.mem_of_getElem? (i := 304) (by decide +kernel), rfl⟩
theorem imX4_takeEnd : Cond.instanceMethod yX4_takeEnd ∈ tblG := List.mem_filter.mpr ⟨List.mem_of_getElem? (i := 306) (by decide +kernel), rfl⟩
theorem seX4_takeEnd : Cond.selects RX4 yX4_takeEnd yX4_takeEnd ∈ tblG := List.mem_filter.mpr ⟨List.mem_of_getElem? (i := 6) (by decide +kernel), rfl⟩
set_option maxRecDepth 100000 in
theorem cdX4_takeEnd : Cond.code yX4_takeEnd cX4_takeEnd 1 (some .boolean) ∈ tblG := List.mem_filter.mpr ⟨List.mem_of_getElem? (i := 307) (rfl), rfl⟩
theorem ivX4_54 : InV RX4 54 yX4_takeEnd cX4_takeEnd 1 (some .boolean) 0 := ⟨mlX4_54, imX4_takeEnd, seX4_takeEnd, iniX4, cdX4_takeEnd, by decide +kernel⟩
theorem mlX4_58 : Cond.methodLink RX4 58 yX3_add ∈ tblG := List.mem_filter.mpr ⟨List.mem_of_getElem? (i := 308) (by decide +kernel), rfl⟩
theorem imX3_add : Cond.instanceMethod yX3_add ∈ tblG := List.mem_filter.mpr ⟨List.mem_of_getElem? (i := 309) (by decide +kernel), rfl⟩
theorem seX3_add : Cond.selects RX3 yX3_add yX3_add ∈ tblG := List.mem_filter.mpr ⟨List.mem_of_getElem? (i := 310) (by decide +kernel), rfl⟩
theorem iniX3 : Cond.initialized RX3 ∈ tblG := List.mem_filter.mpr ⟨List.mem_of_getElem? (i := 43) (by decide +kernel), rfl⟩
set_option maxRecDepth 100000 in
theorem cdX3_add : Cond.code yX3_add cX3_add 6 none ∈ tblG := List.mem_filter.mpr ⟨List.mem_of_getElem? (i := 311) (rfl), rfl⟩
theorem ivX4_58 : InV RX4 58 yX3_add cX3_add 6 none 5 := ⟨mlX4_58, imX3_add, seX3_add, iniX3, cdX3_add, by decide +kernel⟩
theorem flX4_9 : Cond.fieldLink RX4 9 "RouterPaths$Reader" "side" "I" ∈ tblG := List.mem_filter.mpr ⟨List.mem_of_getElem? (i := 128) (by decide +kernel), rfl⟩
theorem mlX4_62 : Cond.methodLink RX4 62 yX4_takeNumber ∈ tblG := List.mem_filter.mpr ⟨List.mem_of_getElem? (i := 316) (by decide +kernel), rfl⟩
theorem imX4_takeNumber : Cond.instanceMethod yX4_takeNumber ∈ tblG := List.mem_filter.mpr ⟨List.mem_of_getElem? (i := 318) (by decide +kernel), rfl⟩
theorem seX4_takeNumber : Cond.selects RX4 yX4_takeNumber yX4_takeNumber ∈ tblG := List.mem_filter.mpr ⟨List.mem_of_getElem? (i := 8) (by decide +kernel), rfl⟩
set_option maxRecDepth 100000 in
theorem cdX4_takeNumber : Cond.code yX4_takeNumber cX4_takeNumber 6 (some .int) ∈ tblG := List.mem_filter.mpr ⟨List.mem_of_getElem? (i := 319) (rfl), rfl⟩
theorem ivX4_62 : InV RX4 62 yX4_takeNumber cX4_takeNumber 6 (some .int) 2 := ⟨mlX4_62, imX4_takeNumber, seX4_takeNumber, iniX4, cdX4_takeNumber, by decide +kernel⟩
theorem mlX4_47 : Cond.methodLink RX4 47 yX4_takeMove ∈ tblG := List.mem_filter.mpr ⟨List.mem_of_getElem? (i := 312) (by decide +kernel), rfl⟩
theorem imX4_takeMove : Cond.instanceMethod yX4_takeMove ∈ tblG := List.mem_filter.mpr ⟨List.mem_of_getElem? (i := 314) (by decide +kernel), rfl⟩
theorem seX4_takeMove : Cond.selects RX4 yX4_takeMove yX4_takeMove ∈ tblG := List.mem_filter.mpr ⟨List.mem_of_getElem? (i := 7) (by decide +kernel), rfl⟩
set_option maxRecDepth 100000 in
theorem cdX4_takeMove : Cond.code yX4_takeMove cX4_takeMove 7 (some .boolean) ∈ tblG := List.mem_filter.mpr ⟨List.mem_of_getElem? (i := 315) (rfl), rfl⟩
theorem ivX4_47 : InV RX4 47 yX4_takeMove cX4_takeMove 7 (some .boolean) 1 := ⟨mlX4_47, imX4_takeMove, seX4_takeMove, iniX4, cdX4_takeMove, by decide +kernel⟩
theorem mlX4_44 : Cond.methodLink RX4 44 yX4_takeChange ∈ tblG := List.mem_filter.mpr ⟨List.mem_of_getElem? (i := 296) (by decide +kernel), rfl⟩
theorem imX4_takeChange : Cond.instanceMethod yX4_takeChange ∈ tblG := List.mem_filter.mpr ⟨List.mem_of_getElem? (i := 298) (by decide +kernel), rfl⟩
theorem seX4_takeChange : Cond.selects RX4 yX4_takeChange yX4_takeChange ∈ tblG := List.mem_filter.mpr ⟨List.mem_of_getElem? (i := 4) (by decide +kernel), rfl⟩
set_option maxRecDepth 100000 in
theorem cdX4_takeChange : Cond.code yX4_takeChange cX4_takeChange 3 (some .boolean) ∈ tblG := List.mem_filter.mpr ⟨List.mem_of_getElem? (i := 299) (rfl), rfl⟩
theorem ivX4_44 : InV RX4 44 yX4_takeChange cX4_takeChange 3 (some .boolean) 1 := ⟨mlX4_44, imX4_takeChange, seX4_takeChange, iniX4, cdX4_takeChange, by decide +kernel⟩
theorem mlX4_25 : Cond.methodLink RX4 25 yX3_clear ∈ tblG := List.mem_filter.mpr ⟨List.mem_of_getElem? (i := 280) (by decide +kernel), rfl⟩
theorem imX3_clear : Cond.instanceMethod yX3_clear ∈ tblG := List.mem_filter.mpr ⟨List.mem_of_getElem? (i := 281) (by decide +kernel), rfl⟩
theorem seX3_clear : Cond.selects RX3 yX3_clear yX3_clear ∈ tblG := List.mem_filter.mpr ⟨List.mem_of_getElem? (i := 282) (by decide +kernel), rfl⟩
set_option maxRecDepth 100000 in
theorem cdX3_clear : Cond.code yX3_clear cX3_clear 1 none ∈ tblG := List.mem_filter.mpr ⟨List.mem_of_getElem? (i := 283) (rfl), rfl⟩
theorem ivX4_25 : InV RX4 25 yX3_clear cX3_clear 1 none 0 := ⟨mlX4_25, imX3_clear, seX3_clear, iniX3, cdX3_clear, by decide +kernel⟩
theorem mlX4_30 : Cond.methodLink RX4 30 yX4_takeStatement ∈ tblG := List.mem_filter.mpr ⟨List.mem_of_getElem? (i := 284) (by decide +kernel), rfl⟩
theorem imX4_takeStatement : Cond.instanceMethod yX4_takeStatement ∈ tblG := List.mem_filter.mpr ⟨List.mem_of_getElem? (i := 286) (by decide +kernel), rfl⟩
theorem seX4_takeStatement : Cond.selects RX4 yX4_takeStatement yX4_takeStatement ∈ tblG := List.mem_filter.mpr ⟨List.mem_of_getElem? (i := 1) (by decide +kernel), rfl⟩
set_option maxRecDepth 100000 in
theorem cdX4_takeStatement : Cond.code yX4_takeStatement cX4_takeStatement 2 (some .boolean) ∈ tblG := List.mem_filter.mpr ⟨List.mem_of_getElem? (i := 287) (rfl), rfl⟩
theorem ivX4_30 : InV RX4 30 yX4_takeStatement cX4_takeStatement 2 (some .boolean) 1 := ⟨mlX4_30, imX4_takeStatement, seX4_takeStatement, iniX4, cdX4_takeStatement, by decide +kernel⟩
theorem flX4_34 : Cond.fieldLink RX4 34 "RouterPaths$Program" "count" "I" ∈ tblG := List.mem_filter.mpr ⟨List.mem_of_getElem? (i := 216) (by decide +kernel), rfl⟩
theorem flX1_18 : Cond.fieldLink RX1 18 "RouterPaths$Machine" "time" "I" ∈ tblG := List.mem_filter.mpr ⟨List.mem_of_getElem? (i := 153) (by decide +kernel), rfl⟩
theorem flX1_22 : Cond.fieldLink RX1 22 "RouterPaths$Machine" "ended" "I" ∈ tblG := List.mem_filter.mpr ⟨List.mem_of_getElem? (i := 155) (by decide +kernel), rfl⟩
theorem flX1_25 : Cond.fieldLink RX1 25 "RouterPaths$Machine" "x" "I" ∈ tblG := List.mem_filter.mpr ⟨List.mem_of_getElem? (i := 157) (by decide +kernel), rfl⟩
theorem flX1_28 : Cond.fieldLink RX1 28 "RouterPaths$Machine" "y" "I" ∈ tblG := List.mem_filter.mpr ⟨List.mem_of_getElem? (i := 159) (by decide +kernel), rfl⟩
theorem flX1_31 : Cond.fieldLink RX1 31 "RouterPaths$Machine" "z" "I" ∈ tblG := List.mem_filter.mpr ⟨List.mem_of_getElem? (i := 161) (by decide +kernel), rfl⟩
theorem flX1_34 : Cond.fieldLink RX1 34 "RouterPaths$Machine" "cut" "I" ∈ tblG := List.mem_filter.mpr ⟨List.mem_of_getElem? (i := 163) (by decide +kernel), rfl⟩
theorem flX1_37 : Cond.fieldLink RX1 37 "RouterPaths$Machine" "held" "I" ∈ tblG := List.mem_filter.mpr ⟨List.mem_of_getElem? (i := 165) (by decide +kernel), rfl⟩
theorem mlX1_101 : Cond.methodLink RX1 101 yJm_floorDiv ∈ tblG := List.mem_filter.mpr ⟨List.mem_of_getElem? (i := 540) (by decide +kernel), rfl⟩
theorem stJm_floorDiv : Cond.static yJm_floorDiv ∈ tblG := List.mem_filter.mpr ⟨List.mem_of_getElem? (i := 541) (by decide +kernel), rfl⟩
theorem iniJm : Cond.initialized RJm ∈ tblG := List.mem_filter.mpr ⟨List.mem_of_getElem? (i := 37) (by decide +kernel), rfl⟩
set_option maxRecDepth 100000 in
theorem cdJm_floorDiv : Cond.code yJm_floorDiv cJm_floorDiv 3 (some .int) ∈ tblG := List.mem_filter.mpr ⟨List.mem_of_getElem? (i := 542) (rfl), rfl⟩
theorem ivX1_101 : InS RX1 101 yJm_floorDiv cJm_floorDiv 3 (some .int) 2 := ⟨mlX1_101, stJm_floorDiv, iniJm, cdJm_floorDiv, by decide +kernel⟩
theorem mlX1_104 : Cond.methodLink RX1 104 yX0_discHasKeptAbove ∈ tblG := List.mem_filter.mpr ⟨List.mem_of_getElem? (i := 554) (by decide +kernel), rfl⟩
theorem imX0_discHasKeptAbove : Cond.instanceMethod yX0_discHasKeptAbove ∈ tblG := List.mem_filter.mpr ⟨List.mem_of_getElem? (i := 555) (by decide +kernel), rfl⟩
theorem seX0_discHasKeptAbove : Cond.selects RX0 yX0_discHasKeptAbove yX0_discHasKeptAbove ∈ tblG := List.mem_filter.mpr ⟨List.mem_of_getElem? (i := 556) (by decide +kernel), rfl⟩
set_option maxRecDepth 100000 in
theorem cdX0_discHasKeptAbove : Cond.code yX0_discHasKeptAbove cX0_discHasKeptAbove 3 (some .boolean) ∈ tblG := List.mem_filter.mpr ⟨List.mem_of_getElem? (i := 557) (rfl), rfl⟩
theorem ivX1_104 : InV RX1 104 yX0_discHasKeptAbove cX0_discHasKeptAbove 3 (some .boolean) 1 := ⟨mlX1_104, imX0_discHasKeptAbove, seX0_discHasKeptAbove, iniX0, cdX0_discHasKeptAbove, by decide +kernel⟩
theorem mlX1_108 : Cond.methodLink RX1 108 yX0_lowerDisc ∈ tblG := List.mem_filter.mpr ⟨List.mem_of_getElem? (i := 558) (by decide +kernel), rfl⟩
theorem imX0_lowerDisc : Cond.instanceMethod yX0_lowerDisc ∈ tblG := List.mem_filter.mpr ⟨List.mem_of_getElem? (i := 559) (by decide +kernel), rfl⟩
theorem seX0_lowerDisc : Cond.selects RX0 yX0_lowerDisc yX0_lowerDisc ∈ tblG := List.mem_filter.mpr ⟨List.mem_of_getElem? (i := 560) (by decide +kernel), rfl⟩
set_option maxRecDepth 100000 in
theorem cdX0_lowerDisc : Cond.code yX0_lowerDisc cX0_lowerDisc 4 (some .int) ∈ tblG := List.mem_filter.mpr ⟨List.mem_of_getElem? (i := 561) (rfl), rfl⟩
theorem ivX1_108 : InV RX1 108 yX0_lowerDisc cX0_lowerDisc 4 (some .int) 1 := ⟨mlX1_108, imX0_lowerDisc, seX0_lowerDisc, iniX0, cdX0_lowerDisc, by decide +kernel⟩
theorem flX1_111 : Cond.fieldLink RX1 111 "RouterPaths$Tool" "feed" "I" ∈ tblG := List.mem_filter.mpr ⟨List.mem_of_getElem? (i := 112) (by decide +kernel), rfl⟩
theorem mlX1_116 : Cond.methodLink RX1 116 yX0_discRisesAbove ∈ tblG := List.mem_filter.mpr ⟨List.mem_of_getElem? (i := 566) (by decide +kernel), rfl⟩
theorem imX0_discRisesAbove : Cond.instanceMethod yX0_discRisesAbove ∈ tblG := List.mem_filter.mpr ⟨List.mem_of_getElem? (i := 567) (by decide +kernel), rfl⟩
theorem seX0_discRisesAbove : Cond.selects RX0 yX0_discRisesAbove yX0_discRisesAbove ∈ tblG := List.mem_filter.mpr ⟨List.mem_of_getElem? (i := 568) (by decide +kernel), rfl⟩
set_option maxRecDepth 100000 in
theorem cdX0_discRisesAbove : Cond.code yX0_discRisesAbove cX0_discRisesAbove 3 (some .boolean) ∈ tblG := List.mem_filter.mpr ⟨List.mem_of_getElem? (i := 569) (rfl), rfl⟩
theorem ivX1_116 : InV RX1 116 yX0_discRisesAbove cX0_discRisesAbove 3 (some .boolean) 1 := ⟨mlX1_116, imX0_discRisesAbove, seX0_discRisesAbove, iniX0, cdX0_discRisesAbove, by decide +kernel⟩
theorem mlX1_74 : Cond.methodLink RX1 74 Lib.Math.abs.name ∈ tblG := List.mem_filter.mpr ⟨List.mem_of_getElem? (i := 533) (by decide +kernel), rfl⟩
theorem mlX1_80 : Cond.methodLink RX1 80 Lib.Math.max.name ∈ tblG := List.mem_filter.mpr ⟨List.mem_of_getElem? (i := 536) (by decide +kernel), rfl⟩
theorem mlX1_83 : Cond.methodLink RX1 83 yX1_along ∈ tblG := List.mem_filter.mpr ⟨List.mem_of_getElem? (i := 537) (by decide +kernel), rfl⟩
theorem stX1_along : Cond.static yX1_along ∈ tblG := List.mem_filter.mpr ⟨List.mem_of_getElem? (i := 538) (by decide +kernel), rfl⟩
theorem iniX1 : Cond.initialized RX1 ∈ tblG := List.mem_filter.mpr ⟨List.mem_of_getElem? (i := 41) (by decide +kernel), rfl⟩
set_option maxRecDepth 100000 in
theorem cdX1_along : Cond.code yX1_along cX1_along 4 (some .int) ∈ tblG := List.mem_filter.mpr ⟨List.mem_of_getElem? (i := 539) (rfl), rfl⟩
theorem ivX1_83 : InS RX1 83 yX1_along cX1_along 4 (some .int) 4 := ⟨mlX1_83, stX1_along, iniX1, cdX1_along, by decide +kernel⟩
theorem mlX1_87 : Cond.methodLink RX1 87 yX0_layDisc ∈ tblG := List.mem_filter.mpr ⟨List.mem_of_getElem? (i := 543) (by decide +kernel), rfl⟩
theorem ivX1_87 : InV RX1 87 yX0_layDisc cX0_layDisc 9 none 3 := ⟨mlX1_87, imX0_layDisc, seX0_layDisc, iniX0, cdX0_layDisc, by decide +kernel⟩
theorem mlX1_97 : Cond.methodLink RX1 97 yX1_passHere ∈ tblG := List.mem_filter.mpr ⟨List.mem_of_getElem? (i := 562) (by decide +kernel), rfl⟩
theorem imX1_passHere : Cond.instanceMethod yX1_passHere ∈ tblG := List.mem_filter.mpr ⟨List.mem_of_getElem? (i := 564) (by decide +kernel), rfl⟩
theorem seX1_passHere : Cond.selects RX1 yX1_passHere yX1_passHere ∈ tblG := List.mem_filter.mpr ⟨List.mem_of_getElem? (i := 17) (by decide +kernel), rfl⟩
set_option maxRecDepth 100000 in
theorem cdX1_passHere : Cond.code yX1_passHere cX1_passHere 2 (some .int) ∈ tblG := List.mem_filter.mpr ⟨List.mem_of_getElem? (i := 565) (rfl), rfl⟩
theorem ivX1_97 : InV RX1 97 yX1_passHere cX1_passHere 2 (some .int) 1 := ⟨mlX1_97, imX1_passHere, seX1_passHere, iniX1, cdX1_passHere, by decide +kernel⟩
theorem mlX1_93 : Cond.methodLink RX1 93 yX1_cutHere ∈ tblG := List.mem_filter.mpr ⟨List.mem_of_getElem? (i := 550) (by decide +kernel), rfl⟩
theorem imX1_cutHere : Cond.instanceMethod yX1_cutHere ∈ tblG := List.mem_filter.mpr ⟨List.mem_of_getElem? (i := 552) (by decide +kernel), rfl⟩
theorem seX1_cutHere : Cond.selects RX1 yX1_cutHere yX1_cutHere ∈ tblG := List.mem_filter.mpr ⟨List.mem_of_getElem? (i := 16) (by decide +kernel), rfl⟩
set_option maxRecDepth 100000 in
theorem cdX1_cutHere : Cond.code yX1_cutHere cX1_cutHere 3 (some .int) ∈ tblG := List.mem_filter.mpr ⟨List.mem_of_getElem? (i := 553) (rfl), rfl⟩
theorem ivX1_93 : InV RX1 93 yX1_cutHere cX1_cutHere 3 (some .int) 2 := ⟨mlX1_93, imX1_cutHere, seX1_cutHere, iniX1, cdX1_cutHere, by decide +kernel⟩
theorem flX1_49 : Cond.fieldLink RX1 49 "RouterPaths$Program" "letters" "[C" ∈ tblG := List.mem_filter.mpr ⟨List.mem_of_getElem? (i := 219) (by decide +kernel), rfl⟩
theorem flX1_57 : Cond.fieldLink RX1 57 "RouterPaths$Program" "xs" "[I" ∈ tblG := List.mem_filter.mpr ⟨List.mem_of_getElem? (i := 223) (by decide +kernel), rfl⟩
theorem mlX1_60 : Cond.methodLink RX1 60 yX1_difference ∈ tblG := List.mem_filter.mpr ⟨List.mem_of_getElem? (i := 526) (by decide +kernel), rfl⟩
theorem stX1_difference : Cond.static yX1_difference ∈ tblG := List.mem_filter.mpr ⟨List.mem_of_getElem? (i := 527) (by decide +kernel), rfl⟩
set_option maxRecDepth 100000 in
theorem cdX1_difference : Cond.code yX1_difference cX1_difference 2 (some .int) ∈ tblG := List.mem_filter.mpr ⟨List.mem_of_getElem? (i := 528) (rfl), rfl⟩
theorem ivX1_60 : InS RX1 60 yX1_difference cX1_difference 2 (some .int) 2 := ⟨mlX1_60, stX1_difference, iniX1, cdX1_difference, by decide +kernel⟩
theorem flX1_64 : Cond.fieldLink RX1 64 "RouterPaths$Program" "ys" "[I" ∈ tblG := List.mem_filter.mpr ⟨List.mem_of_getElem? (i := 225) (by decide +kernel), rfl⟩
theorem flX1_67 : Cond.fieldLink RX1 67 "RouterPaths$Program" "zs" "[I" ∈ tblG := List.mem_filter.mpr ⟨List.mem_of_getElem? (i := 227) (by decide +kernel), rfl⟩
theorem flX1_53 : Cond.fieldLink RX1 53 "RouterPaths$Program" "digits" "[I" ∈ tblG := List.mem_filter.mpr ⟨List.mem_of_getElem? (i := 221) (by decide +kernel), rfl⟩
theorem mlX1_70 : Cond.methodLink RX1 70 yX1_travel ∈ tblG := List.mem_filter.mpr ⟨List.mem_of_getElem? (i := 529) (by decide +kernel), rfl⟩
theorem imX1_travel : Cond.instanceMethod yX1_travel ∈ tblG := List.mem_filter.mpr ⟨List.mem_of_getElem? (i := 531) (by decide +kernel), rfl⟩
theorem seX1_travel : Cond.selects RX1 yX1_travel yX1_travel ∈ tblG := List.mem_filter.mpr ⟨List.mem_of_getElem? (i := 15) (by decide +kernel), rfl⟩
set_option maxRecDepth 100000 in
theorem cdX1_travel : Cond.code yX1_travel cX1_travel 13 (some .int) ∈ tblG := List.mem_filter.mpr ⟨List.mem_of_getElem? (i := 532) (rfl), rfl⟩
theorem ivX1_70 : InV RX1 70 yX1_travel cX1_travel 13 (some .int) 6 := ⟨mlX1_70, imX1_travel, seX1_travel, iniX1, cdX1_travel, by decide +kernel⟩
theorem mlX1_15 : Cond.methodLink RX1 15 yX1_startAnew ∈ tblG := List.mem_filter.mpr ⟨List.mem_of_getElem? (i := 147) (by decide +kernel), rfl⟩
theorem imX1_startAnew : Cond.instanceMethod yX1_startAnew ∈ tblG := List.mem_filter.mpr ⟨List.mem_of_getElem? (i := 149) (by decide +kernel), rfl⟩
theorem seX1_startAnew : Cond.selects RX1 yX1_startAnew yX1_startAnew ∈ tblG := List.mem_filter.mpr ⟨List.mem_of_getElem? (i := 0) (by decide +kernel), rfl⟩
set_option maxRecDepth 100000 in
theorem cdX1_startAnew : Cond.code yX1_startAnew cX1_startAnew 1 none ∈ tblG := List.mem_filter.mpr ⟨List.mem_of_getElem? (i := 150) (rfl), rfl⟩
theorem ivX1_15 : InV RX1 15 yX1_startAnew cX1_startAnew 1 none 0 := ⟨mlX1_15, imX1_startAnew, seX1_startAnew, iniX1, cdX1_startAnew, by decide +kernel⟩
theorem flX1_9 : Cond.fieldLink RX1 9 "RouterPaths$Machine" "hasRun" "Z" ∈ tblG := List.mem_filter.mpr ⟨List.mem_of_getElem? (i := 151) (by decide +kernel), rfl⟩
theorem flX1_40 : Cond.fieldLink RX1 40 "RouterPaths$Program" "count" "I" ∈ tblG := List.mem_filter.mpr ⟨List.mem_of_getElem? (i := 215) (by decide +kernel), rfl⟩
theorem mlX1_45 : Cond.methodLink RX1 45 yX1_obey ∈ tblG := List.mem_filter.mpr ⟨List.mem_of_getElem? (i := 522) (by decide +kernel), rfl⟩
theorem imX1_obey : Cond.instanceMethod yX1_obey ∈ tblG := List.mem_filter.mpr ⟨List.mem_of_getElem? (i := 524) (by decide +kernel), rfl⟩
theorem seX1_obey : Cond.selects RX1 yX1_obey yX1_obey ∈ tblG := List.mem_filter.mpr ⟨List.mem_of_getElem? (i := 14) (by decide +kernel), rfl⟩
set_option maxRecDepth 100000 in
theorem cdX1_obey : Cond.code yX1_obey cX1_obey 8 (some .int) ∈ tblG := List.mem_filter.mpr ⟨List.mem_of_getElem? (i := 525) (rfl), rfl⟩
theorem ivX1_45 : InV RX1 45 yX1_obey cX1_obey 8 (some .int) 4 := ⟨mlX1_45, imX1_obey, seX1_obey, iniX1, cdX1_obey, by decide +kernel⟩
theorem flX6_37 : Cond.fieldLink RX6 37 "RouterPaths" "reader" "LRouterPaths$Reader;" ∈ tblG := List.mem_filter.mpr ⟨List.mem_of_getElem? (i := 244) (by decide +kernel), rfl⟩
theorem mlX6_95 : Cond.methodLink RX6 95 yX4_append ∈ tblG := List.mem_filter.mpr ⟨List.mem_of_getElem? (i := 268) (by decide +kernel), rfl⟩
theorem imX4_append : Cond.instanceMethod yX4_append ∈ tblG := List.mem_filter.mpr ⟨List.mem_of_getElem? (i := 269) (by decide +kernel), rfl⟩
theorem seX4_append : Cond.selects RX4 yX4_append yX4_append ∈ tblG := List.mem_filter.mpr ⟨List.mem_of_getElem? (i := 270) (by decide +kernel), rfl⟩
set_option maxRecDepth 100000 in
theorem cdX4_append : Cond.code yX4_append cX4_append 2 (some .boolean) ∈ tblG := List.mem_filter.mpr ⟨List.mem_of_getElem? (i := 271) (rfl), rfl⟩
theorem ivX6_95 : InV RX6 95 yX4_append cX4_append 2 (some .boolean) 1 := ⟨mlX6_95, imX4_append, seX4_append, iniX4, cdX4_append, by decide +kernel⟩
theorem flX6_62 : Cond.fieldLink RX6 62 "RouterPaths" "draft" "LRouterPaths$Program;" ∈ tblG := List.mem_filter.mpr ⟨List.mem_of_getElem? (i := 248) (by decide +kernel), rfl⟩
theorem mlX6_99 : Cond.methodLink RX6 99 yX4_parse ∈ tblG := List.mem_filter.mpr ⟨List.mem_of_getElem? (i := 276) (by decide +kernel), rfl⟩
theorem imX4_parse : Cond.instanceMethod yX4_parse ∈ tblG := List.mem_filter.mpr ⟨List.mem_of_getElem? (i := 277) (by decide +kernel), rfl⟩
theorem seX4_parse : Cond.selects RX4 yX4_parse yX4_parse ∈ tblG := List.mem_filter.mpr ⟨List.mem_of_getElem? (i := 278) (by decide +kernel), rfl⟩
set_option maxRecDepth 100000 in
theorem cdX4_parse : Cond.code yX4_parse cX4_parse 4 (some .int) ∈ tblG := List.mem_filter.mpr ⟨List.mem_of_getElem? (i := 279) (rfl), rfl⟩
theorem ivX6_99 : InV RX6 99 yX4_parse cX4_parse 4 (some .int) 1 := ⟨mlX6_99, imX4_parse, seX4_parse, iniX4, cdX4_parse, by decide +kernel⟩
theorem flX6_58 : Cond.fieldLink RX6 58 "RouterPaths" "program" "LRouterPaths$Program;" ∈ tblG := List.mem_filter.mpr ⟨List.mem_of_getElem? (i := 247) (by decide +kernel), rfl⟩
theorem flX6_51 : Cond.fieldLink RX6 51 "RouterPaths" "pieceCounter" "LRouterPaths$PieceCounter;" ∈ tblG := List.mem_filter.mpr ⟨List.mem_of_getElem? (i := 246) (by decide +kernel), rfl⟩
theorem flX6_23 : Cond.fieldLink RX6 23 "RouterPaths" "grid" "LRouterPaths$Grid;" ∈ tblG := List.mem_filter.mpr ⟨List.mem_of_getElem? (i := 242) (by decide +kernel), rfl⟩
theorem mlX6_171 : Cond.methodLink RX6 171 yX2_count ∈ tblG := List.mem_filter.mpr ⟨List.mem_of_getElem? (i := 324) (by decide +kernel), rfl⟩
theorem imX2_count : Cond.instanceMethod yX2_count ∈ tblG := List.mem_filter.mpr ⟨List.mem_of_getElem? (i := 325) (by decide +kernel), rfl⟩
theorem seX2_count : Cond.selects RX2 yX2_count yX2_count ∈ tblG := List.mem_filter.mpr ⟨List.mem_of_getElem? (i := 326) (by decide +kernel), rfl⟩
set_option maxRecDepth 100000 in
theorem cdX2_count : Cond.code yX2_count cX2_count 6 (some .int) ∈ tblG := List.mem_filter.mpr ⟨List.mem_of_getElem? (i := 327) (rfl), rfl⟩
theorem ivX6_171 : InV RX6 171 yX2_count cX2_count 6 (some .int) 1 := ⟨mlX6_171, imX2_count, seX2_count, iniX2, cdX2_count, by decide +kernel⟩
theorem mlX6_174 : Cond.methodLink RX6 174 yX0_fillUp ∈ tblG := List.mem_filter.mpr ⟨List.mem_of_getElem? (i := 348) (by decide +kernel), rfl⟩
theorem imX0_fillUp : Cond.instanceMethod yX0_fillUp ∈ tblG := List.mem_filter.mpr ⟨List.mem_of_getElem? (i := 349) (by decide +kernel), rfl⟩
theorem seX0_fillUp : Cond.selects RX0 yX0_fillUp yX0_fillUp ∈ tblG := List.mem_filter.mpr ⟨List.mem_of_getElem? (i := 350) (by decide +kernel), rfl⟩
set_option maxRecDepth 100000 in
theorem cdX0_fillUp : Cond.code yX0_fillUp cX0_fillUp 2 none ∈ tblG := List.mem_filter.mpr ⟨List.mem_of_getElem? (i := 351) (rfl), rfl⟩
theorem ivX6_174 : InV RX6 174 yX0_fillUp cX0_fillUp 2 none 0 := ⟨mlX6_174, imX0_fillUp, seX0_fillUp, iniX0, cdX0_fillUp, by decide +kernel⟩
theorem flX7_57 : Cond.fieldLink RX7 57 "RouterPathsModel" "thrown" "I" ∈ tblG := List.mem_filter.mpr ⟨List.mem_of_getElem? (i := 639) (by decide +kernel), rfl⟩
theorem flX7_53 : Cond.fieldLink RX7 53 "RouterPathsModel" "side" "I" ∈ tblG := List.mem_filter.mpr ⟨List.mem_of_getElem? (i := 640) (by decide +kernel), rfl⟩
theorem mlX7_60 : Cond.methodLink RX7 60 yX7_isIn ∈ tblG := List.mem_filter.mpr ⟨List.mem_of_getElem? (i := 717) (by decide +kernel), rfl⟩
theorem stX7_isIn : Cond.static yX7_isIn ∈ tblG := List.mem_filter.mpr ⟨List.mem_of_getElem? (i := 718) (by decide +kernel), rfl⟩
theorem iniX7 : Cond.initialized RX7 ∈ tblG := List.mem_filter.mpr ⟨List.mem_of_getElem? (i := 44) (by decide +kernel), rfl⟩
set_option maxRecDepth 100000 in
theorem cdX7_isIn : Cond.code yX7_isIn cX7_isIn 3 (some .boolean) ∈ tblG := List.mem_filter.mpr ⟨List.mem_of_getElem? (i := 719) (rfl), rfl⟩
theorem ivX7_60 : InS RX7 60 yX7_isIn cX7_isIn 3 (some .boolean) 3 := ⟨mlX7_60, stX7_isIn, iniX7, cdX7_isIn, by decide +kernel⟩
theorem mlX7_64 : Cond.methodLink RX7 64 yX7_isCell ∈ tblG := List.mem_filter.mpr ⟨List.mem_of_getElem? (i := 724) (by decide +kernel), rfl⟩
theorem imX7_isCell : Cond.instanceMethod yX7_isCell ∈ tblG := List.mem_filter.mpr ⟨List.mem_of_getElem? (i := 726) (by decide +kernel), rfl⟩
theorem seX7_isCell : Cond.selects RX7 yX7_isCell yX7_isCell ∈ tblG := List.mem_filter.mpr ⟨List.mem_of_getElem? (i := 23) (by decide +kernel), rfl⟩
set_option maxRecDepth 100000 in
theorem cdX7_isCell : Cond.code yX7_isCell cX7_isCell 3 (some .boolean) ∈ tblG := List.mem_filter.mpr ⟨List.mem_of_getElem? (i := 727) (rfl), rfl⟩
theorem ivX7_64 : InV RX7 64 yX7_isCell cX7_isCell 3 (some .boolean) 2 := ⟨mlX7_64, imX7_isCell, seX7_isCell, iniX7, cdX7_isCell, by decide +kernel⟩
theorem mlX7_68 : Cond.methodLink RX7 68 yX7_spanFault ∈ tblG := List.mem_filter.mpr ⟨List.mem_of_getElem? (i := 720) (by decide +kernel), rfl⟩
theorem imX7_spanFault : Cond.instanceMethod yX7_spanFault ∈ tblG := List.mem_filter.mpr ⟨List.mem_of_getElem? (i := 722) (by decide +kernel), rfl⟩
theorem seX7_spanFault : Cond.selects RX7 yX7_spanFault yX7_spanFault ∈ tblG := List.mem_filter.mpr ⟨List.mem_of_getElem? (i := 22) (by decide +kernel), rfl⟩
set_option maxRecDepth 100000 in
theorem cdX7_spanFault : Cond.code yX7_spanFault cX7_spanFault 6 (some .int) ∈ tblG := List.mem_filter.mpr ⟨List.mem_of_getElem? (i := 723) (rfl), rfl⟩
theorem ivX7_68 : InV RX7 68 yX7_spanFault cX7_spanFault 6 (some .int) 5 := ⟨mlX7_68, imX7_spanFault, seX7_spanFault, iniX7, cdX7_spanFault, by decide +kernel⟩
theorem flX7_13 : Cond.fieldLink RX7 13 "RouterPathsModel" "targets" "[I" ∈ tblG := List.mem_filter.mpr ⟨List.mem_of_getElem? (i := 642) (by decide +kernel), rfl⟩
theorem flX7_16 : Cond.fieldLink RX7 16 "RouterPathsModel" "kept" "[Z" ∈ tblG := List.mem_filter.mpr ⟨List.mem_of_getElem? (i := 643) (by decide +kernel), rfl⟩
theorem flX7_20 : Cond.fieldLink RX7 20 "RouterPathsModel" "radius" "[I" ∈ tblG := List.mem_filter.mpr ⟨List.mem_of_getElem? (i := 644) (by decide +kernel), rfl⟩
theorem flX7_23 : Cond.fieldLink RX7 23 "RouterPathsModel" "feeds" "[I" ∈ tblG := List.mem_filter.mpr ⟨List.mem_of_getElem? (i := 645) (by decide +kernel), rfl⟩
theorem flX7_26 : Cond.fieldLink RX7 26 "RouterPathsModel" "text" "[I" ∈ tblG := List.mem_filter.mpr ⟨List.mem_of_getElem? (i := 646) (by decide +kernel), rfl⟩
theorem flX7_72 : Cond.fieldLink RX7 72 "RouterPathsModel" "size" "I" ∈ tblG := List.mem_filter.mpr ⟨List.mem_of_getElem? (i := 647) (by decide +kernel), rfl⟩
theorem flX7_75 : Cond.fieldLink RX7 75 "RouterPathsModel" "at" "I" ∈ tblG := List.mem_filter.mpr ⟨List.mem_of_getElem? (i := 648) (by decide +kernel), rfl⟩
theorem flX7_78 : Cond.fieldLink RX7 78 "RouterPathsModel" "fault" "I" ∈ tblG := List.mem_filter.mpr ⟨List.mem_of_getElem? (i := 649) (by decide +kernel), rfl⟩
theorem mlX7_81 : Cond.methodLink RX7 81 yX7_now ∈ tblG := List.mem_filter.mpr ⟨List.mem_of_getElem? (i := 748) (by decide +kernel), rfl⟩
theorem imX7_now : Cond.instanceMethod yX7_now ∈ tblG := List.mem_filter.mpr ⟨List.mem_of_getElem? (i := 750) (by decide +kernel), rfl⟩
theorem seX7_now : Cond.selects RX7 yX7_now yX7_now ∈ tblG := List.mem_filter.mpr ⟨List.mem_of_getElem? (i := 25) (by decide +kernel), rfl⟩
set_option maxRecDepth 100000 in
theorem cdX7_now : Cond.code yX7_now cX7_now 1 (some .int) ∈ tblG := List.mem_filter.mpr ⟨List.mem_of_getElem? (i := 751) (rfl), rfl⟩
theorem ivX7_81 : InV RX7 81 yX7_now cX7_now 1 (some .int) 0 := ⟨mlX7_81, imX7_now, seX7_now, iniX7, cdX7_now, by decide +kernel⟩
theorem mlX7_85 : Cond.methodLink RX7 85 yX7_must ∈ tblG := List.mem_filter.mpr ⟨List.mem_of_getElem? (i := 756) (by decide +kernel), rfl⟩
theorem imX7_must : Cond.instanceMethod yX7_must ∈ tblG := List.mem_filter.mpr ⟨List.mem_of_getElem? (i := 758) (by decide +kernel), rfl⟩
theorem seX7_must : Cond.selects RX7 yX7_must yX7_must ∈ tblG := List.mem_filter.mpr ⟨List.mem_of_getElem? (i := 27) (by decide +kernel), rfl⟩
set_option maxRecDepth 100000 in
theorem cdX7_must : Cond.code yX7_must cX7_must 2 none ∈ tblG := List.mem_filter.mpr ⟨List.mem_of_getElem? (i := 759) (rfl), rfl⟩
theorem ivX7_85 : InV RX7 85 yX7_must cX7_must 2 none 1 := ⟨mlX7_85, imX7_must, seX7_must, iniX7, cdX7_must, by decide +kernel⟩
theorem mlX7_89 : Cond.methodLink RX7 89 yX7_digit ∈ tblG := List.mem_filter.mpr ⟨List.mem_of_getElem? (i := 760) (by decide +kernel), rfl⟩
theorem imX7_digit : Cond.instanceMethod yX7_digit ∈ tblG := List.mem_filter.mpr ⟨List.mem_of_getElem? (i := 762) (by decide +kernel), rfl⟩
theorem seX7_digit : Cond.selects RX7 yX7_digit yX7_digit ∈ tblG := List.mem_filter.mpr ⟨List.mem_of_getElem? (i := 28) (by decide +kernel), rfl⟩
set_option maxRecDepth 100000 in
theorem cdX7_digit : Cond.code yX7_digit cX7_digit 3 (some .int) ∈ tblG := List.mem_filter.mpr ⟨List.mem_of_getElem? (i := 763) (rfl), rfl⟩
theorem ivX7_89 : InV RX7 89 yX7_digit cX7_digit 3 (some .int) 1 := ⟨mlX7_89, imX7_digit, seX7_digit, iniX7, cdX7_digit, by decide +kernel⟩
theorem flX7_32 : Cond.fieldLink RX7 32 "RouterPathsModel" "draft" "[I" ∈ tblG := List.mem_filter.mpr ⟨List.mem_of_getElem? (i := 651) (by decide +kernel), rfl⟩
theorem mlX7_93 : Cond.methodLink RX7 93 yX7_spaces ∈ tblG := List.mem_filter.mpr ⟨List.mem_of_getElem? (i := 744) (by decide +kernel), rfl⟩
theorem imX7_spaces : Cond.instanceMethod yX7_spaces ∈ tblG := List.mem_filter.mpr ⟨List.mem_of_getElem? (i := 746) (by decide +kernel), rfl⟩
theorem seX7_spaces : Cond.selects RX7 yX7_spaces yX7_spaces ∈ tblG := List.mem_filter.mpr ⟨List.mem_of_getElem? (i := 24) (by decide +kernel), rfl⟩
set_option maxRecDepth 100000 in
theorem cdX7_spaces : Cond.code yX7_spaces cX7_spaces 1 none ∈ tblG := List.mem_filter.mpr ⟨List.mem_of_getElem? (i := 747) (rfl), rfl⟩
theorem ivX7_93 : InV RX7 93 yX7_spaces cX7_spaces 1 none 0 := ⟨mlX7_93, imX7_spaces, seX7_spaces, iniX7, cdX7_spaces, by decide +kernel⟩
theorem mlX7_96 : Cond.methodLink RX7 96 yX7_number ∈ tblG := List.mem_filter.mpr ⟨List.mem_of_getElem? (i := 764) (by decide +kernel), rfl⟩
theorem imX7_number : Cond.instanceMethod yX7_number ∈ tblG := List.mem_filter.mpr ⟨List.mem_of_getElem? (i := 766) (by decide +kernel), rfl⟩
theorem seX7_number : Cond.selects RX7 yX7_number yX7_number ∈ tblG := List.mem_filter.mpr ⟨List.mem_of_getElem? (i := 29) (by decide +kernel), rfl⟩
set_option maxRecDepth 100000 in
theorem cdX7_number : Cond.code yX7_number cX7_number 5 (some .int) ∈ tblG := List.mem_filter.mpr ⟨List.mem_of_getElem? (i := 767) (rfl), rfl⟩
theorem ivX7_96 : InV RX7 96 yX7_number cX7_number 5 (some .int) 1 := ⟨mlX7_96, imX7_number, seX7_number, iniX7, cdX7_number, by decide +kernel⟩
theorem flX7_103 : Cond.fieldLink RX7 103 "RouterPathsModel" "statements" "I" ∈ tblG := List.mem_filter.mpr ⟨List.mem_of_getElem? (i := 652) (by decide +kernel), rfl⟩
theorem flX7_106 : Cond.fieldLink RX7 106 "RouterPathsModel" "hasProgram" "Z" ∈ tblG := List.mem_filter.mpr ⟨List.mem_of_getElem? (i := 653) (by decide +kernel), rfl⟩
theorem flX7_29 : Cond.fieldLink RX7 29 "RouterPathsModel" "program" "[I" ∈ tblG := List.mem_filter.mpr ⟨List.mem_of_getElem? (i := 650) (by decide +kernel), rfl⟩
theorem mlX7_99 : Cond.methodLink RX7 99 yX7_statement ∈ tblG := List.mem_filter.mpr ⟨List.mem_of_getElem? (i := 752) (by decide +kernel), rfl⟩
theorem imX7_statement : Cond.instanceMethod yX7_statement ∈ tblG := List.mem_filter.mpr ⟨List.mem_of_getElem? (i := 754) (by decide +kernel), rfl⟩
theorem seX7_statement : Cond.selects RX7 yX7_statement yX7_statement ∈ tblG := List.mem_filter.mpr ⟨List.mem_of_getElem? (i := 26) (by decide +kernel), rfl⟩
set_option maxRecDepth 100000 in
theorem cdX7_statement : Cond.code yX7_statement cX7_statement 6 none ∈ tblG := List.mem_filter.mpr ⟨List.mem_of_getElem? (i := 755) (rfl), rfl⟩
theorem ivX7_99 : InV RX7 99 yX7_statement cX7_statement 6 none 1 := ⟨mlX7_99, imX7_statement, seX7_statement, iniX7, cdX7_statement, by decide +kernel⟩
theorem mlX7_110 : Cond.methodLink RX7 110 yX7_isNear ∈ tblG := List.mem_filter.mpr ⟨List.mem_of_getElem? (i := 787) (by decide +kernel), rfl⟩
theorem stX7_isNear : Cond.static yX7_isNear ∈ tblG := List.mem_filter.mpr ⟨List.mem_of_getElem? (i := 788) (by decide +kernel), rfl⟩
set_option maxRecDepth 100000 in
theorem cdX7_isNear : Cond.code yX7_isNear cX7_isNear 3 (some .boolean) ∈ tblG := List.mem_filter.mpr ⟨List.mem_of_getElem? (i := 789) (rfl), rfl⟩
theorem ivX7_110 : InS RX7 110 yX7_isNear cX7_isNear 3 (some .boolean) 3 := ⟨mlX7_110, stX7_isNear, iniX7, cdX7_isNear, by decide +kernel⟩
theorem flX7_38 : Cond.fieldLink RX7 38 "RouterPathsModel" "about" "[I" ∈ tblG := List.mem_filter.mpr ⟨List.mem_of_getElem? (i := 657) (by decide +kernel), rfl⟩
theorem flX7_113 : Cond.fieldLink RX7 113 "RouterPathsModel" "tool" "I" ∈ tblG := List.mem_filter.mpr ⟨List.mem_of_getElem? (i := 656) (by decide +kernel), rfl⟩
theorem mlX7_116 : Cond.methodLink RX7 116 yX7_isInDisc ∈ tblG := List.mem_filter.mpr ⟨List.mem_of_getElem? (i := 783) (by decide +kernel), rfl⟩
theorem imX7_isInDisc : Cond.instanceMethod yX7_isInDisc ∈ tblG := List.mem_filter.mpr ⟨List.mem_of_getElem? (i := 785) (by decide +kernel), rfl⟩
theorem seX7_isInDisc : Cond.selects RX7 yX7_isInDisc yX7_isInDisc ∈ tblG := List.mem_filter.mpr ⟨List.mem_of_getElem? (i := 32) (by decide +kernel), rfl⟩
set_option maxRecDepth 100000 in
theorem cdX7_isInDisc : Cond.code yX7_isInDisc cX7_isInDisc 5 (some .boolean) ∈ tblG := List.mem_filter.mpr ⟨List.mem_of_getElem? (i := 786) (rfl), rfl⟩
theorem ivX7_116 : InV RX7 116 yX7_isInDisc cX7_isInDisc 5 (some .boolean) 4 := ⟨mlX7_116, imX7_isInDisc, seX7_isInDisc, iniX7, cdX7_isInDisc, by decide +kernel⟩
theorem flX7_7 : Cond.fieldLink RX7 7 "RouterPathsModel" "heights" "[I" ∈ tblG := List.mem_filter.mpr ⟨List.mem_of_getElem? (i := 641) (by decide +kernel), rfl⟩
theorem flX7_35 : Cond.fieldLink RX7 35 "RouterPathsModel" "where" "[I" ∈ tblG := List.mem_filter.mpr ⟨List.mem_of_getElem? (i := 655) (by decide +kernel), rfl⟩
theorem mlX7_124 : Cond.methodLink RX7 124 yX7_step ∈ tblG := List.mem_filter.mpr ⟨List.mem_of_getElem? (i := 779) (by decide +kernel), rfl⟩
theorem imX7_step : Cond.instanceMethod yX7_step ∈ tblG := List.mem_filter.mpr ⟨List.mem_of_getElem? (i := 781) (by decide +kernel), rfl⟩
theorem seX7_step : Cond.selects RX7 yX7_step yX7_step ∈ tblG := List.mem_filter.mpr ⟨List.mem_of_getElem? (i := 31) (by decide +kernel), rfl⟩
set_option maxRecDepth 100000 in
theorem cdX7_step : Cond.code yX7_step cX7_step 9 (some .int) ∈ tblG := List.mem_filter.mpr ⟨List.mem_of_getElem? (i := 782) (rfl), rfl⟩
theorem ivX7_124 : InV RX7 124 yX7_step cX7_step 9 (some .int) 4 := ⟨mlX7_124, imX7_step, seX7_step, iniX7, cdX7_step, by decide +kernel⟩
theorem flX7_47 : Cond.fieldLink RX7 47 "RouterPathsModel" "begin" "[I" ∈ tblG := List.mem_filter.mpr ⟨List.mem_of_getElem? (i := 660) (by decide +kernel), rfl⟩
theorem flX7_50 : Cond.fieldLink RX7 50 "RouterPathsModel" "gap" "[I" ∈ tblG := List.mem_filter.mpr ⟨List.mem_of_getElem? (i := 661) (by decide +kernel), rfl⟩
theorem mlX7_120 : Cond.methodLink RX7 120 yX7_floor ∈ tblG := List.mem_filter.mpr ⟨List.mem_of_getElem? (i := 776) (by decide +kernel), rfl⟩
theorem stX7_floor : Cond.static yX7_floor ∈ tblG := List.mem_filter.mpr ⟨List.mem_of_getElem? (i := 777) (by decide +kernel), rfl⟩
set_option maxRecDepth 100000 in
theorem cdX7_floor : Cond.code yX7_floor cX7_floor 3 (some .int) ∈ tblG := List.mem_filter.mpr ⟨List.mem_of_getElem? (i := 778) (rfl), rfl⟩
theorem ivX7_120 : InS RX7 120 yX7_floor cX7_floor 3 (some .int) 2 := ⟨mlX7_120, stX7_floor, iniX7, cdX7_floor, by decide +kernel⟩
theorem flX7_128 : Cond.fieldLink RX7 128 "RouterPathsModel" "hasRun" "Z" ∈ tblG := List.mem_filter.mpr ⟨List.mem_of_getElem? (i := 654) (by decide +kernel), rfl⟩
theorem mlX7_131 : Cond.methodLink RX7 131 yX7_go ∈ tblG := List.mem_filter.mpr ⟨List.mem_of_getElem? (i := 772) (by decide +kernel), rfl⟩
theorem imX7_go : Cond.instanceMethod yX7_go ∈ tblG := List.mem_filter.mpr ⟨List.mem_of_getElem? (i := 774) (by decide +kernel), rfl⟩
theorem seX7_go : Cond.selects RX7 yX7_go yX7_go ∈ tblG := List.mem_filter.mpr ⟨List.mem_of_getElem? (i := 30) (by decide +kernel), rfl⟩
set_option maxRecDepth 100000 in
theorem cdX7_go : Cond.code yX7_go cX7_go 6 (some .int) ∈ tblG := List.mem_filter.mpr ⟨List.mem_of_getElem? (i := 775) (rfl), rfl⟩
theorem ivX7_131 : InV RX7 131 yX7_go cX7_go 6 (some .int) 1 := ⟨mlX7_131, imX7_go, seX7_go, iniX7, cdX7_go, by decide +kernel⟩
theorem mlX7_134 : Cond.methodLink RX7 134 yX7_spares ∈ tblG := List.mem_filter.mpr ⟨List.mem_of_getElem? (i := 806) (by decide +kernel), rfl⟩
theorem imX7_spares : Cond.instanceMethod yX7_spares ∈ tblG := List.mem_filter.mpr ⟨List.mem_of_getElem? (i := 808) (by decide +kernel), rfl⟩
theorem seX7_spares : Cond.selects RX7 yX7_spares yX7_spares ∈ tblG := List.mem_filter.mpr ⟨List.mem_of_getElem? (i := 33) (by decide +kernel), rfl⟩
set_option maxRecDepth 100000 in
theorem cdX7_spares : Cond.code yX7_spares cX7_spares 7 (some .boolean) ∈ tblG := List.mem_filter.mpr ⟨List.mem_of_getElem? (i := 809) (rfl), rfl⟩
theorem ivX7_134 : InV RX7 134 yX7_spares cX7_spares 7 (some .boolean) 4 := ⟨mlX7_134, imX7_spares, seX7_spares, iniX7, cdX7_spares, by decide +kernel⟩
theorem flX7_41 : Cond.fieldLink RX7 41 "RouterPathsModel" "stack" "[I" ∈ tblG := List.mem_filter.mpr ⟨List.mem_of_getElem? (i := 658) (by decide +kernel), rfl⟩
theorem flX7_44 : Cond.fieldLink RX7 44 "RouterPathsModel" "seen" "[Z" ∈ tblG := List.mem_filter.mpr ⟨List.mem_of_getElem? (i := 659) (by decide +kernel), rfl⟩
theorem mlX7_137 : Cond.methodLink RX7 137 yX7_flood ∈ tblG := List.mem_filter.mpr ⟨List.mem_of_getElem? (i := 814) (by decide +kernel), rfl⟩
theorem imX7_flood : Cond.instanceMethod yX7_flood ∈ tblG := List.mem_filter.mpr ⟨List.mem_of_getElem? (i := 816) (by decide +kernel), rfl⟩
theorem seX7_flood : Cond.selects RX7 yX7_flood yX7_flood ∈ tblG := List.mem_filter.mpr ⟨List.mem_of_getElem? (i := 34) (by decide +kernel), rfl⟩
set_option maxRecDepth 100000 in
theorem cdX7_flood : Cond.code yX7_flood cX7_flood 7 none ∈ tblG := List.mem_filter.mpr ⟨List.mem_of_getElem? (i := 817) (rfl), rfl⟩
theorem ivX7_137 : InV RX7 137 yX7_flood cX7_flood 7 none 1 := ⟨mlX7_137, imX7_flood, seX7_flood, iniX7, cdX7_flood, by decide +kernel⟩
theorem mlX6_179 : Cond.methodLink RX6 179 yX0_holds ∈ tblG := List.mem_filter.mpr ⟨List.mem_of_getElem? (i := 372) (by decide +kernel), rfl⟩
theorem ivX6_179 : InV RX6 179 yX0_holds cX0_holds 3 (some .boolean) 2 := ⟨mlX6_179, imX0_holds, seX0_holds, iniX0, cdX0_holds, by decide +kernel⟩
theorem mlX6_143 : Cond.methodLink RX6 143 yX6_demandCell ∈ tblG := List.mem_filter.mpr ⟨List.mem_of_getElem? (i := 368) (by decide +kernel), rfl⟩
theorem imX6_demandCell : Cond.instanceMethod yX6_demandCell ∈ tblG := List.mem_filter.mpr ⟨List.mem_of_getElem? (i := 370) (by decide +kernel), rfl⟩
theorem seX6_demandCell : Cond.selects RX6 yX6_demandCell yX6_demandCell ∈ tblG := List.mem_filter.mpr ⟨List.mem_of_getElem? (i := 12) (by decide +kernel), rfl⟩
theorem iniX6 : Cond.initialized RX6 ∈ tblG := List.mem_filter.mpr ⟨List.mem_of_getElem? (i := 36) (by decide +kernel), rfl⟩
set_option maxRecDepth 100000 in
theorem cdX6_demandCell : Cond.code yX6_demandCell cX6_demandCell 3 none ∈ tblG := List.mem_filter.mpr ⟨List.mem_of_getElem? (i := 371) (rfl), rfl⟩
theorem ivX6_143 : InV RX6 143 yX6_demandCell cX6_demandCell 3 none 2 := ⟨mlX6_143, imX6_demandCell, seX6_demandCell, iniX6, cdX6_demandCell, by decide +kernel⟩
theorem mlX6_65 : Cond.methodLink RX6 65 yX6_demandBlock ∈ tblG := List.mem_filter.mpr ⟨List.mem_of_getElem? (i := 364) (by decide +kernel), rfl⟩
theorem imX6_demandBlock : Cond.instanceMethod yX6_demandBlock ∈ tblG := List.mem_filter.mpr ⟨List.mem_of_getElem? (i := 366) (by decide +kernel), rfl⟩
theorem seX6_demandBlock : Cond.selects RX6 yX6_demandBlock yX6_demandBlock ∈ tblG := List.mem_filter.mpr ⟨List.mem_of_getElem? (i := 11) (by decide +kernel), rfl⟩
set_option maxRecDepth 100000 in
theorem cdX6_demandBlock : Cond.code yX6_demandBlock cX6_demandBlock 5 none ∈ tblG := List.mem_filter.mpr ⟨List.mem_of_getElem? (i := 367) (rfl), rfl⟩
theorem ivX6_65 : InV RX6 65 yX6_demandBlock cX6_demandBlock 5 none 4 := ⟨mlX6_65, imX6_demandBlock, seX6_demandBlock, iniX6, cdX6_demandBlock, by decide +kernel⟩
theorem mlX6_76 : Cond.methodLink RX6 76 yX0_aimBlock ∈ tblG := List.mem_filter.mpr ⟨List.mem_of_getElem? (i := 458) (by decide +kernel), rfl⟩
theorem imX0_aimBlock : Cond.instanceMethod yX0_aimBlock ∈ tblG := List.mem_filter.mpr ⟨List.mem_of_getElem? (i := 459) (by decide +kernel), rfl⟩
theorem seX0_aimBlock : Cond.selects RX0 yX0_aimBlock yX0_aimBlock ∈ tblG := List.mem_filter.mpr ⟨List.mem_of_getElem? (i := 460) (by decide +kernel), rfl⟩
set_option maxRecDepth 100000 in
theorem cdX0_aimBlock : Cond.code yX0_aimBlock cX0_aimBlock 8 none ∈ tblG := List.mem_filter.mpr ⟨List.mem_of_getElem? (i := 461) (rfl), rfl⟩
theorem ivX6_76 : InV RX6 76 yX0_aimBlock cX0_aimBlock 8 none 5 := ⟨mlX6_76, imX0_aimBlock, seX0_aimBlock, iniX0, cdX0_aimBlock, by decide +kernel⟩
theorem mlX6_80 : Cond.methodLink RX6 80 yX0_guardBlock ∈ tblG := List.mem_filter.mpr ⟨List.mem_of_getElem? (i := 470) (by decide +kernel), rfl⟩
theorem imX0_guardBlock : Cond.instanceMethod yX0_guardBlock ∈ tblG := List.mem_filter.mpr ⟨List.mem_of_getElem? (i := 471) (by decide +kernel), rfl⟩
theorem seX0_guardBlock : Cond.selects RX0 yX0_guardBlock yX0_guardBlock ∈ tblG := List.mem_filter.mpr ⟨List.mem_of_getElem? (i := 472) (by decide +kernel), rfl⟩
set_option maxRecDepth 100000 in
theorem cdX0_guardBlock : Cond.code yX0_guardBlock cX0_guardBlock 8 none ∈ tblG := List.mem_filter.mpr ⟨List.mem_of_getElem? (i := 473) (rfl), rfl⟩
theorem ivX6_80 : InV RX6 80 yX0_guardBlock cX0_guardBlock 8 none 5 := ⟨mlX6_80, imX0_guardBlock, seX0_guardBlock, iniX0, cdX0_guardBlock, by decide +kernel⟩
theorem mlX6_84 : Cond.methodLink RX6 84 yX6_demandTool ∈ tblG := List.mem_filter.mpr ⟨List.mem_of_getElem? (i := 481) (by decide +kernel), rfl⟩
theorem stX6_demandTool : Cond.static yX6_demandTool ∈ tblG := List.mem_filter.mpr ⟨List.mem_of_getElem? (i := 482) (by decide +kernel), rfl⟩
set_option maxRecDepth 100000 in
theorem cdX6_demandTool : Cond.code yX6_demandTool cX6_demandTool 1 none ∈ tblG := List.mem_filter.mpr ⟨List.mem_of_getElem? (i := 483) (rfl), rfl⟩
theorem ivX6_84 : InS RX6 84 yX6_demandTool cX6_demandTool 1 none 1 := ⟨mlX6_84, stX6_demandTool, iniX6, cdX6_demandTool, by decide +kernel⟩
theorem flX6_29 : Cond.fieldLink RX6 29 "RouterPaths" "tools" "[LRouterPaths$Tool;" ∈ tblG := List.mem_filter.mpr ⟨List.mem_of_getElem? (i := 243) (by decide +kernel), rfl⟩
theorem mlX6_91 : Cond.methodLink RX6 91 yX5_become ∈ tblG := List.mem_filter.mpr ⟨List.mem_of_getElem? (i := 487) (by decide +kernel), rfl⟩
theorem imX5_become : Cond.instanceMethod yX5_become ∈ tblG := List.mem_filter.mpr ⟨List.mem_of_getElem? (i := 488) (by decide +kernel), rfl⟩
theorem seX5_become : Cond.selects RX5 yX5_become yX5_become ∈ tblG := List.mem_filter.mpr ⟨List.mem_of_getElem? (i := 489) (by decide +kernel), rfl⟩
set_option maxRecDepth 100000 in
theorem cdX5_become : Cond.code yX5_become cX5_become 4 none ∈ tblG := List.mem_filter.mpr ⟨List.mem_of_getElem? (i := 490) (rfl), rfl⟩
theorem ivX6_91 : InV RX6 91 yX5_become cX5_become 4 none 2 := ⟨mlX6_91, imX5_become, seX5_become, iniX5, cdX5_become, by decide +kernel⟩
theorem flX6_103 : Cond.fieldLink RX6 103 "RouterPaths$Program" "count" "I" ∈ tblG := List.mem_filter.mpr ⟨List.mem_of_getElem? (i := 217) (by decide +kernel), rfl⟩
theorem flX6_44 : Cond.fieldLink RX6 44 "RouterPaths" "machine" "LRouterPaths$Machine;" ∈ tblG := List.mem_filter.mpr ⟨List.mem_of_getElem? (i := 245) (by decide +kernel), rfl⟩
theorem mlX6_112 : Cond.methodLink RX6 112 yX1_follow ∈ tblG := List.mem_filter.mpr ⟨List.mem_of_getElem? (i := 518) (by decide +kernel), rfl⟩
theorem imX1_follow : Cond.instanceMethod yX1_follow ∈ tblG := List.mem_filter.mpr ⟨List.mem_of_getElem? (i := 519) (by decide +kernel), rfl⟩
theorem seX1_follow : Cond.selects RX1 yX1_follow yX1_follow ∈ tblG := List.mem_filter.mpr ⟨List.mem_of_getElem? (i := 520) (by decide +kernel), rfl⟩
set_option maxRecDepth 100000 in
theorem cdX1_follow : Cond.code yX1_follow cX1_follow 6 (some .int) ∈ tblG := List.mem_filter.mpr ⟨List.mem_of_getElem? (i := 521) (rfl), rfl⟩
theorem ivX6_112 : InV RX6 112 yX1_follow cX1_follow 6 (some .int) 3 := ⟨mlX6_112, imX1_follow, seX1_follow, iniX1, cdX1_follow, by decide +kernel⟩
theorem mlX6_116 : Cond.methodLink RX6 116 yX6_demandWhat ∈ tblG := List.mem_filter.mpr ⟨List.mem_of_getElem? (i := 577) (by decide +kernel), rfl⟩
theorem stX6_demandWhat : Cond.static yX6_demandWhat ∈ tblG := List.mem_filter.mpr ⟨List.mem_of_getElem? (i := 578) (by decide +kernel), rfl⟩
set_option maxRecDepth 100000 in
theorem cdX6_demandWhat : Cond.code yX6_demandWhat cX6_demandWhat 2 none ∈ tblG := List.mem_filter.mpr ⟨List.mem_of_getElem? (i := 579) (rfl), rfl⟩
theorem ivX6_116 : InS RX6 116 yX6_demandWhat cX6_demandWhat 2 none 2 := ⟨mlX6_116, stX6_demandWhat, iniX6, cdX6_demandWhat, by decide +kernel⟩
theorem flX6_119 : Cond.fieldLink RX6 119 "RouterPaths$Machine" "hasRun" "Z" ∈ tblG := List.mem_filter.mpr ⟨List.mem_of_getElem? (i := 152) (by decide +kernel), rfl⟩
theorem flX6_125 : Cond.fieldLink RX6 125 "RouterPaths$Machine" "time" "I" ∈ tblG := List.mem_filter.mpr ⟨List.mem_of_getElem? (i := 154) (by decide +kernel), rfl⟩
theorem flX6_128 : Cond.fieldLink RX6 128 "RouterPaths$Machine" "ended" "I" ∈ tblG := List.mem_filter.mpr ⟨List.mem_of_getElem? (i := 156) (by decide +kernel), rfl⟩
theorem flX6_131 : Cond.fieldLink RX6 131 "RouterPaths$Machine" "x" "I" ∈ tblG := List.mem_filter.mpr ⟨List.mem_of_getElem? (i := 158) (by decide +kernel), rfl⟩
theorem flX6_134 : Cond.fieldLink RX6 134 "RouterPaths$Machine" "y" "I" ∈ tblG := List.mem_filter.mpr ⟨List.mem_of_getElem? (i := 160) (by decide +kernel), rfl⟩
theorem flX6_137 : Cond.fieldLink RX6 137 "RouterPaths$Machine" "z" "I" ∈ tblG := List.mem_filter.mpr ⟨List.mem_of_getElem? (i := 162) (by decide +kernel), rfl⟩
theorem flX6_140 : Cond.fieldLink RX6 140 "RouterPaths$Machine" "cut" "I" ∈ tblG := List.mem_filter.mpr ⟨List.mem_of_getElem? (i := 164) (by decide +kernel), rfl⟩
theorem mlX6_146 : Cond.methodLink RX6 146 yX0_placeOf ∈ tblG := List.mem_filter.mpr ⟨List.mem_of_getElem? (i := 589) (by decide +kernel), rfl⟩
theorem ivX6_146 : InV RX6 146 yX0_placeOf cX0_placeOf 3 (some .int) 2 := ⟨mlX6_146, imX0_placeOf, seX0_placeOf, iniX0, cdX0_placeOf, by decide +kernel⟩
theorem flX6_149 : Cond.fieldLink RX6 149 "RouterPaths$Grid" "heights" "[I" ∈ tblG := List.mem_filter.mpr ⟨List.mem_of_getElem? (i := 75) (by decide +kernel), rfl⟩
theorem flX6_153 : Cond.fieldLink RX6 153 "RouterPaths$Grid" "targets" "[I" ∈ tblG := List.mem_filter.mpr ⟨List.mem_of_getElem? (i := 77) (by decide +kernel), rfl⟩
theorem flX6_156 : Cond.fieldLink RX6 156 "RouterPaths$Grid" "kept" "[Z" ∈ tblG := List.mem_filter.mpr ⟨List.mem_of_getElem? (i := 79) (by decide +kernel), rfl⟩
theorem mlX6_160 : Cond.methodLink RX6 160 yX0_countOff ∈ tblG := List.mem_filter.mpr ⟨List.mem_of_getElem? (i := 597) (by decide +kernel), rfl⟩
theorem imX0_countOff : Cond.instanceMethod yX0_countOff ∈ tblG := List.mem_filter.mpr ⟨List.mem_of_getElem? (i := 598) (by decide +kernel), rfl⟩
theorem seX0_countOff : Cond.selects RX0 yX0_countOff yX0_countOff ∈ tblG := List.mem_filter.mpr ⟨List.mem_of_getElem? (i := 599) (by decide +kernel), rfl⟩
set_option maxRecDepth 100000 in
theorem cdX0_countOff : Cond.code yX0_countOff cX0_countOff 4 (some .int) ∈ tblG := List.mem_filter.mpr ⟨List.mem_of_getElem? (i := 600) (rfl), rfl⟩
theorem ivX6_160 : InV RX6 160 yX0_countOff cX0_countOff 4 (some .int) 1 := ⟨mlX6_160, imX0_countOff, seX0_countOff, iniX0, cdX0_countOff, by decide +kernel⟩
theorem mlX6_164 : Cond.methodLink RX6 164 yX0_firstOff ∈ tblG := List.mem_filter.mpr ⟨List.mem_of_getElem? (i := 605) (by decide +kernel), rfl⟩
theorem imX0_firstOff : Cond.instanceMethod yX0_firstOff ∈ tblG := List.mem_filter.mpr ⟨List.mem_of_getElem? (i := 606) (by decide +kernel), rfl⟩
theorem seX0_firstOff : Cond.selects RX0 yX0_firstOff yX0_firstOff ∈ tblG := List.mem_filter.mpr ⟨List.mem_of_getElem? (i := 607) (by decide +kernel), rfl⟩
set_option maxRecDepth 100000 in
theorem cdX0_firstOff : Cond.code yX0_firstOff cX0_firstOff 3 (some .int) ∈ tblG := List.mem_filter.mpr ⟨List.mem_of_getElem? (i := 608) (rfl), rfl⟩
theorem ivX6_164 : InV RX6 164 yX0_firstOff cX0_firstOff 3 (some .int) 1 := ⟨mlX6_164, imX0_firstOff, seX0_firstOff, iniX0, cdX0_firstOff, by decide +kernel⟩
theorem mlX6_167 : Cond.methodLink RX6 167 yX0_countReached ∈ tblG := List.mem_filter.mpr ⟨List.mem_of_getElem? (i := 616) (by decide +kernel), rfl⟩
theorem imX0_countReached : Cond.instanceMethod yX0_countReached ∈ tblG := List.mem_filter.mpr ⟨List.mem_of_getElem? (i := 617) (by decide +kernel), rfl⟩
theorem seX0_countReached : Cond.selects RX0 yX0_countReached yX0_countReached ∈ tblG := List.mem_filter.mpr ⟨List.mem_of_getElem? (i := 618) (by decide +kernel), rfl⟩
set_option maxRecDepth 100000 in
theorem cdX0_countReached : Cond.code yX0_countReached cX0_countReached 5 (some .int) ∈ tblG := List.mem_filter.mpr ⟨List.mem_of_getElem? (i := 619) (rfl), rfl⟩
theorem ivX6_167 : InV RX6 167 yX0_countReached cX0_countReached 5 (some .int) 1 := ⟨mlX6_167, imX0_countReached, seX0_countReached, iniX0, cdX0_countReached, by decide +kernel⟩
