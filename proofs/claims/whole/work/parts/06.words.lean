theorem flX0_9 : Cond.fieldLink RX0 9 "RouterPaths$Grid" "side" "I" ∈ tblG := List.mem_filter.mpr ⟨List.mem_of_getElem? (i := 71) (by decide +kernel), rfl⟩
theorem flX0_22 : Cond.fieldLink RX0 22 "RouterPaths$Grid" "targets" "[I" ∈ tblG := List.mem_filter.mpr ⟨List.mem_of_getElem? (i := 76) (by decide +kernel), rfl⟩
theorem mlX0_38 : Cond.methodLink RX0 38 yX0_placeOf ∈ tblG := List.mem_filter.mpr ⟨List.mem_of_getElem? (i := 462) (by decide +kernel), rfl⟩
theorem imX0_placeOf : Cond.instanceMethod yX0_placeOf ∈ tblG := List.mem_filter.mpr ⟨List.mem_of_getElem? (i := 337) (by decide +kernel), rfl⟩
theorem seX0_placeOf : Cond.selects RX0 yX0_placeOf yX0_placeOf ∈ tblG := List.mem_filter.mpr ⟨List.mem_of_getElem? (i := 338) (by decide +kernel), rfl⟩
theorem iniX0 : Cond.initialized RX0 ∈ tblG := List.mem_filter.mpr ⟨List.mem_of_getElem? (i := 38) (by decide +kernel), rfl⟩
set_option maxRecDepth 100000 in
theorem cdX0_placeOf : Cond.code yX0_placeOf cX0_placeOf 3 (some .int) ∈ tblG := List.mem_filter.mpr ⟨List.mem_of_getElem? (i := 339) (rfl), rfl⟩
theorem ivX0_38 : InV RX0 38 yX0_placeOf cX0_placeOf 3 (some .int) 2 := ⟨mlX0_38, imX0_placeOf, seX0_placeOf, iniX0, cdX0_placeOf, by decide +kernel⟩
theorem flX0_25 : Cond.fieldLink RX0 25 "RouterPaths$Grid" "kept" "[Z" ∈ tblG := List.mem_filter.mpr ⟨List.mem_of_getElem? (i := 78) (by decide +kernel), rfl⟩
theorem flX0_15 : Cond.fieldLink RX0 15 "RouterPaths$Grid" "cells" "I" ∈ tblG := List.mem_filter.mpr ⟨List.mem_of_getElem? (i := 72) (by decide +kernel), rfl⟩
theorem flX0_18 : Cond.fieldLink RX0 18 "RouterPaths$Grid" "heights" "[I" ∈ tblG := List.mem_filter.mpr ⟨List.mem_of_getElem? (i := 73) (by decide +kernel), rfl⟩
theorem mlX0_42 : Cond.methodLink RX0 42 yX0_isOff ∈ tblG := List.mem_filter.mpr ⟨List.mem_of_getElem? (i := 601) (by decide +kernel), rfl⟩
theorem imX0_isOff : Cond.instanceMethod yX0_isOff ∈ tblG := List.mem_filter.mpr ⟨List.mem_of_getElem? (i := 603) (by decide +kernel), rfl⟩
theorem seX0_isOff : Cond.selects RX0 yX0_isOff yX0_isOff ∈ tblG := List.mem_filter.mpr ⟨List.mem_of_getElem? (i := 18) (by decide +kernel), rfl⟩
set_option maxRecDepth 100000 in
theorem cdX0_isOff : Cond.code yX0_isOff cX0_isOff 3 (some .boolean) ∈ tblG := List.mem_filter.mpr ⟨List.mem_of_getElem? (i := 604) (rfl), rfl⟩
theorem ivX0_42 : InV RX0 42 yX0_isOff cX0_isOff 3 (some .boolean) 2 := ⟨mlX0_42, imX0_isOff, seX0_isOff, iniX0, cdX0_isOff, by decide +kernel⟩
theorem flX0_35 : Cond.fieldLink RX0 35 "RouterPaths$Grid" "discSize" "I" ∈ tblG := List.mem_filter.mpr ⟨List.mem_of_getElem? (i := 82) (by decide +kernel), rfl⟩
theorem flX0_46 : Cond.fieldLink RX0 46 "RouterPaths$Tool" "radius" "I" ∈ tblG := List.mem_filter.mpr ⟨List.mem_of_getElem? (i := 110) (by decide +kernel), rfl⟩
theorem mlX0_51 : Cond.methodLink RX0 51 Lib.Math.min.name ∈ tblG := List.mem_filter.mpr ⟨List.mem_of_getElem? (i := 547) (by decide +kernel), rfl⟩
theorem mst_min : Cond.static Lib.Math.min.name ∈ tblG := List.mem_filter.mpr ⟨List.mem_of_getElem? (i := 60) (by decide +kernel), rfl⟩
theorem mini : Cond.initialized "java/lang/Math" ∈ tblG := List.mem_filter.mpr ⟨List.mem_of_getElem? (i := 37) (by decide +kernel), rfl⟩
set_option maxRecDepth 100000 in
theorem mcd_min : Cond.code Lib.Math.min.name Lib.Math.min.code 2 (some .int) ∈ tblG := List.mem_filter.mpr ⟨List.mem_of_getElem? (i := 61) (rfl), rfl⟩
theorem mlX0_56 : Cond.methodLink RX0 56 Lib.Math.max.name ∈ tblG := List.mem_filter.mpr ⟨List.mem_of_getElem? (i := 548) (by decide +kernel), rfl⟩
theorem mst_max : Cond.static Lib.Math.max.name ∈ tblG := List.mem_filter.mpr ⟨List.mem_of_getElem? (i := 63) (by decide +kernel), rfl⟩
set_option maxRecDepth 100000 in
theorem mcd_max : Cond.code Lib.Math.max.name Lib.Math.max.code 2 (some .int) ∈ tblG := List.mem_filter.mpr ⟨List.mem_of_getElem? (i := 64) (rfl), rfl⟩
theorem flX0_59 : Cond.fieldLink RX0 59 "RouterPaths$Tool" "halfWidths" "[I" ∈ tblG := List.mem_filter.mpr ⟨List.mem_of_getElem? (i := 114) (by decide +kernel), rfl⟩
theorem mlX0_62 : Cond.methodLink RX0 62 Lib.Math.abs.name ∈ tblG := List.mem_filter.mpr ⟨List.mem_of_getElem? (i := 549) (by decide +kernel), rfl⟩
theorem mst_abs : Cond.static Lib.Math.abs.name ∈ tblG := List.mem_filter.mpr ⟨List.mem_of_getElem? (i := 534) (by decide +kernel), rfl⟩
set_option maxRecDepth 100000 in
theorem mcd_abs : Cond.code Lib.Math.abs.name Lib.Math.abs.code 1 (some .int) ∈ tblG := List.mem_filter.mpr ⟨List.mem_of_getElem? (i := 535) (rfl), rfl⟩
theorem flX0_32 : Cond.fieldLink RX0 32 "RouterPaths$Grid" "disc" "[I" ∈ tblG := List.mem_filter.mpr ⟨List.mem_of_getElem? (i := 81) (by decide +kernel), rfl⟩
theorem flX0_29 : Cond.fieldLink RX0 29 "RouterPaths$Grid" "marks" "[Z" ∈ tblG := List.mem_filter.mpr ⟨List.mem_of_getElem? (i := 80) (by decide +kernel), rfl⟩
theorem mlX0_66 : Cond.methodLink RX0 66 yX0_layDisc ∈ tblG := List.mem_filter.mpr ⟨List.mem_of_getElem? (i := 620) (by decide +kernel), rfl⟩
theorem imX0_layDisc : Cond.instanceMethod yX0_layDisc ∈ tblG := List.mem_filter.mpr ⟨List.mem_of_getElem? (i := 544) (by decide +kernel), rfl⟩
theorem seX0_layDisc : Cond.selects RX0 yX0_layDisc yX0_layDisc ∈ tblG := List.mem_filter.mpr ⟨List.mem_of_getElem? (i := 545) (by decide +kernel), rfl⟩
set_option maxRecDepth 100000 in
theorem cdX0_layDisc : Cond.code yX0_layDisc cX0_layDisc 9 none ∈ tblG := List.mem_filter.mpr ⟨List.mem_of_getElem? (i := 546) (rfl), rfl⟩
theorem ivX0_66 : InV RX0 66 yX0_layDisc cX0_layDisc 9 none 3 := ⟨mlX0_66, imX0_layDisc, seX0_layDisc, iniX0, cdX0_layDisc, by decide +kernel⟩
theorem mlX0_70 : Cond.methodLink RX0 70 yX0_discHasKept ∈ tblG := List.mem_filter.mpr ⟨List.mem_of_getElem? (i := 621) (by decide +kernel), rfl⟩
theorem imX0_discHasKept : Cond.instanceMethod yX0_discHasKept ∈ tblG := List.mem_filter.mpr ⟨List.mem_of_getElem? (i := 623) (by decide +kernel), rfl⟩
theorem seX0_discHasKept : Cond.selects RX0 yX0_discHasKept yX0_discHasKept ∈ tblG := List.mem_filter.mpr ⟨List.mem_of_getElem? (i := 19) (by decide +kernel), rfl⟩
set_option maxRecDepth 100000 in
theorem cdX0_discHasKept : Cond.code yX0_discHasKept cX0_discHasKept 2 (some .boolean) ∈ tblG := List.mem_filter.mpr ⟨List.mem_of_getElem? (i := 624) (rfl), rfl⟩
theorem ivX0_70 : InV RX0 70 yX0_discHasKept cX0_discHasKept 2 (some .boolean) 0 := ⟨mlX0_70, imX0_discHasKept, seX0_discHasKept, iniX0, cdX0_discHasKept, by decide +kernel⟩
theorem mlX0_74 : Cond.methodLink RX0 74 yX0_highestTargetInDisc ∈ tblG := List.mem_filter.mpr ⟨List.mem_of_getElem? (i := 625) (by decide +kernel), rfl⟩
theorem imX0_highestTargetInDisc : Cond.instanceMethod yX0_highestTargetInDisc ∈ tblG := List.mem_filter.mpr ⟨List.mem_of_getElem? (i := 627) (by decide +kernel), rfl⟩
theorem seX0_highestTargetInDisc : Cond.selects RX0 yX0_highestTargetInDisc yX0_highestTargetInDisc ∈ tblG := List.mem_filter.mpr ⟨List.mem_of_getElem? (i := 20) (by decide +kernel), rfl⟩
set_option maxRecDepth 100000 in
theorem cdX0_highestTargetInDisc : Cond.code yX0_highestTargetInDisc cX0_highestTargetInDisc 3 (some .int) ∈ tblG := List.mem_filter.mpr ⟨List.mem_of_getElem? (i := 628) (rfl), rfl⟩
theorem ivX0_74 : InV RX0 74 yX0_highestTargetInDisc cX0_highestTargetInDisc 3 (some .int) 0 := ⟨mlX0_74, imX0_highestTargetInDisc, seX0_highestTargetInDisc, iniX0, cdX0_highestTargetInDisc, by decide +kernel⟩
theorem mlX0_78 : Cond.methodLink RX0 78 yX0_markReached ∈ tblG := List.mem_filter.mpr ⟨List.mem_of_getElem? (i := 629) (by decide +kernel), rfl⟩
theorem imX0_markReached : Cond.instanceMethod yX0_markReached ∈ tblG := List.mem_filter.mpr ⟨List.mem_of_getElem? (i := 631) (by decide +kernel), rfl⟩
theorem seX0_markReached : Cond.selects RX0 yX0_markReached yX0_markReached ∈ tblG := List.mem_filter.mpr ⟨List.mem_of_getElem? (i := 21) (by decide +kernel), rfl⟩
set_option maxRecDepth 100000 in
theorem cdX0_markReached : Cond.code yX0_markReached cX0_markReached 5 (some .int) ∈ tblG := List.mem_filter.mpr ⟨List.mem_of_getElem? (i := 632) (rfl), rfl⟩
theorem ivX0_78 : InV RX0 78 yX0_markReached cX0_markReached 5 (some .int) 1 := ⟨mlX0_78, imX0_markReached, seX0_markReached, iniX0, cdX0_markReached, by decide +kernel⟩
theorem flX5_9 : Cond.fieldLink RX5 9 "RouterPaths$Tool" "radius" "I" ∈ tblG := List.mem_filter.mpr ⟨List.mem_of_getElem? (i := 109) (by decide +kernel), rfl⟩
theorem flX5_15 : Cond.fieldLink RX5 15 "RouterPaths$Tool" "feed" "I" ∈ tblG := List.mem_filter.mpr ⟨List.mem_of_getElem? (i := 111) (by decide +kernel), rfl⟩
theorem flX5_18 : Cond.fieldLink RX5 18 "RouterPaths$Tool" "halfWidths" "[I" ∈ tblG := List.mem_filter.mpr ⟨List.mem_of_getElem? (i := 113) (by decide +kernel), rfl⟩
theorem mlX5_22 : Cond.methodLink RX5 22 yX5_halfWidthAt ∈ tblG := List.mem_filter.mpr ⟨List.mem_of_getElem? (i := 491) (by decide +kernel), rfl⟩
theorem stX5_halfWidthAt : Cond.static yX5_halfWidthAt ∈ tblG := List.mem_filter.mpr ⟨List.mem_of_getElem? (i := 492) (by decide +kernel), rfl⟩
theorem iniX5 : Cond.initialized RX5 ∈ tblG := List.mem_filter.mpr ⟨List.mem_of_getElem? (i := 39) (by decide +kernel), rfl⟩
set_option maxRecDepth 100000 in
theorem cdX5_halfWidthAt : Cond.code yX5_halfWidthAt cX5_halfWidthAt 4 (some .int) ∈ tblG := List.mem_filter.mpr ⟨List.mem_of_getElem? (i := 493) (rfl), rfl⟩
theorem ivX5_22 : InS RX5 22 yX5_halfWidthAt cX5_halfWidthAt 4 (some .int) 2 := ⟨mlX5_22, stX5_halfWidthAt, iniX5, cdX5_halfWidthAt, by decide +kernel⟩
