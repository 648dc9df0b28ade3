theorem mlX5_3 : Cond.methodLink RX5 3 objectInit ∈ tblG := List.mem_filter.mpr ⟨List.mem_of_getElem? (i := 108) (by decide +kernel), rfl⟩
theorem im_obj : Cond.instanceMethod objectInit ∈ tblG := List.mem_filter.mpr ⟨List.mem_of_getElem? (i := 57) (by decide +kernel), rfl⟩
set_option maxRecDepth 100000 in
theorem cd_obj : Cond.code objectInit ⟨#[0xb1]⟩ 1 none ∈ tblG := List.mem_filter.mpr ⟨List.mem_of_getElem? (i := 58) (rfl), rfl⟩
theorem wac_int : Cond.arrayClass (newarray.typeOf .int) ∈ tblG := List.mem_filter.mpr ⟨List.mem_of_getElem? (i := 100) (by decide +kernel), rfl⟩
theorem mlX0_3 : Cond.methodLink RX0 3 objectInit ∈ tblG := List.mem_filter.mpr ⟨List.mem_of_getElem? (i := 70) (by decide +kernel), rfl⟩
theorem wac_boolean : Cond.arrayClass (newarray.typeOf .boolean) ∈ tblG := List.mem_filter.mpr ⟨List.mem_of_getElem? (i := 101) (by decide +kernel), rfl⟩
theorem mlX4_3 : Cond.methodLink RX4 3 objectInit ∈ tblG := List.mem_filter.mpr ⟨List.mem_of_getElem? (i := 127) (by decide +kernel), rfl⟩
theorem mlX2_1 : Cond.methodLink RX2 1 objectInit ∈ tblG := List.mem_filter.mpr ⟨List.mem_of_getElem? (i := 188) (by decide +kernel), rfl⟩
theorem mlX3_3 : Cond.methodLink RX3 3 objectInit ∈ tblG := List.mem_filter.mpr ⟨List.mem_of_getElem? (i := 213) (by decide +kernel), rfl⟩
theorem wac_char : Cond.arrayClass (newarray.typeOf .char) ∈ tblG := List.mem_filter.mpr ⟨List.mem_of_getElem? (i := 241) (by decide +kernel), rfl⟩
theorem mlX1_3 : Cond.methodLink RX1 3 objectInit ∈ tblG := List.mem_filter.mpr ⟨List.mem_of_getElem? (i := 146) (by decide +kernel), rfl⟩
theorem mlX7_1 : Cond.methodLink RX7 1 objectInit ∈ tblG := List.mem_filter.mpr ⟨List.mem_of_getElem? (i := 638) (by decide +kernel), rfl⟩
theorem mlX6_1 : Cond.methodLink RX6 1 objectInit ∈ tblG := List.mem_filter.mpr ⟨List.mem_of_getElem? (i := 56) (by decide +kernel), rfl⟩
theorem mlX6_9 : Cond.methodLink RX6 9 Lib.Math.min.name ∈ tblG := List.mem_filter.mpr ⟨List.mem_of_getElem? (i := 59) (by decide +kernel), rfl⟩
theorem mlX6_15 : Cond.methodLink RX6 15 Lib.Math.max.name ∈ tblG := List.mem_filter.mpr ⟨List.mem_of_getElem? (i := 62) (by decide +kernel), rfl⟩
theorem clX6_18 : Cond.classLink RX6 18 RX0 ∈ tblG := List.mem_filter.mpr ⟨List.mem_of_getElem? (i := 65) (by decide +kernel), rfl⟩
theorem insX0 : Cond.instantiable RX0 8 ∈ tblG := List.mem_filter.mpr ⟨List.mem_of_getElem? (i := 66) (by decide +kernel), rfl⟩
theorem mlX6_20 : Cond.methodLink RX6 20 yX0_init ∈ tblG := List.mem_filter.mpr ⟨List.mem_of_getElem? (i := 67) (by decide +kernel), rfl⟩
theorem imX0_init : Cond.instanceMethod yX0_init ∈ tblG := List.mem_filter.mpr ⟨List.mem_of_getElem? (i := 68) (by decide +kernel), rfl⟩
set_option maxRecDepth 100000 in
theorem cdX0_init : Cond.code yX0_init cX0_init 3 none ∈ tblG := List.mem_filter.mpr ⟨List.mem_of_getElem? (i := 69) (rfl), rfl⟩
theorem clX6_27 : Cond.classLink RX6 27 RX5 ∈ tblG := List.mem_filter.mpr ⟨List.mem_of_getElem? (i := 102) (by decide +kernel), rfl⟩
theorem insX5 : Cond.instantiable RX5 3 ∈ tblG := List.mem_filter.mpr ⟨List.mem_of_getElem? (i := 104) (by decide +kernel), rfl⟩
theorem mlX6_33 : Cond.methodLink RX6 33 yX5_init ∈ tblG := List.mem_filter.mpr ⟨List.mem_of_getElem? (i := 105) (by decide +kernel), rfl⟩
theorem imX5_init : Cond.instanceMethod yX5_init ∈ tblG := List.mem_filter.mpr ⟨List.mem_of_getElem? (i := 106) (by decide +kernel), rfl⟩
set_option maxRecDepth 100000 in
theorem cdX5_init : Cond.code yX5_init cX5_init 1 none ∈ tblG := List.mem_filter.mpr ⟨List.mem_of_getElem? (i := 107) (rfl), rfl⟩
theorem clX6_34 : Cond.classLink RX6 34 RX4 ∈ tblG := List.mem_filter.mpr ⟨List.mem_of_getElem? (i := 122) (by decide +kernel), rfl⟩
theorem insX4 : Cond.instantiable RX4 4 ∈ tblG := List.mem_filter.mpr ⟨List.mem_of_getElem? (i := 123) (by decide +kernel), rfl⟩
theorem mlX6_36 : Cond.methodLink RX6 36 yX4_init ∈ tblG := List.mem_filter.mpr ⟨List.mem_of_getElem? (i := 124) (by decide +kernel), rfl⟩
theorem imX4_init : Cond.instanceMethod yX4_init ∈ tblG := List.mem_filter.mpr ⟨List.mem_of_getElem? (i := 125) (by decide +kernel), rfl⟩
set_option maxRecDepth 100000 in
theorem cdX4_init : Cond.code yX4_init cX4_init 2 none ∈ tblG := List.mem_filter.mpr ⟨List.mem_of_getElem? (i := 126) (rfl), rfl⟩
theorem clX6_41 : Cond.classLink RX6 41 RX1 ∈ tblG := List.mem_filter.mpr ⟨List.mem_of_getElem? (i := 141) (by decide +kernel), rfl⟩
theorem insX1 : Cond.instantiable RX1 8 ∈ tblG := List.mem_filter.mpr ⟨List.mem_of_getElem? (i := 142) (by decide +kernel), rfl⟩
theorem mlX6_43 : Cond.methodLink RX6 43 yX1_init ∈ tblG := List.mem_filter.mpr ⟨List.mem_of_getElem? (i := 143) (by decide +kernel), rfl⟩
theorem imX1_init : Cond.instanceMethod yX1_init ∈ tblG := List.mem_filter.mpr ⟨List.mem_of_getElem? (i := 144) (by decide +kernel), rfl⟩
set_option maxRecDepth 100000 in
theorem cdX1_init : Cond.code yX1_init cX1_init 1 none ∈ tblG := List.mem_filter.mpr ⟨List.mem_of_getElem? (i := 145) (rfl), rfl⟩
theorem clX6_48 : Cond.classLink RX6 48 RX2 ∈ tblG := List.mem_filter.mpr ⟨List.mem_of_getElem? (i := 183) (by decide +kernel), rfl⟩
theorem insX2 : Cond.instantiable RX2 6 ∈ tblG := List.mem_filter.mpr ⟨List.mem_of_getElem? (i := 184) (by decide +kernel), rfl⟩
theorem mlX6_50 : Cond.methodLink RX6 50 yX2_init ∈ tblG := List.mem_filter.mpr ⟨List.mem_of_getElem? (i := 185) (by decide +kernel), rfl⟩
theorem imX2_init : Cond.instanceMethod yX2_init ∈ tblG := List.mem_filter.mpr ⟨List.mem_of_getElem? (i := 186) (by decide +kernel), rfl⟩
set_option maxRecDepth 100000 in
theorem cdX2_init : Cond.code yX2_init cX2_init 2 none ∈ tblG := List.mem_filter.mpr ⟨List.mem_of_getElem? (i := 187) (rfl), rfl⟩
theorem clX6_55 : Cond.classLink RX6 55 RX3 ∈ tblG := List.mem_filter.mpr ⟨List.mem_of_getElem? (i := 208) (by decide +kernel), rfl⟩
theorem insX3 : Cond.instantiable RX3 6 ∈ tblG := List.mem_filter.mpr ⟨List.mem_of_getElem? (i := 209) (by decide +kernel), rfl⟩
theorem mlX6_57 : Cond.methodLink RX6 57 yX3_init ∈ tblG := List.mem_filter.mpr ⟨List.mem_of_getElem? (i := 210) (by decide +kernel), rfl⟩
theorem imX3_init : Cond.instanceMethod yX3_init ∈ tblG := List.mem_filter.mpr ⟨List.mem_of_getElem? (i := 211) (by decide +kernel), rfl⟩
set_option maxRecDepth 100000 in
theorem cdX3_init : Cond.code yX3_init cX3_init 1 none ∈ tblG := List.mem_filter.mpr ⟨List.mem_of_getElem? (i := 212) (rfl), rfl⟩
theorem iiX6_20 : InI RX6 20 yX0_init cX0_init 3 1 := ⟨mlX6_20, imX0_init, iniX0, cdX0_init, by decide +kernel, by decide +kernel⟩
theorem iiX6_33 : InI RX6 33 yX5_init cX5_init 1 0 := ⟨mlX6_33, imX5_init, iniX5, cdX5_init, by decide +kernel, by decide +kernel⟩
theorem iiX6_36 : InI RX6 36 yX4_init cX4_init 2 1 := ⟨mlX6_36, imX4_init, iniX4, cdX4_init, by decide +kernel, by decide +kernel⟩
theorem iiX6_43 : InI RX6 43 yX1_init cX1_init 1 0 := ⟨mlX6_43, imX1_init, iniX1, cdX1_init, by decide +kernel, by decide +kernel⟩
theorem iiX6_50 : InI RX6 50 yX2_init cX2_init 2 1 := ⟨mlX6_50, imX2_init, iniX2, cdX2_init, by decide +kernel, by decide +kernel⟩
theorem iiX6_57 : InI RX6 57 yX3_init cX3_init 1 0 := ⟨mlX6_57, imX3_init, iniX3, cdX3_init, by decide +kernel, by decide +kernel⟩
