theorem mlX5_3 : Cond.methodLink RX5 3 objectInit ∈ tblG := List.mem_filter.mpr ⟨List.mem_of_getElem? (i := 108) (by decide +kernel), rfl⟩
theorem im_obj : Cond.instanceMethod objectInit ∈ tblG := List.mem_filter.mpr ⟨List.mem_of_getElem? (i := 57) (by decide +kernel), rfl⟩
set_option maxRecDepth 100000 in
theorem cd_obj : Cond.code objectInit ⟨#[0xb1]⟩ 1 none ∈ tblG := List.mem_filter.mpr ⟨List.mem_of_getElem? (i := 58) (rfl), rfl⟩
theorem wac_int : Cond.arrayClass (newarray.typeOf .int) ∈ tblG := List.mem_filter.mpr ⟨List.mem_of_getElem? (i := 100) (by decide +kernel), rfl⟩
theorem mlX0_3 : Cond.methodLink RX0 3 objectInit ∈ tblG := List.mem_filter.mpr ⟨List.mem_of_getElem? (i := 70) (by decide +kernel), rfl⟩
theorem wac_boolean : Cond.arrayClass (newarray.typeOf .boolean) ∈ tblG := List.mem_filter.mpr ⟨List.mem_of_getElem? (i := 101) (by decide +kernel), rfl⟩
theorem mlX4_3 : Cond.methodLink RX4 3 objectInit ∈ tblG := List.mem_filter.mpr ⟨List.mem_of_getElem? (i := 127) (by decide +kernel), rfl⟩
theorem mlX2_1 : Cond.methodLink RX2 1 objectInit ∈ tblG := List.mem_filter.mpr ⟨List.mem_of_getElem? (i := 188) (by decide +kernel), rfl⟩
theorem mlX3_3 : Cond.methodLink RX3 3 objectInit ∈ tblG := List.mem_filter.mpr ⟨List.mem_of_getElem? (i := 213) (by decide +kernel), rfl⟩
theorem wac_char : Cond.arrayClass (newarray.typeOf .char) ∈ tblG := List.mem_filter.mpr ⟨List.mem_of_getElem? (i := 241) (by decide +kernel), rfl⟩
