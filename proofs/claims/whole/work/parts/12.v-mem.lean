set_option maxRecDepth 20000 in
theorem mw30 : Cond.initialized "DemoTapeModel" ∈ wa := List.mem_filter.mpr ⟨List.mem_of_getElem? (i := 30) (by decide +kernel), by decide +kernel⟩
set_option maxRecDepth 20000 in
theorem mw384 : Cond.fieldLink "DemoTapeModel" 51 "DemoTapeModel" "thrown" "I" ∈ wa := List.mem_filter.mpr ⟨List.mem_of_getElem? (i := 384) (by decide +kernel), by decide +kernel⟩
set_option maxRecDepth 20000 in
theorem mw385 : Cond.fieldLink "DemoTapeModel" 7 "DemoTapeModel" "start" "[I" ∈ wa := List.mem_filter.mpr ⟨List.mem_of_getElem? (i := 385) (by decide +kernel), by decide +kernel⟩
set_option maxRecDepth 20000 in
theorem mw386 : Cond.fieldLink "DemoTapeModel" 13 "DemoTapeModel" "aheads" "[I" ∈ wa := List.mem_filter.mpr ⟨List.mem_of_getElem? (i := 386) (by decide +kernel), by decide +kernel⟩
set_option maxRecDepth 20000 in
theorem mw387 : Cond.fieldLink "DemoTapeModel" 16 "DemoTapeModel" "asides" "[I" ∈ wa := List.mem_filter.mpr ⟨List.mem_of_getElem? (i := 387) (by decide +kernel), by decide +kernel⟩
set_option maxRecDepth 20000 in
theorem mw388 : Cond.fieldLink "DemoTapeModel" 19 "DemoTapeModel" "turns" "[I" ∈ wa := List.mem_filter.mpr ⟨List.mem_of_getElem? (i := 388) (by decide +kernel), by decide +kernel⟩
set_option maxRecDepth 20000 in
theorem mw389 : Cond.fieldLink "DemoTapeModel" 22 "DemoTapeModel" "uses" "[Z" ∈ wa := List.mem_filter.mpr ⟨List.mem_of_getElem? (i := 389) (by decide +kernel), by decide +kernel⟩
set_option maxRecDepth 20000 in
theorem mw390 : Cond.fieldLink "DemoTapeModel" 58 "DemoTapeModel" "many" "I" ∈ wa := List.mem_filter.mpr ⟨List.mem_of_getElem? (i := 390) (by decide +kernel), by decide +kernel⟩
set_option maxRecDepth 20000 in
theorem mw393 : Cond.fieldLink "DemoTapeModel" 29 "DemoTapeModel" "input" "[I" ∈ wa := List.mem_filter.mpr ⟨List.mem_of_getElem? (i := 393) (by decide +kernel), by decide +kernel⟩
set_option maxRecDepth 20000 in
theorem mw394 : Cond.fieldLink "DemoTapeModel" 85 "DemoTapeModel" "size" "I" ∈ wa := List.mem_filter.mpr ⟨List.mem_of_getElem? (i := 394) (by decide +kernel), by decide +kernel⟩
set_option maxRecDepth 20000 in
theorem mw460 : Cond.methodLink "DemoTapeModel" 54 ⟨"DemoTapeModel", "isIn", "(II)Z"⟩ ∈ wa := List.mem_filter.mpr ⟨List.mem_of_getElem? (i := 460) (by decide +kernel), by decide +kernel⟩
set_option maxRecDepth 20000 in
theorem mw461 : Cond.static ⟨"DemoTapeModel", "isIn", "(II)Z"⟩ ∈ wa := List.mem_filter.mpr ⟨List.mem_of_getElem? (i := 461) (by decide +kernel), by decide +kernel⟩
set_option maxRecDepth 20000 in
theorem mw462 : Cond.code ⟨"DemoTapeModel", "isIn", "(II)Z"⟩ prog_7_method_3_code 2 (some .boolean) ∈ wa := List.mem_filter.mpr ⟨List.mem_of_getElem? (i := 462) (by decide +kernel), by decide +kernel⟩
