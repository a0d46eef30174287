set_option maxRecDepth 20000 in
theorem mw12 : Cond.selects "DemoTapeModel" ⟨"DemoTapeModel", "put", "(I)V"⟩ ⟨"DemoTapeModel", "put", "(I)V"⟩ ∈ wa := List.mem_filter.mpr ⟨List.mem_of_getElem? (i := 12) (by decide +kernel), by decide +kernel⟩
set_option maxRecDepth 20000 in
theorem mw13 : Cond.selects "DemoTapeModel" ⟨"DemoTapeModel", "run", "(I)I"⟩ ⟨"DemoTapeModel", "run", "(I)I"⟩ ∈ wa := List.mem_filter.mpr ⟨List.mem_of_getElem? (i := 13) (by decide +kernel), by decide +kernel⟩
set_option maxRecDepth 20000 in
theorem mw14 : Cond.selects "DemoTapeModel" ⟨"DemoTapeModel", "sum", "(I)V"⟩ ⟨"DemoTapeModel", "sum", "(I)V"⟩ ∈ wa := List.mem_filter.mpr ⟨List.mem_of_getElem? (i := 14) (by decide +kernel), by decide +kernel⟩
set_option maxRecDepth 20000 in
theorem mw15 : Cond.selects "DemoTapeModel" ⟨"DemoTapeModel", "checkByte", "(I)I"⟩ ⟨"DemoTapeModel", "checkByte", "(I)I"⟩ ∈ wa := List.mem_filter.mpr ⟨List.mem_of_getElem? (i := 15) (by decide +kernel), by decide +kernel⟩
set_option maxRecDepth 20000 in
theorem mw22 : Cond.selects "DemoTapeModel" ⟨"DemoTapeModel", "groups", "()I"⟩ ⟨"DemoTapeModel", "groups", "()I"⟩ ∈ wa := List.mem_filter.mpr ⟨List.mem_of_getElem? (i := 22) (by decide +kernel), by decide +kernel⟩
set_option maxRecDepth 20000 in
theorem mw23 : Cond.selects "DemoTapeModel" ⟨"DemoTapeModel", "using", "()I"⟩ ⟨"DemoTapeModel", "using", "()I"⟩ ∈ wa := List.mem_filter.mpr ⟨List.mem_of_getElem? (i := 23) (by decide +kernel), by decide +kernel⟩
set_option maxRecDepth 20000 in
theorem mw30 : Cond.initialized "DemoTapeModel" ∈ wa := List.mem_filter.mpr ⟨List.mem_of_getElem? (i := 30) (by decide +kernel), by decide +kernel⟩
set_option maxRecDepth 20000 in
theorem mw384 : Cond.fieldLink "DemoTapeModel" 51 "DemoTapeModel" "thrown" "I" ∈ wa := List.mem_filter.mpr ⟨List.mem_of_getElem? (i := 384) (by decide +kernel), by decide +kernel⟩
set_option maxRecDepth 20000 in
theorem mw385 : Cond.fieldLink "DemoTapeModel" 7 "DemoTapeModel" "start" "[I" ∈ wa := List.mem_filter.mpr ⟨List.mem_of_getElem? (i := 385) (by decide +kernel), by decide +kernel⟩
set_option maxRecDepth 20000 in
theorem mw386 : Cond.fieldLink "DemoTapeModel" 13 "DemoTapeModel" "aheads" "[I" ∈ wa := List.mem_filter.mpr ⟨List.mem_of_getElem? (i := 386) (by decide +kernel), by decide +kernel⟩
set_option maxRecDepth 20000 in
theorem mw387 : Cond.fieldLink "DemoTapeModel" 16 "DemoTapeModel" "asides" "[I" ∈ wa := List.mem_filter.mpr ⟨List.mem_of_getElem? (i := 387) (by decide +kernel), by decide +kernel⟩
set_option maxRecDepth 20000 in
theorem mw388 : Cond.fieldLink "DemoTapeModel" 19 "DemoTapeModel" "turns" "[I" ∈ wa := List.mem_filter.mpr ⟨List.mem_of_getElem? (i := 388) (by decide +kernel), by decide +kernel⟩
set_option maxRecDepth 20000 in
theorem mw389 : Cond.fieldLink "DemoTapeModel" 22 "DemoTapeModel" "uses" "[Z" ∈ wa := List.mem_filter.mpr ⟨List.mem_of_getElem? (i := 389) (by decide +kernel), by decide +kernel⟩
set_option maxRecDepth 20000 in
theorem mw390 : Cond.fieldLink "DemoTapeModel" 58 "DemoTapeModel" "many" "I" ∈ wa := List.mem_filter.mpr ⟨List.mem_of_getElem? (i := 390) (by decide +kernel), by decide +kernel⟩
set_option maxRecDepth 20000 in
theorem mw391 : Cond.fieldLink "DemoTapeModel" 26 "DemoTapeModel" "output" "[I" ∈ wa := List.mem_filter.mpr ⟨List.mem_of_getElem? (i := 391) (by decide +kernel), by decide +kernel⟩
set_option maxRecDepth 20000 in
theorem mw392 : Cond.fieldLink "DemoTapeModel" 61 "DemoTapeModel" "written" "I" ∈ wa := List.mem_filter.mpr ⟨List.mem_of_getElem? (i := 392) (by decide +kernel), by decide +kernel⟩
set_option maxRecDepth 20000 in
theorem mw393 : Cond.fieldLink "DemoTapeModel" 29 "DemoTapeModel" "input" "[I" ∈ wa := List.mem_filter.mpr ⟨List.mem_of_getElem? (i := 393) (by decide +kernel), by decide +kernel⟩
set_option maxRecDepth 20000 in
theorem mw394 : Cond.fieldLink "DemoTapeModel" 85 "DemoTapeModel" "size" "I" ∈ wa := List.mem_filter.mpr ⟨List.mem_of_getElem? (i := 394) (by decide +kernel), by decide +kernel⟩
set_option maxRecDepth 20000 in
theorem mw402 : Cond.fieldLink "DemoTapeModel" 90 "DemoTapeModel" "fault" "I" ∈ wa := List.mem_filter.mpr ⟨List.mem_of_getElem? (i := 402) (by decide +kernel), by decide +kernel⟩
set_option maxRecDepth 20000 in
theorem mw403 : Cond.fieldLink "DemoTapeModel" 47 "DemoTapeModel" "place" "I" ∈ wa := List.mem_filter.mpr ⟨List.mem_of_getElem? (i := 403) (by decide +kernel), by decide +kernel⟩
set_option maxRecDepth 20000 in
theorem mw404 : Cond.fieldLink "DemoTapeModel" 64 "DemoTapeModel" "a" "I" ∈ wa := List.mem_filter.mpr ⟨List.mem_of_getElem? (i := 404) (by decide +kernel), by decide +kernel⟩
set_option maxRecDepth 20000 in
theorem mw405 : Cond.fieldLink "DemoTapeModel" 68 "DemoTapeModel" "b" "I" ∈ wa := List.mem_filter.mpr ⟨List.mem_of_getElem? (i := 405) (by decide +kernel), by decide +kernel⟩
set_option maxRecDepth 20000 in
theorem mw460 : Cond.methodLink "DemoTapeModel" 54 ⟨"DemoTapeModel", "isIn", "(II)Z"⟩ ∈ wa := List.mem_filter.mpr ⟨List.mem_of_getElem? (i := 460) (by decide +kernel), by decide +kernel⟩
set_option maxRecDepth 20000 in
theorem mw461 : Cond.static ⟨"DemoTapeModel", "isIn", "(II)Z"⟩ ∈ wa := List.mem_filter.mpr ⟨List.mem_of_getElem? (i := 461) (by decide +kernel), by decide +kernel⟩
set_option maxRecDepth 20000 in
theorem mw462 : Cond.code ⟨"DemoTapeModel", "isIn", "(II)Z"⟩ prog_7_method_3_code 2 (some .boolean) ∈ wa := List.mem_filter.mpr ⟨List.mem_of_getElem? (i := 462) (by decide +kernel), by decide +kernel⟩
set_option maxRecDepth 20000 in
theorem mw475 : Cond.methodLink "DemoTapeModel" 71 ⟨"DemoTapeModel", "put", "(I)V"⟩ ∈ wa := List.mem_filter.mpr ⟨List.mem_of_getElem? (i := 475) (by decide +kernel), by decide +kernel⟩
set_option maxRecDepth 20000 in
theorem mw477 : Cond.instanceMethod ⟨"DemoTapeModel", "put", "(I)V"⟩ ∈ wa := List.mem_filter.mpr ⟨List.mem_of_getElem? (i := 477) (by decide +kernel), by decide +kernel⟩
set_option maxRecDepth 20000 in
theorem mw478 : Cond.code ⟨"DemoTapeModel", "put", "(I)V"⟩ prog_7_method_9_code 2 none ∈ wa := List.mem_filter.mpr ⟨List.mem_of_getElem? (i := 478) (by decide +kernel), by decide +kernel⟩
set_option maxRecDepth 20000 in
theorem mw479 : Cond.methodLink "DemoTapeModel" 75 ⟨"DemoTapeModel", "run", "(I)I"⟩ ∈ wa := List.mem_filter.mpr ⟨List.mem_of_getElem? (i := 479) (by decide +kernel), by decide +kernel⟩
set_option maxRecDepth 20000 in
theorem mw481 : Cond.instanceMethod ⟨"DemoTapeModel", "run", "(I)I"⟩ ∈ wa := List.mem_filter.mpr ⟨List.mem_of_getElem? (i := 481) (by decide +kernel), by decide +kernel⟩
set_option maxRecDepth 20000 in
theorem mw482 : Cond.code ⟨"DemoTapeModel", "run", "(I)I"⟩ prog_7_method_8_code 3 (some .int) ∈ wa := List.mem_filter.mpr ⟨List.mem_of_getElem? (i := 482) (by decide +kernel), by decide +kernel⟩
set_option maxRecDepth 20000 in
theorem mw483 : Cond.methodLink "DemoTapeModel" 79 ⟨"DemoTapeModel", "sum", "(I)V"⟩ ∈ wa := List.mem_filter.mpr ⟨List.mem_of_getElem? (i := 483) (by decide +kernel), by decide +kernel⟩
set_option maxRecDepth 20000 in
theorem mw485 : Cond.instanceMethod ⟨"DemoTapeModel", "sum", "(I)V"⟩ ∈ wa := List.mem_filter.mpr ⟨List.mem_of_getElem? (i := 485) (by decide +kernel), by decide +kernel⟩
set_option maxRecDepth 20000 in
theorem mw486 : Cond.code ⟨"DemoTapeModel", "sum", "(I)V"⟩ prog_7_method_10_code 2 none ∈ wa := List.mem_filter.mpr ⟨List.mem_of_getElem? (i := 486) (by decide +kernel), by decide +kernel⟩
set_option maxRecDepth 20000 in
theorem mw487 : Cond.constant "DemoTapeModel" 67 (65521) ∈ wa := List.mem_filter.mpr ⟨List.mem_of_getElem? (i := 487) (by decide +kernel), by decide +kernel⟩
set_option maxRecDepth 20000 in
theorem mw488 : Cond.methodLink "DemoTapeModel" 82 ⟨"DemoTapeModel", "checkByte", "(I)I"⟩ ∈ wa := List.mem_filter.mpr ⟨List.mem_of_getElem? (i := 488) (by decide +kernel), by decide +kernel⟩
set_option maxRecDepth 20000 in
theorem mw490 : Cond.instanceMethod ⟨"DemoTapeModel", "checkByte", "(I)I"⟩ ∈ wa := List.mem_filter.mpr ⟨List.mem_of_getElem? (i := 490) (by decide +kernel), by decide +kernel⟩
set_option maxRecDepth 20000 in
theorem mw491 : Cond.code ⟨"DemoTapeModel", "checkByte", "(I)I"⟩ prog_7_method_11_code 3 (some .int) ∈ wa := List.mem_filter.mpr ⟨List.mem_of_getElem? (i := 491) (by decide +kernel), by decide +kernel⟩
set_option maxRecDepth 20000 in
theorem mw496 : Cond.constantLong "DemoTapeModel" 88 (255 : Int64) ∈ wa := List.mem_filter.mpr ⟨List.mem_of_getElem? (i := 496) (by decide +kernel), by decide +kernel⟩
set_option maxRecDepth 20000 in
theorem mw542 : Cond.constant "DemoTapeModel" 121 (100000) ∈ wa := List.mem_filter.mpr ⟨List.mem_of_getElem? (i := 542) (by decide +kernel), by decide +kernel⟩
set_option maxRecDepth 20000 in
theorem mw555 : Cond.methodLink "DemoTapeModel" 122 ⟨"DemoTapeModel", "groups", "()I"⟩ ∈ wa := List.mem_filter.mpr ⟨List.mem_of_getElem? (i := 555) (by decide +kernel), by decide +kernel⟩
set_option maxRecDepth 20000 in
theorem mw557 : Cond.instanceMethod ⟨"DemoTapeModel", "groups", "()I"⟩ ∈ wa := List.mem_filter.mpr ⟨List.mem_of_getElem? (i := 557) (by decide +kernel), by decide +kernel⟩
set_option maxRecDepth 20000 in
theorem mw558 : Cond.code ⟨"DemoTapeModel", "groups", "()I"⟩ prog_7_method_27_code 3 (some .int) ∈ wa := List.mem_filter.mpr ⟨List.mem_of_getElem? (i := 558) (by decide +kernel), by decide +kernel⟩
set_option maxRecDepth 20000 in
theorem mw559 : Cond.methodLink "DemoTapeModel" 125 ⟨"DemoTapeModel", "using", "()I"⟩ ∈ wa := List.mem_filter.mpr ⟨List.mem_of_getElem? (i := 559) (by decide +kernel), by decide +kernel⟩
set_option maxRecDepth 20000 in
theorem mw561 : Cond.instanceMethod ⟨"DemoTapeModel", "using", "()I"⟩ ∈ wa := List.mem_filter.mpr ⟨List.mem_of_getElem? (i := 561) (by decide +kernel), by decide +kernel⟩
set_option maxRecDepth 20000 in
theorem mw562 : Cond.code ⟨"DemoTapeModel", "using", "()I"⟩ prog_7_method_28_code 3 (some .int) ∈ wa := List.mem_filter.mpr ⟨List.mem_of_getElem? (i := 562) (by decide +kernel), by decide +kernel⟩
