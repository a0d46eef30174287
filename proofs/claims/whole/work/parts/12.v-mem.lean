set_option maxRecDepth 20000 in
theorem mw12 : Cond.selects "DemoTapeModel" ⟨"DemoTapeModel", "put", "(I)V"⟩ ⟨"DemoTapeModel", "put", "(I)V"⟩ ∈ wa := List.mem_filter.mpr ⟨List.mem_of_getElem? (i := 12) (by decide +kernel), by decide +kernel⟩
set_option maxRecDepth 20000 in
theorem mw13 : Cond.selects "DemoTapeModel" ⟨"DemoTapeModel", "run", "(I)I"⟩ ⟨"DemoTapeModel", "run", "(I)I"⟩ ∈ wa := List.mem_filter.mpr ⟨List.mem_of_getElem? (i := 13) (by decide +kernel), by decide +kernel⟩
set_option maxRecDepth 20000 in
theorem mw14 : Cond.selects "DemoTapeModel" ⟨"DemoTapeModel", "sum", "(I)V"⟩ ⟨"DemoTapeModel", "sum", "(I)V"⟩ ∈ wa := List.mem_filter.mpr ⟨List.mem_of_getElem? (i := 14) (by decide +kernel), by decide +kernel⟩
set_option maxRecDepth 20000 in
theorem mw15 : Cond.selects "DemoTapeModel" ⟨"DemoTapeModel", "checkByte", "(I)I"⟩ ⟨"DemoTapeModel", "checkByte", "(I)I"⟩ ∈ wa := List.mem_filter.mpr ⟨List.mem_of_getElem? (i := 15) (by decide +kernel), by decide +kernel⟩
set_option maxRecDepth 20000 in
theorem mw16 : Cond.selects "DemoTapeModel" ⟨"DemoTapeModel", "readAll", "()V"⟩ ⟨"DemoTapeModel", "readAll", "()V"⟩ ∈ wa := List.mem_filter.mpr ⟨List.mem_of_getElem? (i := 16) (by decide +kernel), by decide +kernel⟩
set_option maxRecDepth 20000 in
theorem mw17 : Cond.selects "DemoTapeModel" ⟨"DemoTapeModel", "next", "()I"⟩ ⟨"DemoTapeModel", "next", "()I"⟩ ∈ wa := List.mem_filter.mpr ⟨List.mem_of_getElem? (i := 17) (by decide +kernel), by decide +kernel⟩
set_option maxRecDepth 20000 in
theorem mw18 : Cond.selects "DemoTapeModel" ⟨"DemoTapeModel", "wrong", "(II)V"⟩ ⟨"DemoTapeModel", "wrong", "(II)V"⟩ ∈ wa := List.mem_filter.mpr ⟨List.mem_of_getElem? (i := 18) (by decide +kernel), by decide +kernel⟩
set_option maxRecDepth 20000 in
theorem mw19 : Cond.selects "DemoTapeModel" ⟨"DemoTapeModel", "nextTwo", "()I"⟩ ⟨"DemoTapeModel", "nextTwo", "()I"⟩ ∈ wa := List.mem_filter.mpr ⟨List.mem_of_getElem? (i := 19) (by decide +kernel), by decide +kernel⟩
set_option maxRecDepth 20000 in
theorem mw20 : Cond.selects "DemoTapeModel" ⟨"DemoTapeModel", "nextUpTo", "(II)I"⟩ ⟨"DemoTapeModel", "nextUpTo", "(II)I"⟩ ∈ wa := List.mem_filter.mpr ⟨List.mem_of_getElem? (i := 20) (by decide +kernel), by decide +kernel⟩
set_option maxRecDepth 20000 in
theorem mw21 : Cond.selects "DemoTapeModel" ⟨"DemoTapeModel", "readGroup", "(II)V"⟩ ⟨"DemoTapeModel", "readGroup", "(II)V"⟩ ∈ wa := List.mem_filter.mpr ⟨List.mem_of_getElem? (i := 21) (by decide +kernel), by decide +kernel⟩
set_option maxRecDepth 20000 in
theorem mw22 : Cond.selects "DemoTapeModel" ⟨"DemoTapeModel", "groups", "()I"⟩ ⟨"DemoTapeModel", "groups", "()I"⟩ ∈ wa := List.mem_filter.mpr ⟨List.mem_of_getElem? (i := 22) (by decide +kernel), by decide +kernel⟩
set_option maxRecDepth 20000 in
theorem mw23 : Cond.selects "DemoTapeModel" ⟨"DemoTapeModel", "using", "()I"⟩ ⟨"DemoTapeModel", "using", "()I"⟩ ∈ wa := List.mem_filter.mpr ⟨List.mem_of_getElem? (i := 23) (by decide +kernel), by decide +kernel⟩
set_option maxRecDepth 20000 in
theorem mw24 : Cond.initialized "DemoTapeLaw" ∈ wa := List.mem_filter.mpr ⟨List.mem_of_getElem? (i := 24) (by decide +kernel), by decide +kernel⟩
set_option maxRecDepth 20000 in
theorem mw30 : Cond.initialized "DemoTapeModel" ∈ wa := List.mem_filter.mpr ⟨List.mem_of_getElem? (i := 30) (by decide +kernel), by decide +kernel⟩
set_option maxRecDepth 20000 in
theorem mw33 : Cond.classLink "DemoTapeLaw" 7 "DemoTape" ∈ wa := List.mem_filter.mpr ⟨List.mem_of_getElem? (i := 33) (by decide +kernel), by decide +kernel⟩
set_option maxRecDepth 20000 in
theorem mw34 : Cond.instantiable "DemoTape" 5 ∈ wa := List.mem_filter.mpr ⟨List.mem_of_getElem? (i := 34) (by decide +kernel), by decide +kernel⟩
set_option maxRecDepth 20000 in
theorem mw35 : Cond.methodLink "DemoTapeLaw" 9 ⟨"DemoTape", "<init>", "()V"⟩ ∈ wa := List.mem_filter.mpr ⟨List.mem_of_getElem? (i := 35) (by decide +kernel), by decide +kernel⟩
set_option maxRecDepth 20000 in
theorem mw36 : Cond.instanceMethod ⟨"DemoTape", "<init>", "()V"⟩ ∈ wa := List.mem_filter.mpr ⟨List.mem_of_getElem? (i := 36) (by decide +kernel), by decide +kernel⟩
set_option maxRecDepth 20000 in
theorem mw37 : Cond.code ⟨"DemoTape", "<init>", "()V"⟩ prog_1_method_1_code 1 none ∈ wa := List.mem_filter.mpr ⟨List.mem_of_getElem? (i := 37) (by decide +kernel), by decide +kernel⟩
set_option maxRecDepth 20000 in
theorem mw122 : Cond.methodLink "DemoTapeLaw" 13 ⟨"DemoTape", "start", "(IIII)Z"⟩ ∈ wa := List.mem_filter.mpr ⟨List.mem_of_getElem? (i := 122) (by decide +kernel), by decide +kernel⟩
set_option maxRecDepth 20000 in
theorem mw123 : Cond.instanceMethod ⟨"DemoTape", "start", "(IIII)Z"⟩ ∈ wa := List.mem_filter.mpr ⟨List.mem_of_getElem? (i := 123) (by decide +kernel), by decide +kernel⟩
set_option maxRecDepth 20000 in
theorem mw124 : Cond.selects "DemoTape" ⟨"DemoTape", "start", "(IIII)Z"⟩ ⟨"DemoTape", "start", "(IIII)Z"⟩ ∈ wa := List.mem_filter.mpr ⟨List.mem_of_getElem? (i := 124) (by decide +kernel), by decide +kernel⟩
set_option maxRecDepth 20000 in
theorem mw125 : Cond.code ⟨"DemoTape", "start", "(IIII)Z"⟩ prog_1_method_2_code 5 (some .boolean) ∈ wa := List.mem_filter.mpr ⟨List.mem_of_getElem? (i := 125) (by decide +kernel), by decide +kernel⟩
set_option maxRecDepth 20000 in
theorem mw133 : Cond.methodLink "DemoTapeLaw" 18 ⟨"DemoTape", "record", "(IIIZI)I"⟩ ∈ wa := List.mem_filter.mpr ⟨List.mem_of_getElem? (i := 133) (by decide +kernel), by decide +kernel⟩
set_option maxRecDepth 20000 in
theorem mw134 : Cond.instanceMethod ⟨"DemoTape", "record", "(IIIZI)I"⟩ ∈ wa := List.mem_filter.mpr ⟨List.mem_of_getElem? (i := 134) (by decide +kernel), by decide +kernel⟩
set_option maxRecDepth 20000 in
theorem mw135 : Cond.selects "DemoTape" ⟨"DemoTape", "record", "(IIIZI)I"⟩ ⟨"DemoTape", "record", "(IIIZI)I"⟩ ∈ wa := List.mem_filter.mpr ⟨List.mem_of_getElem? (i := 135) (by decide +kernel), by decide +kernel⟩
set_option maxRecDepth 20000 in
theorem mw136 : Cond.code ⟨"DemoTape", "record", "(IIIZI)I"⟩ prog_1_method_3_code 6 (some .int) ∈ wa := List.mem_filter.mpr ⟨List.mem_of_getElem? (i := 136) (by decide +kernel), by decide +kernel⟩
set_option maxRecDepth 20000 in
theorem mw156 : Cond.methodLink "DemoTapeLaw" 23 ⟨"DemoTape", "undo", "(I)Z"⟩ ∈ wa := List.mem_filter.mpr ⟨List.mem_of_getElem? (i := 156) (by decide +kernel), by decide +kernel⟩
set_option maxRecDepth 20000 in
theorem mw157 : Cond.instanceMethod ⟨"DemoTape", "undo", "(I)Z"⟩ ∈ wa := List.mem_filter.mpr ⟨List.mem_of_getElem? (i := 157) (by decide +kernel), by decide +kernel⟩
set_option maxRecDepth 20000 in
theorem mw158 : Cond.selects "DemoTape" ⟨"DemoTape", "undo", "(I)Z"⟩ ⟨"DemoTape", "undo", "(I)Z"⟩ ∈ wa := List.mem_filter.mpr ⟨List.mem_of_getElem? (i := 158) (by decide +kernel), by decide +kernel⟩
set_option maxRecDepth 20000 in
theorem mw159 : Cond.code ⟨"DemoTape", "undo", "(I)Z"⟩ prog_1_method_4_code 2 (some .boolean) ∈ wa := List.mem_filter.mpr ⟨List.mem_of_getElem? (i := 159) (by decide +kernel), by decide +kernel⟩
set_option maxRecDepth 20000 in
theorem mw165 : Cond.methodLink "DemoTapeLaw" 28 ⟨"DemoTape", "again", "(II)I"⟩ ∈ wa := List.mem_filter.mpr ⟨List.mem_of_getElem? (i := 165) (by decide +kernel), by decide +kernel⟩
set_option maxRecDepth 20000 in
theorem mw166 : Cond.instanceMethod ⟨"DemoTape", "again", "(II)I"⟩ ∈ wa := List.mem_filter.mpr ⟨List.mem_of_getElem? (i := 166) (by decide +kernel), by decide +kernel⟩
set_option maxRecDepth 20000 in
theorem mw167 : Cond.selects "DemoTape" ⟨"DemoTape", "again", "(II)I"⟩ ⟨"DemoTape", "again", "(II)I"⟩ ∈ wa := List.mem_filter.mpr ⟨List.mem_of_getElem? (i := 167) (by decide +kernel), by decide +kernel⟩
set_option maxRecDepth 20000 in
theorem mw168 : Cond.code ⟨"DemoTape", "again", "(II)I"⟩ prog_1_method_5_code 3 (some .int) ∈ wa := List.mem_filter.mpr ⟨List.mem_of_getElem? (i := 168) (by decide +kernel), by decide +kernel⟩
set_option maxRecDepth 20000 in
theorem mw178 : Cond.methodLink "DemoTapeLaw" 33 ⟨"DemoTape", "write", "()I"⟩ ∈ wa := List.mem_filter.mpr ⟨List.mem_of_getElem? (i := 178) (by decide +kernel), by decide +kernel⟩
set_option maxRecDepth 20000 in
theorem mw179 : Cond.instanceMethod ⟨"DemoTape", "write", "()I"⟩ ∈ wa := List.mem_filter.mpr ⟨List.mem_of_getElem? (i := 179) (by decide +kernel), by decide +kernel⟩
set_option maxRecDepth 20000 in
theorem mw180 : Cond.selects "DemoTape" ⟨"DemoTape", "write", "()I"⟩ ⟨"DemoTape", "write", "()I"⟩ ∈ wa := List.mem_filter.mpr ⟨List.mem_of_getElem? (i := 180) (by decide +kernel), by decide +kernel⟩
set_option maxRecDepth 20000 in
theorem mw181 : Cond.code ⟨"DemoTape", "write", "()I"⟩ prog_1_method_6_code 1 (some .int) ∈ wa := List.mem_filter.mpr ⟨List.mem_of_getElem? (i := 181) (by decide +kernel), by decide +kernel⟩
set_option maxRecDepth 20000 in
theorem mw239 : Cond.methodLink "DemoTapeLaw" 40 ⟨"DemoTape", "give", "(JI)Z"⟩ ∈ wa := List.mem_filter.mpr ⟨List.mem_of_getElem? (i := 239) (by decide +kernel), by decide +kernel⟩
set_option maxRecDepth 20000 in
theorem mw240 : Cond.instanceMethod ⟨"DemoTape", "give", "(JI)Z"⟩ ∈ wa := List.mem_filter.mpr ⟨List.mem_of_getElem? (i := 240) (by decide +kernel), by decide +kernel⟩
set_option maxRecDepth 20000 in
theorem mw241 : Cond.selects "DemoTape" ⟨"DemoTape", "give", "(JI)Z"⟩ ⟨"DemoTape", "give", "(JI)Z"⟩ ∈ wa := List.mem_filter.mpr ⟨List.mem_of_getElem? (i := 241) (by decide +kernel), by decide +kernel⟩
set_option maxRecDepth 20000 in
theorem mw242 : Cond.code ⟨"DemoTape", "give", "(JI)Z"⟩ prog_1_method_7_code 4 (some .boolean) ∈ wa := List.mem_filter.mpr ⟨List.mem_of_getElem? (i := 242) (by decide +kernel), by decide +kernel⟩
set_option maxRecDepth 20000 in
theorem mw248 : Cond.methodLink "DemoTapeLaw" 45 ⟨"DemoTape", "turnOver", "()V"⟩ ∈ wa := List.mem_filter.mpr ⟨List.mem_of_getElem? (i := 248) (by decide +kernel), by decide +kernel⟩
set_option maxRecDepth 20000 in
theorem mw249 : Cond.instanceMethod ⟨"DemoTape", "turnOver", "()V"⟩ ∈ wa := List.mem_filter.mpr ⟨List.mem_of_getElem? (i := 249) (by decide +kernel), by decide +kernel⟩
set_option maxRecDepth 20000 in
theorem mw250 : Cond.selects "DemoTape" ⟨"DemoTape", "turnOver", "()V"⟩ ⟨"DemoTape", "turnOver", "()V"⟩ ∈ wa := List.mem_filter.mpr ⟨List.mem_of_getElem? (i := 250) (by decide +kernel), by decide +kernel⟩
set_option maxRecDepth 20000 in
theorem mw251 : Cond.code ⟨"DemoTape", "turnOver", "()V"⟩ prog_1_method_8_code 1 none ∈ wa := List.mem_filter.mpr ⟨List.mem_of_getElem? (i := 251) (by decide +kernel), by decide +kernel⟩
set_option maxRecDepth 20000 in
theorem mw259 : Cond.methodLink "DemoTapeLaw" 49 ⟨"DemoTape", "cut", "(I)Z"⟩ ∈ wa := List.mem_filter.mpr ⟨List.mem_of_getElem? (i := 259) (by decide +kernel), by decide +kernel⟩
set_option maxRecDepth 20000 in
theorem mw260 : Cond.instanceMethod ⟨"DemoTape", "cut", "(I)Z"⟩ ∈ wa := List.mem_filter.mpr ⟨List.mem_of_getElem? (i := 260) (by decide +kernel), by decide +kernel⟩
set_option maxRecDepth 20000 in
theorem mw261 : Cond.selects "DemoTape" ⟨"DemoTape", "cut", "(I)Z"⟩ ⟨"DemoTape", "cut", "(I)Z"⟩ ∈ wa := List.mem_filter.mpr ⟨List.mem_of_getElem? (i := 261) (by decide +kernel), by decide +kernel⟩
set_option maxRecDepth 20000 in
theorem mw262 : Cond.code ⟨"DemoTape", "cut", "(I)Z"⟩ prog_1_method_9_code 2 (some .boolean) ∈ wa := List.mem_filter.mpr ⟨List.mem_of_getElem? (i := 262) (by decide +kernel), by decide +kernel⟩
set_option maxRecDepth 20000 in
theorem mw263 : Cond.methodLink "DemoTapeLaw" 53 ⟨"DemoTape", "poke", "(II)Z"⟩ ∈ wa := List.mem_filter.mpr ⟨List.mem_of_getElem? (i := 263) (by decide +kernel), by decide +kernel⟩
set_option maxRecDepth 20000 in
theorem mw264 : Cond.instanceMethod ⟨"DemoTape", "poke", "(II)Z"⟩ ∈ wa := List.mem_filter.mpr ⟨List.mem_of_getElem? (i := 264) (by decide +kernel), by decide +kernel⟩
set_option maxRecDepth 20000 in
theorem mw265 : Cond.selects "DemoTape" ⟨"DemoTape", "poke", "(II)Z"⟩ ⟨"DemoTape", "poke", "(II)Z"⟩ ∈ wa := List.mem_filter.mpr ⟨List.mem_of_getElem? (i := 265) (by decide +kernel), by decide +kernel⟩
set_option maxRecDepth 20000 in
theorem mw266 : Cond.code ⟨"DemoTape", "poke", "(II)Z"⟩ prog_1_method_10_code 3 (some .boolean) ∈ wa := List.mem_filter.mpr ⟨List.mem_of_getElem? (i := 266) (by decide +kernel), by decide +kernel⟩
set_option maxRecDepth 20000 in
theorem mw271 : Cond.methodLink "DemoTapeLaw" 58 ⟨"DemoTape", "read", "()I"⟩ ∈ wa := List.mem_filter.mpr ⟨List.mem_of_getElem? (i := 271) (by decide +kernel), by decide +kernel⟩
set_option maxRecDepth 20000 in
theorem mw272 : Cond.instanceMethod ⟨"DemoTape", "read", "()I"⟩ ∈ wa := List.mem_filter.mpr ⟨List.mem_of_getElem? (i := 272) (by decide +kernel), by decide +kernel⟩
set_option maxRecDepth 20000 in
theorem mw273 : Cond.selects "DemoTape" ⟨"DemoTape", "read", "()I"⟩ ⟨"DemoTape", "read", "()I"⟩ ∈ wa := List.mem_filter.mpr ⟨List.mem_of_getElem? (i := 273) (by decide +kernel), by decide +kernel⟩
set_option maxRecDepth 20000 in
theorem mw274 : Cond.code ⟨"DemoTape", "read", "()I"⟩ prog_1_method_11_code 2 (some .int) ∈ wa := List.mem_filter.mpr ⟨List.mem_of_getElem? (i := 274) (by decide +kernel), by decide +kernel⟩
set_option maxRecDepth 20000 in
theorem mw338 : Cond.methodLink "DemoTapeLaw" 62 ⟨"DemoTape", "input", "(II)I"⟩ ∈ wa := List.mem_filter.mpr ⟨List.mem_of_getElem? (i := 338) (by decide +kernel), by decide +kernel⟩
set_option maxRecDepth 20000 in
theorem mw339 : Cond.instanceMethod ⟨"DemoTape", "input", "(II)I"⟩ ∈ wa := List.mem_filter.mpr ⟨List.mem_of_getElem? (i := 339) (by decide +kernel), by decide +kernel⟩
set_option maxRecDepth 20000 in
theorem mw340 : Cond.selects "DemoTape" ⟨"DemoTape", "input", "(II)I"⟩ ⟨"DemoTape", "input", "(II)I"⟩ ∈ wa := List.mem_filter.mpr ⟨List.mem_of_getElem? (i := 340) (by decide +kernel), by decide +kernel⟩
set_option maxRecDepth 20000 in
theorem mw341 : Cond.code ⟨"DemoTape", "input", "(II)I"⟩ prog_1_method_12_code 4 (some .int) ∈ wa := List.mem_filter.mpr ⟨List.mem_of_getElem? (i := 341) (by decide +kernel), by decide +kernel⟩
set_option maxRecDepth 20000 in
theorem mw348 : Cond.methodLink "DemoTapeLaw" 66 ⟨"DemoTape", "begin", "(I)I"⟩ ∈ wa := List.mem_filter.mpr ⟨List.mem_of_getElem? (i := 348) (by decide +kernel), by decide +kernel⟩
set_option maxRecDepth 20000 in
theorem mw349 : Cond.instanceMethod ⟨"DemoTape", "begin", "(I)I"⟩ ∈ wa := List.mem_filter.mpr ⟨List.mem_of_getElem? (i := 349) (by decide +kernel), by decide +kernel⟩
set_option maxRecDepth 20000 in
theorem mw350 : Cond.selects "DemoTape" ⟨"DemoTape", "begin", "(I)I"⟩ ⟨"DemoTape", "begin", "(I)I"⟩ ∈ wa := List.mem_filter.mpr ⟨List.mem_of_getElem? (i := 350) (by decide +kernel), by decide +kernel⟩
set_option maxRecDepth 20000 in
theorem mw351 : Cond.code ⟨"DemoTape", "begin", "(I)I"⟩ prog_1_method_13_code 2 (some .int) ∈ wa := List.mem_filter.mpr ⟨List.mem_of_getElem? (i := 351) (by decide +kernel), by decide +kernel⟩
set_option maxRecDepth 20000 in
theorem mw357 : Cond.methodLink "DemoTapeLaw" 71 ⟨"DemoTape", "byteAt", "(IZ)I"⟩ ∈ wa := List.mem_filter.mpr ⟨List.mem_of_getElem? (i := 357) (by decide +kernel), by decide +kernel⟩
set_option maxRecDepth 20000 in
theorem mw358 : Cond.instanceMethod ⟨"DemoTape", "byteAt", "(IZ)I"⟩ ∈ wa := List.mem_filter.mpr ⟨List.mem_of_getElem? (i := 358) (by decide +kernel), by decide +kernel⟩
set_option maxRecDepth 20000 in
theorem mw359 : Cond.selects "DemoTape" ⟨"DemoTape", "byteAt", "(IZ)I"⟩ ⟨"DemoTape", "byteAt", "(IZ)I"⟩ ∈ wa := List.mem_filter.mpr ⟨List.mem_of_getElem? (i := 359) (by decide +kernel), by decide +kernel⟩
set_option maxRecDepth 20000 in
theorem mw360 : Cond.code ⟨"DemoTape", "byteAt", "(IZ)I"⟩ prog_1_method_14_code 3 (some .int) ∈ wa := List.mem_filter.mpr ⟨List.mem_of_getElem? (i := 360) (by decide +kernel), by decide +kernel⟩
set_option maxRecDepth 20000 in
theorem mw362 : Cond.methodLink "DemoTapeLaw" 76 ⟨"DemoTape", "look", "(I)I"⟩ ∈ wa := List.mem_filter.mpr ⟨List.mem_of_getElem? (i := 362) (by decide +kernel), by decide +kernel⟩
set_option maxRecDepth 20000 in
theorem mw363 : Cond.instanceMethod ⟨"DemoTape", "look", "(I)I"⟩ ∈ wa := List.mem_filter.mpr ⟨List.mem_of_getElem? (i := 363) (by decide +kernel), by decide +kernel⟩
set_option maxRecDepth 20000 in
theorem mw364 : Cond.selects "DemoTape" ⟨"DemoTape", "look", "(I)I"⟩ ⟨"DemoTape", "look", "(I)I"⟩ ∈ wa := List.mem_filter.mpr ⟨List.mem_of_getElem? (i := 364) (by decide +kernel), by decide +kernel⟩
set_option maxRecDepth 20000 in
theorem mw365 : Cond.code ⟨"DemoTape", "look", "(I)I"⟩ prog_1_method_15_code 2 (some .int) ∈ wa := List.mem_filter.mpr ⟨List.mem_of_getElem? (i := 365) (by decide +kernel), by decide +kernel⟩
set_option maxRecDepth 20000 in
theorem mw378 : Cond.classLink "DemoTapeLaw" 10 "DemoTapeModel" ∈ wa := List.mem_filter.mpr ⟨List.mem_of_getElem? (i := 378) (by decide +kernel), by decide +kernel⟩
set_option maxRecDepth 20000 in
theorem mw379 : Cond.instantiable "DemoTapeModel" 22 ∈ wa := List.mem_filter.mpr ⟨List.mem_of_getElem? (i := 379) (by decide +kernel), by decide +kernel⟩
set_option maxRecDepth 20000 in
theorem mw380 : Cond.methodLink "DemoTapeLaw" 12 ⟨"DemoTapeModel", "<init>", "()V"⟩ ∈ wa := List.mem_filter.mpr ⟨List.mem_of_getElem? (i := 380) (by decide +kernel), by decide +kernel⟩
set_option maxRecDepth 20000 in
theorem mw381 : Cond.instanceMethod ⟨"DemoTapeModel", "<init>", "()V"⟩ ∈ wa := List.mem_filter.mpr ⟨List.mem_of_getElem? (i := 381) (by decide +kernel), by decide +kernel⟩
set_option maxRecDepth 20000 in
theorem mw382 : Cond.code ⟨"DemoTapeModel", "<init>", "()V"⟩ prog_7_method_1_code 1 none ∈ wa := List.mem_filter.mpr ⟨List.mem_of_getElem? (i := 382) (by decide +kernel), by decide +kernel⟩
set_option maxRecDepth 20000 in
theorem mw383 : Cond.methodLink "DemoTapeModel" 1 ⟨"java/lang/Object", "<init>", "()V"⟩ ∈ wa := List.mem_filter.mpr ⟨List.mem_of_getElem? (i := 383) (by decide +kernel), by decide +kernel⟩
set_option maxRecDepth 20000 in
theorem mw384 : Cond.fieldLink "DemoTapeModel" 51 "DemoTapeModel" "thrown" "I" ∈ wa := List.mem_filter.mpr ⟨List.mem_of_getElem? (i := 384) (by decide +kernel), by decide +kernel⟩
set_option maxRecDepth 20000 in
theorem mw385 : Cond.fieldLink "DemoTapeModel" 7 "DemoTapeModel" "start" "[I" ∈ wa := List.mem_filter.mpr ⟨List.mem_of_getElem? (i := 385) (by decide +kernel), by decide +kernel⟩
set_option maxRecDepth 20000 in
theorem mw386 : Cond.fieldLink "DemoTapeModel" 13 "DemoTapeModel" "aheads" "[I" ∈ wa := List.mem_filter.mpr ⟨List.mem_of_getElem? (i := 386) (by decide +kernel), by decide +kernel⟩
set_option maxRecDepth 20000 in
theorem mw387 : Cond.fieldLink "DemoTapeModel" 16 "DemoTapeModel" "asides" "[I" ∈ wa := List.mem_filter.mpr ⟨List.mem_of_getElem? (i := 387) (by decide +kernel), by decide +kernel⟩
set_option maxRecDepth 20000 in
theorem mw388 : Cond.fieldLink "DemoTapeModel" 19 "DemoTapeModel" "turns" "[I" ∈ wa := List.mem_filter.mpr ⟨List.mem_of_getElem? (i := 388) (by decide +kernel), by decide +kernel⟩
set_option maxRecDepth 20000 in
theorem mw389 : Cond.fieldLink "DemoTapeModel" 22 "DemoTapeModel" "uses" "[Z" ∈ wa := List.mem_filter.mpr ⟨List.mem_of_getElem? (i := 389) (by decide +kernel), by decide +kernel⟩
set_option maxRecDepth 20000 in
theorem mw390 : Cond.fieldLink "DemoTapeModel" 58 "DemoTapeModel" "many" "I" ∈ wa := List.mem_filter.mpr ⟨List.mem_of_getElem? (i := 390) (by decide +kernel), by decide +kernel⟩
set_option maxRecDepth 20000 in
theorem mw391 : Cond.fieldLink "DemoTapeModel" 26 "DemoTapeModel" "output" "[I" ∈ wa := List.mem_filter.mpr ⟨List.mem_of_getElem? (i := 391) (by decide +kernel), by decide +kernel⟩
set_option maxRecDepth 20000 in
theorem mw392 : Cond.fieldLink "DemoTapeModel" 61 "DemoTapeModel" "written" "I" ∈ wa := List.mem_filter.mpr ⟨List.mem_of_getElem? (i := 392) (by decide +kernel), by decide +kernel⟩
set_option maxRecDepth 20000 in
theorem mw393 : Cond.fieldLink "DemoTapeModel" 29 "DemoTapeModel" "input" "[I" ∈ wa := List.mem_filter.mpr ⟨List.mem_of_getElem? (i := 393) (by decide +kernel), by decide +kernel⟩
set_option maxRecDepth 20000 in
theorem mw394 : Cond.fieldLink "DemoTapeModel" 85 "DemoTapeModel" "size" "I" ∈ wa := List.mem_filter.mpr ⟨List.mem_of_getElem? (i := 394) (by decide +kernel), by decide +kernel⟩
set_option maxRecDepth 20000 in
theorem mw395 : Cond.fieldLink "DemoTapeModel" 32 "DemoTapeModel" "newStart" "[I" ∈ wa := List.mem_filter.mpr ⟨List.mem_of_getElem? (i := 395) (by decide +kernel), by decide +kernel⟩
set_option maxRecDepth 20000 in
theorem mw396 : Cond.fieldLink "DemoTapeModel" 35 "DemoTapeModel" "newAheads" "[I" ∈ wa := List.mem_filter.mpr ⟨List.mem_of_getElem? (i := 396) (by decide +kernel), by decide +kernel⟩
set_option maxRecDepth 20000 in
theorem mw397 : Cond.fieldLink "DemoTapeModel" 38 "DemoTapeModel" "newAsides" "[I" ∈ wa := List.mem_filter.mpr ⟨List.mem_of_getElem? (i := 397) (by decide +kernel), by decide +kernel⟩
set_option maxRecDepth 20000 in
theorem mw398 : Cond.fieldLink "DemoTapeModel" 41 "DemoTapeModel" "newTurns" "[I" ∈ wa := List.mem_filter.mpr ⟨List.mem_of_getElem? (i := 398) (by decide +kernel), by decide +kernel⟩
set_option maxRecDepth 20000 in
theorem mw399 : Cond.fieldLink "DemoTapeModel" 44 "DemoTapeModel" "newUses" "[Z" ∈ wa := List.mem_filter.mpr ⟨List.mem_of_getElem? (i := 399) (by decide +kernel), by decide +kernel⟩
set_option maxRecDepth 20000 in
theorem mw400 : Cond.fieldLink "DemoTapeModel" 105 "DemoTapeModel" "newMany" "I" ∈ wa := List.mem_filter.mpr ⟨List.mem_of_getElem? (i := 400) (by decide +kernel), by decide +kernel⟩
set_option maxRecDepth 20000 in
theorem mw401 : Cond.fieldLink "DemoTapeModel" 93 "DemoTapeModel" "p" "I" ∈ wa := List.mem_filter.mpr ⟨List.mem_of_getElem? (i := 401) (by decide +kernel), by decide +kernel⟩
set_option maxRecDepth 20000 in
theorem mw402 : Cond.fieldLink "DemoTapeModel" 90 "DemoTapeModel" "fault" "I" ∈ wa := List.mem_filter.mpr ⟨List.mem_of_getElem? (i := 402) (by decide +kernel), by decide +kernel⟩
set_option maxRecDepth 20000 in
theorem mw403 : Cond.fieldLink "DemoTapeModel" 47 "DemoTapeModel" "place" "I" ∈ wa := List.mem_filter.mpr ⟨List.mem_of_getElem? (i := 403) (by decide +kernel), by decide +kernel⟩
set_option maxRecDepth 20000 in
theorem mw404 : Cond.fieldLink "DemoTapeModel" 64 "DemoTapeModel" "a" "I" ∈ wa := List.mem_filter.mpr ⟨List.mem_of_getElem? (i := 404) (by decide +kernel), by decide +kernel⟩
set_option maxRecDepth 20000 in
theorem mw405 : Cond.fieldLink "DemoTapeModel" 68 "DemoTapeModel" "b" "I" ∈ wa := List.mem_filter.mpr ⟨List.mem_of_getElem? (i := 405) (by decide +kernel), by decide +kernel⟩
set_option maxRecDepth 20000 in
theorem mw451 : Cond.arrayClass .boolean ∈ wa := List.mem_filter.mpr ⟨List.mem_of_getElem? (i := 451) (by decide +kernel), by decide +kernel⟩
set_option maxRecDepth 20000 in
theorem mw452 : Cond.methodLink "DemoTapeLaw" 17 ⟨"DemoTapeModel", "start", "(IIII)Z"⟩ ∈ wa := List.mem_filter.mpr ⟨List.mem_of_getElem? (i := 452) (by decide +kernel), by decide +kernel⟩
set_option maxRecDepth 20000 in
theorem mw453 : Cond.instanceMethod ⟨"DemoTapeModel", "start", "(IIII)Z"⟩ ∈ wa := List.mem_filter.mpr ⟨List.mem_of_getElem? (i := 453) (by decide +kernel), by decide +kernel⟩
set_option maxRecDepth 20000 in
theorem mw454 : Cond.selects "DemoTapeModel" ⟨"DemoTapeModel", "start", "(IIII)Z"⟩ ⟨"DemoTapeModel", "start", "(IIII)Z"⟩ ∈ wa := List.mem_filter.mpr ⟨List.mem_of_getElem? (i := 454) (by decide +kernel), by decide +kernel⟩
set_option maxRecDepth 20000 in
theorem mw455 : Cond.code ⟨"DemoTapeModel", "start", "(IIII)Z"⟩ prog_7_method_4_code 5 (some .boolean) ∈ wa := List.mem_filter.mpr ⟨List.mem_of_getElem? (i := 455) (by decide +kernel), by decide +kernel⟩
set_option maxRecDepth 20000 in
theorem mw456 : Cond.methodLink "DemoTapeLaw" 22 ⟨"DemoTapeModel", "record", "(IIIZI)I"⟩ ∈ wa := List.mem_filter.mpr ⟨List.mem_of_getElem? (i := 456) (by decide +kernel), by decide +kernel⟩
set_option maxRecDepth 20000 in
theorem mw457 : Cond.instanceMethod ⟨"DemoTapeModel", "record", "(IIIZI)I"⟩ ∈ wa := List.mem_filter.mpr ⟨List.mem_of_getElem? (i := 457) (by decide +kernel), by decide +kernel⟩
set_option maxRecDepth 20000 in
theorem mw458 : Cond.selects "DemoTapeModel" ⟨"DemoTapeModel", "record", "(IIIZI)I"⟩ ⟨"DemoTapeModel", "record", "(IIIZI)I"⟩ ∈ wa := List.mem_filter.mpr ⟨List.mem_of_getElem? (i := 458) (by decide +kernel), by decide +kernel⟩
set_option maxRecDepth 20000 in
theorem mw459 : Cond.code ⟨"DemoTapeModel", "record", "(IIIZI)I"⟩ prog_7_method_5_code 7 (some .int) ∈ wa := List.mem_filter.mpr ⟨List.mem_of_getElem? (i := 459) (by decide +kernel), by decide +kernel⟩
set_option maxRecDepth 20000 in
theorem mw460 : Cond.methodLink "DemoTapeModel" 54 ⟨"DemoTapeModel", "isIn", "(II)Z"⟩ ∈ wa := List.mem_filter.mpr ⟨List.mem_of_getElem? (i := 460) (by decide +kernel), by decide +kernel⟩
set_option maxRecDepth 20000 in
theorem mw461 : Cond.static ⟨"DemoTapeModel", "isIn", "(II)Z"⟩ ∈ wa := List.mem_filter.mpr ⟨List.mem_of_getElem? (i := 461) (by decide +kernel), by decide +kernel⟩
set_option maxRecDepth 20000 in
theorem mw462 : Cond.code ⟨"DemoTapeModel", "isIn", "(II)Z"⟩ prog_7_method_3_code 2 (some .boolean) ∈ wa := List.mem_filter.mpr ⟨List.mem_of_getElem? (i := 462) (by decide +kernel), by decide +kernel⟩
set_option maxRecDepth 20000 in
theorem mw463 : Cond.methodLink "DemoTapeLaw" 27 ⟨"DemoTapeModel", "undo", "(I)Z"⟩ ∈ wa := List.mem_filter.mpr ⟨List.mem_of_getElem? (i := 463) (by decide +kernel), by decide +kernel⟩
set_option maxRecDepth 20000 in
theorem mw464 : Cond.instanceMethod ⟨"DemoTapeModel", "undo", "(I)Z"⟩ ∈ wa := List.mem_filter.mpr ⟨List.mem_of_getElem? (i := 464) (by decide +kernel), by decide +kernel⟩
set_option maxRecDepth 20000 in
theorem mw465 : Cond.selects "DemoTapeModel" ⟨"DemoTapeModel", "undo", "(I)Z"⟩ ⟨"DemoTapeModel", "undo", "(I)Z"⟩ ∈ wa := List.mem_filter.mpr ⟨List.mem_of_getElem? (i := 465) (by decide +kernel), by decide +kernel⟩
set_option maxRecDepth 20000 in
theorem mw466 : Cond.code ⟨"DemoTapeModel", "undo", "(I)Z"⟩ prog_7_method_6_code 2 (some .boolean) ∈ wa := List.mem_filter.mpr ⟨List.mem_of_getElem? (i := 466) (by decide +kernel), by decide +kernel⟩
set_option maxRecDepth 20000 in
theorem mw467 : Cond.methodLink "DemoTapeLaw" 32 ⟨"DemoTapeModel", "again", "(II)I"⟩ ∈ wa := List.mem_filter.mpr ⟨List.mem_of_getElem? (i := 467) (by decide +kernel), by decide +kernel⟩
set_option maxRecDepth 20000 in
theorem mw468 : Cond.instanceMethod ⟨"DemoTapeModel", "again", "(II)I"⟩ ∈ wa := List.mem_filter.mpr ⟨List.mem_of_getElem? (i := 468) (by decide +kernel), by decide +kernel⟩
set_option maxRecDepth 20000 in
theorem mw469 : Cond.selects "DemoTapeModel" ⟨"DemoTapeModel", "again", "(II)I"⟩ ⟨"DemoTapeModel", "again", "(II)I"⟩ ∈ wa := List.mem_filter.mpr ⟨List.mem_of_getElem? (i := 469) (by decide +kernel), by decide +kernel⟩
set_option maxRecDepth 20000 in
theorem mw470 : Cond.code ⟨"DemoTapeModel", "again", "(II)I"⟩ prog_7_method_7_code 4 (some .int) ∈ wa := List.mem_filter.mpr ⟨List.mem_of_getElem? (i := 470) (by decide +kernel), by decide +kernel⟩
set_option maxRecDepth 20000 in
theorem mw471 : Cond.methodLink "DemoTapeLaw" 37 ⟨"DemoTapeModel", "write", "()I"⟩ ∈ wa := List.mem_filter.mpr ⟨List.mem_of_getElem? (i := 471) (by decide +kernel), by decide +kernel⟩
set_option maxRecDepth 20000 in
theorem mw472 : Cond.instanceMethod ⟨"DemoTapeModel", "write", "()I"⟩ ∈ wa := List.mem_filter.mpr ⟨List.mem_of_getElem? (i := 472) (by decide +kernel), by decide +kernel⟩
set_option maxRecDepth 20000 in
theorem mw473 : Cond.selects "DemoTapeModel" ⟨"DemoTapeModel", "write", "()I"⟩ ⟨"DemoTapeModel", "write", "()I"⟩ ∈ wa := List.mem_filter.mpr ⟨List.mem_of_getElem? (i := 473) (by decide +kernel), by decide +kernel⟩
set_option maxRecDepth 20000 in
theorem mw474 : Cond.code ⟨"DemoTapeModel", "write", "()I"⟩ prog_7_method_12_code 4 (some .int) ∈ wa := List.mem_filter.mpr ⟨List.mem_of_getElem? (i := 474) (by decide +kernel), by decide +kernel⟩
set_option maxRecDepth 20000 in
theorem mw475 : Cond.methodLink "DemoTapeModel" 71 ⟨"DemoTapeModel", "put", "(I)V"⟩ ∈ wa := List.mem_filter.mpr ⟨List.mem_of_getElem? (i := 475) (by decide +kernel), by decide +kernel⟩
set_option maxRecDepth 20000 in
theorem mw477 : Cond.instanceMethod ⟨"DemoTapeModel", "put", "(I)V"⟩ ∈ wa := List.mem_filter.mpr ⟨List.mem_of_getElem? (i := 477) (by decide +kernel), by decide +kernel⟩
set_option maxRecDepth 20000 in
theorem mw478 : Cond.code ⟨"DemoTapeModel", "put", "(I)V"⟩ prog_7_method_9_code 2 none ∈ wa := List.mem_filter.mpr ⟨List.mem_of_getElem? (i := 478) (by decide +kernel), by decide +kernel⟩
set_option maxRecDepth 20000 in
theorem mw479 : Cond.methodLink "DemoTapeModel" 75 ⟨"DemoTapeModel", "run", "(I)I"⟩ ∈ wa := List.mem_filter.mpr ⟨List.mem_of_getElem? (i := 479) (by decide +kernel), by decide +kernel⟩
set_option maxRecDepth 20000 in
theorem mw481 : Cond.instanceMethod ⟨"DemoTapeModel", "run", "(I)I"⟩ ∈ wa := List.mem_filter.mpr ⟨List.mem_of_getElem? (i := 481) (by decide +kernel), by decide +kernel⟩
set_option maxRecDepth 20000 in
theorem mw482 : Cond.code ⟨"DemoTapeModel", "run", "(I)I"⟩ prog_7_method_8_code 3 (some .int) ∈ wa := List.mem_filter.mpr ⟨List.mem_of_getElem? (i := 482) (by decide +kernel), by decide +kernel⟩
set_option maxRecDepth 20000 in
theorem mw483 : Cond.methodLink "DemoTapeModel" 79 ⟨"DemoTapeModel", "sum", "(I)V"⟩ ∈ wa := List.mem_filter.mpr ⟨List.mem_of_getElem? (i := 483) (by decide +kernel), by decide +kernel⟩
set_option maxRecDepth 20000 in
theorem mw485 : Cond.instanceMethod ⟨"DemoTapeModel", "sum", "(I)V"⟩ ∈ wa := List.mem_filter.mpr ⟨List.mem_of_getElem? (i := 485) (by decide +kernel), by decide +kernel⟩
set_option maxRecDepth 20000 in
theorem mw486 : Cond.code ⟨"DemoTapeModel", "sum", "(I)V"⟩ prog_7_method_10_code 2 none ∈ wa := List.mem_filter.mpr ⟨List.mem_of_getElem? (i := 486) (by decide +kernel), by decide +kernel⟩
set_option maxRecDepth 20000 in
theorem mw487 : Cond.constant "DemoTapeModel" 67 (65521) ∈ wa := List.mem_filter.mpr ⟨List.mem_of_getElem? (i := 487) (by decide +kernel), by decide +kernel⟩
set_option maxRecDepth 20000 in
theorem mw488 : Cond.methodLink "DemoTapeModel" 82 ⟨"DemoTapeModel", "checkByte", "(I)I"⟩ ∈ wa := List.mem_filter.mpr ⟨List.mem_of_getElem? (i := 488) (by decide +kernel), by decide +kernel⟩
set_option maxRecDepth 20000 in
theorem mw490 : Cond.instanceMethod ⟨"DemoTapeModel", "checkByte", "(I)I"⟩ ∈ wa := List.mem_filter.mpr ⟨List.mem_of_getElem? (i := 490) (by decide +kernel), by decide +kernel⟩
set_option maxRecDepth 20000 in
theorem mw491 : Cond.code ⟨"DemoTapeModel", "checkByte", "(I)I"⟩ prog_7_method_11_code 3 (some .int) ∈ wa := List.mem_filter.mpr ⟨List.mem_of_getElem? (i := 491) (by decide +kernel), by decide +kernel⟩
set_option maxRecDepth 20000 in
theorem mw492 : Cond.methodLink "DemoTapeLaw" 44 ⟨"DemoTapeModel", "give", "(JI)Z"⟩ ∈ wa := List.mem_filter.mpr ⟨List.mem_of_getElem? (i := 492) (by decide +kernel), by decide +kernel⟩
set_option maxRecDepth 20000 in
theorem mw493 : Cond.instanceMethod ⟨"DemoTapeModel", "give", "(JI)Z"⟩ ∈ wa := List.mem_filter.mpr ⟨List.mem_of_getElem? (i := 493) (by decide +kernel), by decide +kernel⟩
set_option maxRecDepth 20000 in
theorem mw494 : Cond.selects "DemoTapeModel" ⟨"DemoTapeModel", "give", "(JI)Z"⟩ ⟨"DemoTapeModel", "give", "(JI)Z"⟩ ∈ wa := List.mem_filter.mpr ⟨List.mem_of_getElem? (i := 494) (by decide +kernel), by decide +kernel⟩
set_option maxRecDepth 20000 in
theorem mw495 : Cond.code ⟨"DemoTapeModel", "give", "(JI)Z"⟩ prog_7_method_13_code 5 (some .boolean) ∈ wa := List.mem_filter.mpr ⟨List.mem_of_getElem? (i := 495) (by decide +kernel), by decide +kernel⟩
set_option maxRecDepth 20000 in
theorem mw496 : Cond.constantLong "DemoTapeModel" 88 (255 : Int64) ∈ wa := List.mem_filter.mpr ⟨List.mem_of_getElem? (i := 496) (by decide +kernel), by decide +kernel⟩
set_option maxRecDepth 20000 in
theorem mw497 : Cond.methodLink "DemoTapeLaw" 48 ⟨"DemoTapeModel", "turnOver", "()V"⟩ ∈ wa := List.mem_filter.mpr ⟨List.mem_of_getElem? (i := 497) (by decide +kernel), by decide +kernel⟩
set_option maxRecDepth 20000 in
theorem mw498 : Cond.instanceMethod ⟨"DemoTapeModel", "turnOver", "()V"⟩ ∈ wa := List.mem_filter.mpr ⟨List.mem_of_getElem? (i := 498) (by decide +kernel), by decide +kernel⟩
set_option maxRecDepth 20000 in
theorem mw499 : Cond.selects "DemoTapeModel" ⟨"DemoTapeModel", "turnOver", "()V"⟩ ⟨"DemoTapeModel", "turnOver", "()V"⟩ ∈ wa := List.mem_filter.mpr ⟨List.mem_of_getElem? (i := 499) (by decide +kernel), by decide +kernel⟩
set_option maxRecDepth 20000 in
theorem mw500 : Cond.code ⟨"DemoTapeModel", "turnOver", "()V"⟩ prog_7_method_14_code 2 none ∈ wa := List.mem_filter.mpr ⟨List.mem_of_getElem? (i := 500) (by decide +kernel), by decide +kernel⟩
set_option maxRecDepth 20000 in
theorem mw501 : Cond.methodLink "DemoTapeLaw" 52 ⟨"DemoTapeModel", "cut", "(I)Z"⟩ ∈ wa := List.mem_filter.mpr ⟨List.mem_of_getElem? (i := 501) (by decide +kernel), by decide +kernel⟩
set_option maxRecDepth 20000 in
theorem mw502 : Cond.instanceMethod ⟨"DemoTapeModel", "cut", "(I)Z"⟩ ∈ wa := List.mem_filter.mpr ⟨List.mem_of_getElem? (i := 502) (by decide +kernel), by decide +kernel⟩
set_option maxRecDepth 20000 in
theorem mw503 : Cond.selects "DemoTapeModel" ⟨"DemoTapeModel", "cut", "(I)Z"⟩ ⟨"DemoTapeModel", "cut", "(I)Z"⟩ ∈ wa := List.mem_filter.mpr ⟨List.mem_of_getElem? (i := 503) (by decide +kernel), by decide +kernel⟩
set_option maxRecDepth 20000 in
theorem mw504 : Cond.code ⟨"DemoTapeModel", "cut", "(I)Z"⟩ prog_7_method_15_code 2 (some .boolean) ∈ wa := List.mem_filter.mpr ⟨List.mem_of_getElem? (i := 504) (by decide +kernel), by decide +kernel⟩
set_option maxRecDepth 20000 in
theorem mw505 : Cond.methodLink "DemoTapeLaw" 57 ⟨"DemoTapeModel", "poke", "(II)Z"⟩ ∈ wa := List.mem_filter.mpr ⟨List.mem_of_getElem? (i := 505) (by decide +kernel), by decide +kernel⟩
set_option maxRecDepth 20000 in
theorem mw506 : Cond.instanceMethod ⟨"DemoTapeModel", "poke", "(II)Z"⟩ ∈ wa := List.mem_filter.mpr ⟨List.mem_of_getElem? (i := 506) (by decide +kernel), by decide +kernel⟩
set_option maxRecDepth 20000 in
theorem mw507 : Cond.selects "DemoTapeModel" ⟨"DemoTapeModel", "poke", "(II)Z"⟩ ⟨"DemoTapeModel", "poke", "(II)Z"⟩ ∈ wa := List.mem_filter.mpr ⟨List.mem_of_getElem? (i := 507) (by decide +kernel), by decide +kernel⟩
set_option maxRecDepth 20000 in
theorem mw508 : Cond.code ⟨"DemoTapeModel", "poke", "(II)Z"⟩ prog_7_method_16_code 3 (some .boolean) ∈ wa := List.mem_filter.mpr ⟨List.mem_of_getElem? (i := 508) (by decide +kernel), by decide +kernel⟩
set_option maxRecDepth 20000 in
theorem mw509 : Cond.methodLink "DemoTapeLaw" 61 ⟨"DemoTapeModel", "read", "()I"⟩ ∈ wa := List.mem_filter.mpr ⟨List.mem_of_getElem? (i := 509) (by decide +kernel), by decide +kernel⟩
set_option maxRecDepth 20000 in
theorem mw510 : Cond.instanceMethod ⟨"DemoTapeModel", "read", "()I"⟩ ∈ wa := List.mem_filter.mpr ⟨List.mem_of_getElem? (i := 510) (by decide +kernel), by decide +kernel⟩
set_option maxRecDepth 20000 in
theorem mw511 : Cond.selects "DemoTapeModel" ⟨"DemoTapeModel", "read", "()I"⟩ ⟨"DemoTapeModel", "read", "()I"⟩ ∈ wa := List.mem_filter.mpr ⟨List.mem_of_getElem? (i := 511) (by decide +kernel), by decide +kernel⟩
set_option maxRecDepth 20000 in
theorem mw512 : Cond.code ⟨"DemoTapeModel", "read", "()I"⟩ prog_7_method_23_code 2 (some .int) ∈ wa := List.mem_filter.mpr ⟨List.mem_of_getElem? (i := 512) (by decide +kernel), by decide +kernel⟩
set_option maxRecDepth 20000 in
theorem mw513 : Cond.methodLink "DemoTapeModel" 118 ⟨"DemoTapeModel", "readAll", "()V"⟩ ∈ wa := List.mem_filter.mpr ⟨List.mem_of_getElem? (i := 513) (by decide +kernel), by decide +kernel⟩
set_option maxRecDepth 20000 in
theorem mw515 : Cond.instanceMethod ⟨"DemoTapeModel", "readAll", "()V"⟩ ∈ wa := List.mem_filter.mpr ⟨List.mem_of_getElem? (i := 515) (by decide +kernel), by decide +kernel⟩
set_option maxRecDepth 20000 in
theorem mw516 : Cond.code ⟨"DemoTapeModel", "readAll", "()V"⟩ prog_7_method_22_code 9 none ∈ wa := List.mem_filter.mpr ⟨List.mem_of_getElem? (i := 516) (by decide +kernel), by decide +kernel⟩
set_option maxRecDepth 20000 in
theorem mw517 : Cond.methodLink "DemoTapeModel" 100 ⟨"DemoTapeModel", "next", "()I"⟩ ∈ wa := List.mem_filter.mpr ⟨List.mem_of_getElem? (i := 517) (by decide +kernel), by decide +kernel⟩
set_option maxRecDepth 20000 in
theorem mw519 : Cond.instanceMethod ⟨"DemoTapeModel", "next", "()I"⟩ ∈ wa := List.mem_filter.mpr ⟨List.mem_of_getElem? (i := 519) (by decide +kernel), by decide +kernel⟩
set_option maxRecDepth 20000 in
theorem mw520 : Cond.code ⟨"DemoTapeModel", "next", "()I"⟩ prog_7_method_18_code 2 (some .int) ∈ wa := List.mem_filter.mpr ⟨List.mem_of_getElem? (i := 520) (by decide +kernel), by decide +kernel⟩
set_option maxRecDepth 20000 in
theorem mw521 : Cond.methodLink "DemoTapeModel" 96 ⟨"DemoTapeModel", "wrong", "(II)V"⟩ ∈ wa := List.mem_filter.mpr ⟨List.mem_of_getElem? (i := 521) (by decide +kernel), by decide +kernel⟩
set_option maxRecDepth 20000 in
theorem mw523 : Cond.instanceMethod ⟨"DemoTapeModel", "wrong", "(II)V"⟩ ∈ wa := List.mem_filter.mpr ⟨List.mem_of_getElem? (i := 523) (by decide +kernel), by decide +kernel⟩
set_option maxRecDepth 20000 in
theorem mw524 : Cond.code ⟨"DemoTapeModel", "wrong", "(II)V"⟩ prog_7_method_17_code 3 none ∈ wa := List.mem_filter.mpr ⟨List.mem_of_getElem? (i := 524) (by decide +kernel), by decide +kernel⟩
set_option maxRecDepth 20000 in
theorem mw525 : Cond.methodLink "DemoTapeModel" 112 ⟨"DemoTapeModel", "nextTwo", "()I"⟩ ∈ wa := List.mem_filter.mpr ⟨List.mem_of_getElem? (i := 525) (by decide +kernel), by decide +kernel⟩
set_option maxRecDepth 20000 in
theorem mw527 : Cond.instanceMethod ⟨"DemoTapeModel", "nextTwo", "()I"⟩ ∈ wa := List.mem_filter.mpr ⟨List.mem_of_getElem? (i := 527) (by decide +kernel), by decide +kernel⟩
set_option maxRecDepth 20000 in
theorem mw528 : Cond.code ⟨"DemoTapeModel", "nextTwo", "()I"⟩ prog_7_method_20_code 2 (some .int) ∈ wa := List.mem_filter.mpr ⟨List.mem_of_getElem? (i := 528) (by decide +kernel), by decide +kernel⟩
set_option maxRecDepth 20000 in
theorem mw529 : Cond.constant "DemoTapeModel" 104 (65536) ∈ wa := List.mem_filter.mpr ⟨List.mem_of_getElem? (i := 529) (by decide +kernel), by decide +kernel⟩
set_option maxRecDepth 20000 in
theorem mw530 : Cond.methodLink "DemoTapeModel" 108 ⟨"DemoTapeModel", "nextUpTo", "(II)I"⟩ ∈ wa := List.mem_filter.mpr ⟨List.mem_of_getElem? (i := 530) (by decide +kernel), by decide +kernel⟩
set_option maxRecDepth 20000 in
theorem mw532 : Cond.instanceMethod ⟨"DemoTapeModel", "nextUpTo", "(II)I"⟩ ∈ wa := List.mem_filter.mpr ⟨List.mem_of_getElem? (i := 532) (by decide +kernel), by decide +kernel⟩
set_option maxRecDepth 20000 in
theorem mw533 : Cond.code ⟨"DemoTapeModel", "nextUpTo", "(II)I"⟩ prog_7_method_19_code 4 (some .int) ∈ wa := List.mem_filter.mpr ⟨List.mem_of_getElem? (i := 533) (by decide +kernel), by decide +kernel⟩
set_option maxRecDepth 20000 in
theorem mw534 : Cond.methodLink "DemoTapeModel" 115 ⟨"DemoTapeModel", "readGroup", "(II)V"⟩ ∈ wa := List.mem_filter.mpr ⟨List.mem_of_getElem? (i := 534) (by decide +kernel), by decide +kernel⟩
set_option maxRecDepth 20000 in
theorem mw536 : Cond.instanceMethod ⟨"DemoTapeModel", "readGroup", "(II)V"⟩ ∈ wa := List.mem_filter.mpr ⟨List.mem_of_getElem? (i := 536) (by decide +kernel), by decide +kernel⟩
set_option maxRecDepth 20000 in
theorem mw537 : Cond.code ⟨"DemoTapeModel", "readGroup", "(II)V"⟩ prog_7_method_21_code 12 none ∈ wa := List.mem_filter.mpr ⟨List.mem_of_getElem? (i := 537) (by decide +kernel), by decide +kernel⟩
set_option maxRecDepth 20000 in
theorem mw538 : Cond.methodLink "DemoTapeLaw" 65 ⟨"DemoTapeModel", "input", "(II)I"⟩ ∈ wa := List.mem_filter.mpr ⟨List.mem_of_getElem? (i := 538) (by decide +kernel), by decide +kernel⟩
set_option maxRecDepth 20000 in
theorem mw539 : Cond.instanceMethod ⟨"DemoTapeModel", "input", "(II)I"⟩ ∈ wa := List.mem_filter.mpr ⟨List.mem_of_getElem? (i := 539) (by decide +kernel), by decide +kernel⟩
set_option maxRecDepth 20000 in
theorem mw540 : Cond.selects "DemoTapeModel" ⟨"DemoTapeModel", "input", "(II)I"⟩ ⟨"DemoTapeModel", "input", "(II)I"⟩ ∈ wa := List.mem_filter.mpr ⟨List.mem_of_getElem? (i := 540) (by decide +kernel), by decide +kernel⟩
set_option maxRecDepth 20000 in
theorem mw541 : Cond.code ⟨"DemoTapeModel", "input", "(II)I"⟩ prog_7_method_24_code 3 (some .int) ∈ wa := List.mem_filter.mpr ⟨List.mem_of_getElem? (i := 541) (by decide +kernel), by decide +kernel⟩
set_option maxRecDepth 20000 in
theorem mw542 : Cond.constant "DemoTapeModel" 121 (100000) ∈ wa := List.mem_filter.mpr ⟨List.mem_of_getElem? (i := 542) (by decide +kernel), by decide +kernel⟩
set_option maxRecDepth 20000 in
theorem mw543 : Cond.methodLink "DemoTapeLaw" 70 ⟨"DemoTapeModel", "begin", "(I)I"⟩ ∈ wa := List.mem_filter.mpr ⟨List.mem_of_getElem? (i := 543) (by decide +kernel), by decide +kernel⟩
set_option maxRecDepth 20000 in
theorem mw544 : Cond.instanceMethod ⟨"DemoTapeModel", "begin", "(I)I"⟩ ∈ wa := List.mem_filter.mpr ⟨List.mem_of_getElem? (i := 544) (by decide +kernel), by decide +kernel⟩
set_option maxRecDepth 20000 in
theorem mw545 : Cond.selects "DemoTapeModel" ⟨"DemoTapeModel", "begin", "(I)I"⟩ ⟨"DemoTapeModel", "begin", "(I)I"⟩ ∈ wa := List.mem_filter.mpr ⟨List.mem_of_getElem? (i := 545) (by decide +kernel), by decide +kernel⟩
set_option maxRecDepth 20000 in
theorem mw546 : Cond.code ⟨"DemoTapeModel", "begin", "(I)I"⟩ prog_7_method_25_code 2 (some .int) ∈ wa := List.mem_filter.mpr ⟨List.mem_of_getElem? (i := 546) (by decide +kernel), by decide +kernel⟩
set_option maxRecDepth 20000 in
theorem mw547 : Cond.methodLink "DemoTapeLaw" 75 ⟨"DemoTapeModel", "byteAt", "(IZ)I"⟩ ∈ wa := List.mem_filter.mpr ⟨List.mem_of_getElem? (i := 547) (by decide +kernel), by decide +kernel⟩
set_option maxRecDepth 20000 in
theorem mw548 : Cond.instanceMethod ⟨"DemoTapeModel", "byteAt", "(IZ)I"⟩ ∈ wa := List.mem_filter.mpr ⟨List.mem_of_getElem? (i := 548) (by decide +kernel), by decide +kernel⟩
set_option maxRecDepth 20000 in
theorem mw549 : Cond.selects "DemoTapeModel" ⟨"DemoTapeModel", "byteAt", "(IZ)I"⟩ ⟨"DemoTapeModel", "byteAt", "(IZ)I"⟩ ∈ wa := List.mem_filter.mpr ⟨List.mem_of_getElem? (i := 549) (by decide +kernel), by decide +kernel⟩
set_option maxRecDepth 20000 in
theorem mw550 : Cond.code ⟨"DemoTapeModel", "byteAt", "(IZ)I"⟩ prog_7_method_26_code 3 (some .int) ∈ wa := List.mem_filter.mpr ⟨List.mem_of_getElem? (i := 550) (by decide +kernel), by decide +kernel⟩
set_option maxRecDepth 20000 in
theorem mw551 : Cond.methodLink "DemoTapeLaw" 79 ⟨"DemoTapeModel", "look", "(I)I"⟩ ∈ wa := List.mem_filter.mpr ⟨List.mem_of_getElem? (i := 551) (by decide +kernel), by decide +kernel⟩
set_option maxRecDepth 20000 in
theorem mw552 : Cond.instanceMethod ⟨"DemoTapeModel", "look", "(I)I"⟩ ∈ wa := List.mem_filter.mpr ⟨List.mem_of_getElem? (i := 552) (by decide +kernel), by decide +kernel⟩
set_option maxRecDepth 20000 in
theorem mw553 : Cond.selects "DemoTapeModel" ⟨"DemoTapeModel", "look", "(I)I"⟩ ⟨"DemoTapeModel", "look", "(I)I"⟩ ∈ wa := List.mem_filter.mpr ⟨List.mem_of_getElem? (i := 553) (by decide +kernel), by decide +kernel⟩
set_option maxRecDepth 20000 in
theorem mw554 : Cond.code ⟨"DemoTapeModel", "look", "(I)I"⟩ prog_7_method_29_code 2 (some .int) ∈ wa := List.mem_filter.mpr ⟨List.mem_of_getElem? (i := 554) (by decide +kernel), by decide +kernel⟩
set_option maxRecDepth 20000 in
theorem mw555 : Cond.methodLink "DemoTapeModel" 122 ⟨"DemoTapeModel", "groups", "()I"⟩ ∈ wa := List.mem_filter.mpr ⟨List.mem_of_getElem? (i := 555) (by decide +kernel), by decide +kernel⟩
set_option maxRecDepth 20000 in
theorem mw557 : Cond.instanceMethod ⟨"DemoTapeModel", "groups", "()I"⟩ ∈ wa := List.mem_filter.mpr ⟨List.mem_of_getElem? (i := 557) (by decide +kernel), by decide +kernel⟩
set_option maxRecDepth 20000 in
theorem mw558 : Cond.code ⟨"DemoTapeModel", "groups", "()I"⟩ prog_7_method_27_code 3 (some .int) ∈ wa := List.mem_filter.mpr ⟨List.mem_of_getElem? (i := 558) (by decide +kernel), by decide +kernel⟩
set_option maxRecDepth 20000 in
theorem mw559 : Cond.methodLink "DemoTapeModel" 125 ⟨"DemoTapeModel", "using", "()I"⟩ ∈ wa := List.mem_filter.mpr ⟨List.mem_of_getElem? (i := 559) (by decide +kernel), by decide +kernel⟩
set_option maxRecDepth 20000 in
theorem mw561 : Cond.instanceMethod ⟨"DemoTapeModel", "using", "()I"⟩ ∈ wa := List.mem_filter.mpr ⟨List.mem_of_getElem? (i := 561) (by decide +kernel), by decide +kernel⟩
set_option maxRecDepth 20000 in
theorem mw562 : Cond.code ⟨"DemoTapeModel", "using", "()I"⟩ prog_7_method_28_code 3 (some .int) ∈ wa := List.mem_filter.mpr ⟨List.mem_of_getElem? (i := 562) (by decide +kernel), by decide +kernel⟩
set_option maxRecDepth 20000 in
theorem mw563 : Cond.constantLong "DemoTapeLaw" 38 (4294967295 : Int64) ∈ wa := List.mem_filter.mpr ⟨List.mem_of_getElem? (i := 563) (by decide +kernel), by decide +kernel⟩
