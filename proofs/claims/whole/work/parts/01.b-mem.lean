def wa : List Cond := lw_tbl.filter goodWord
theorem gW {y : MethodName} {b : ByteArray} {n : Nat} {r : Option FieldType} (h : Cond.code y b n r ∈ wa) : GoodIn wa (Cond.code y b n r :: wa) := by
  intro w hw
  have hm : w ∈ wa := by
    rcases List.mem_cons.mp hw with q | q
    · rw [q]; exact h
    · exact q
  exact ⟨hm, good_of_word (List.mem_filter.mp hm).2⟩
theorem gA {us ws : List Cond} (hu : ∀ w ∈ us, w ∈ wa) (hw : GoodIn wa ws) : GoodIn wa (us ++ ws) := by
  intro w h
  rcases List.mem_append.mp h with q | q
  · exact ⟨hu w q, good_of_word (List.mem_filter.mp (hu w q)).2⟩
  · exact hw w q
theorem gV {own C : String} {idx : Nat} {y : MethodName} {b : ByteArray} {n : Nat} {r : Option FieldType} (h1 : Cond.methodLink own idx y ∈ wa) (h2 : Cond.instanceMethod y ∈ wa) (h3 : Cond.selects C y y ∈ wa) (h4 : Cond.initialized C ∈ wa) (h5 : Cond.code y b n r ∈ wa) : GoodIn wa (wsV own idx C y (Cond.code y b n r :: wa)) := by
  refine gA ?_ (gW h5)
  intro w hw
  rcases List.mem_cons.mp hw with q | hw
  · rw [q]; exact h1
  rcases List.mem_cons.mp hw with q | hw
  · rw [q]; exact h2
  rcases List.mem_cons.mp hw with q | hw
  · rw [q]; exact h3
  rw [List.mem_singleton.mp hw]; exact h4
theorem gS {own : String} {idx : Nat} {y : MethodName} {b : ByteArray} {n : Nat} {r : Option FieldType} (h1 : Cond.methodLink own idx y ∈ wa) (h2 : Cond.static y ∈ wa) (h4 : Cond.initialized y.cls ∈ wa) (h5 : Cond.code y b n r ∈ wa) : GoodIn wa (va_wsS own idx y (Cond.code y b n r :: wa)) := by
  refine gA ?_ (gW h5)
  intro w hw
  rcases List.mem_cons.mp hw with q | hw
  · rw [q]; exact h1
  rcases List.mem_cons.mp hw with q | hw
  · rw [q]; exact h2
  rw [List.mem_singleton.mp hw]; exact h4
set_option maxRecDepth 20000 in
theorem mw0 : Cond.selects "DemoTape$Walk" ⟨"DemoTape$Walk", "putGroups", "(LDemoTape$ByteRow;)V"⟩ ⟨"DemoTape$Walk", "putGroups", "(LDemoTape$ByteRow;)V"⟩ ∈ wa := List.mem_filter.mpr ⟨List.mem_of_getElem? (i := 0) (by decide +kernel), by decide +kernel⟩
set_option maxRecDepth 20000 in
theorem mw1 : Cond.selects "DemoTape$Walk" ⟨"DemoTape$Walk", "endsGroup", "(II)Z"⟩ ⟨"DemoTape$Walk", "endsGroup", "(II)Z"⟩ ∈ wa := List.mem_filter.mpr ⟨List.mem_of_getElem? (i := 1) (by decide +kernel), by decide +kernel⟩
set_option maxRecDepth 20000 in
theorem mw2 : Cond.selects "DemoTape$Reader" ⟨"DemoTape$Reader", "takeMark", "()V"⟩ ⟨"DemoTape$Reader", "takeMark", "()V"⟩ ∈ wa := List.mem_filter.mpr ⟨List.mem_of_getElem? (i := 2) (by decide +kernel), by decide +kernel⟩
set_option maxRecDepth 20000 in
theorem mw3 : Cond.selects "DemoTape$Reader" ⟨"DemoTape$Reader", "takeOnly", "(II)V"⟩ ⟨"DemoTape$Reader", "takeOnly", "(II)V"⟩ ∈ wa := List.mem_filter.mpr ⟨List.mem_of_getElem? (i := 3) (by decide +kernel), by decide +kernel⟩
set_option maxRecDepth 20000 in
theorem mw4 : Cond.selects "DemoTape$Reader" ⟨"DemoTape$Reader", "take", "(I)I"⟩ ⟨"DemoTape$Reader", "take", "(I)I"⟩ ∈ wa := List.mem_filter.mpr ⟨List.mem_of_getElem? (i := 4) (by decide +kernel), by decide +kernel⟩
set_option maxRecDepth 20000 in
theorem mw5 : Cond.selects "DemoTape$Reader" ⟨"DemoTape$Reader", "fail", "(II)V"⟩ ⟨"DemoTape$Reader", "fail", "(II)V"⟩ ∈ wa := List.mem_filter.mpr ⟨List.mem_of_getElem? (i := 5) (by decide +kernel), by decide +kernel⟩
set_option maxRecDepth 20000 in
theorem mw6 : Cond.selects "DemoTape$Reader" ⟨"DemoTape$Reader", "takeStart", "(LDemoTape$Walk;)V"⟩ ⟨"DemoTape$Reader", "takeStart", "(LDemoTape$Walk;)V"⟩ ∈ wa := List.mem_filter.mpr ⟨List.mem_of_getElem? (i := 6) (by decide +kernel), by decide +kernel⟩
set_option maxRecDepth 20000 in
theorem mw7 : Cond.selects "DemoTape$Reader" ⟨"DemoTape$Reader", "takePlace", "()I"⟩ ⟨"DemoTape$Reader", "takePlace", "()I"⟩ ∈ wa := List.mem_filter.mpr ⟨List.mem_of_getElem? (i := 7) (by decide +kernel), by decide +kernel⟩
set_option maxRecDepth 20000 in
theorem mw8 : Cond.selects "DemoTape$Reader" ⟨"DemoTape$Reader", "takeGroups", "(LDemoTape$Walk;)V"⟩ ⟨"DemoTape$Reader", "takeGroups", "(LDemoTape$Walk;)V"⟩ ∈ wa := List.mem_filter.mpr ⟨List.mem_of_getElem? (i := 8) (by decide +kernel), by decide +kernel⟩
set_option maxRecDepth 20000 in
theorem mw9 : Cond.selects "DemoTape$Reader" ⟨"DemoTape$Reader", "takeGroup", "(LDemoTape$Walk;)Z"⟩ ⟨"DemoTape$Reader", "takeGroup", "(LDemoTape$Walk;)Z"⟩ ∈ wa := List.mem_filter.mpr ⟨List.mem_of_getElem? (i := 9) (by decide +kernel), by decide +kernel⟩
set_option maxRecDepth 20000 in
theorem mw10 : Cond.selects "DemoTape$Reader" ⟨"DemoTape$Reader", "takeCode", "(I)I"⟩ ⟨"DemoTape$Reader", "takeCode", "(I)I"⟩ ∈ wa := List.mem_filter.mpr ⟨List.mem_of_getElem? (i := 10) (by decide +kernel), by decide +kernel⟩
set_option maxRecDepth 20000 in
theorem mw11 : Cond.selects "DemoTape$Reader" ⟨"DemoTape$Reader", "takeCheck", "()V"⟩ ⟨"DemoTape$Reader", "takeCheck", "()V"⟩ ∈ wa := List.mem_filter.mpr ⟨List.mem_of_getElem? (i := 11) (by decide +kernel), by decide +kernel⟩
set_option maxRecDepth 20000 in
theorem mw25 : Cond.initialized "DemoTape" ∈ wa := List.mem_filter.mpr ⟨List.mem_of_getElem? (i := 25) (by decide +kernel), by decide +kernel⟩
set_option maxRecDepth 20000 in
theorem mw26 : Cond.initialized "DemoTape$Walk" ∈ wa := List.mem_filter.mpr ⟨List.mem_of_getElem? (i := 26) (by decide +kernel), by decide +kernel⟩
set_option maxRecDepth 20000 in
theorem mw27 : Cond.initialized "DemoTape$ByteRow" ∈ wa := List.mem_filter.mpr ⟨List.mem_of_getElem? (i := 27) (by decide +kernel), by decide +kernel⟩
set_option maxRecDepth 20000 in
theorem mw28 : Cond.initialized "java/lang/Math" ∈ wa := List.mem_filter.mpr ⟨List.mem_of_getElem? (i := 28) (by decide +kernel), by decide +kernel⟩
set_option maxRecDepth 20000 in
theorem mw29 : Cond.initialized "DemoTape$Reader" ∈ wa := List.mem_filter.mpr ⟨List.mem_of_getElem? (i := 29) (by decide +kernel), by decide +kernel⟩
set_option maxRecDepth 20000 in
theorem mw31 : Cond.initialized "DemoTape$Code" ∈ wa := List.mem_filter.mpr ⟨List.mem_of_getElem? (i := 31) (by decide +kernel), by decide +kernel⟩
set_option maxRecDepth 20000 in
theorem mw32 : Cond.initialized "java/lang/System" ∈ wa := List.mem_filter.mpr ⟨List.mem_of_getElem? (i := 32) (by decide +kernel), by decide +kernel⟩
set_option maxRecDepth 20000 in
theorem mw38 : Cond.methodLink "DemoTape" 3 ⟨"java/lang/Object", "<init>", "()V"⟩ ∈ wa := List.mem_filter.mpr ⟨List.mem_of_getElem? (i := 38) (by decide +kernel), by decide +kernel⟩
set_option maxRecDepth 20000 in
theorem mw39 : Cond.instanceMethod ⟨"java/lang/Object", "<init>", "()V"⟩ ∈ wa := List.mem_filter.mpr ⟨List.mem_of_getElem? (i := 39) (by decide +kernel), by decide +kernel⟩
set_option maxRecDepth 20000 in
theorem mw40 : Cond.code ⟨"java/lang/Object", "<init>", "()V"⟩ object_method_1_code 1 none ∈ wa := List.mem_filter.mpr ⟨List.mem_of_getElem? (i := 40) (by decide +kernel), by decide +kernel⟩
set_option maxRecDepth 20000 in
theorem mw41 : Cond.classLink "DemoTape" 9 "DemoTape$Walk" ∈ wa := List.mem_filter.mpr ⟨List.mem_of_getElem? (i := 41) (by decide +kernel), by decide +kernel⟩
set_option maxRecDepth 20000 in
theorem mw42 : Cond.instantiable "DemoTape$Walk" 6 ∈ wa := List.mem_filter.mpr ⟨List.mem_of_getElem? (i := 42) (by decide +kernel), by decide +kernel⟩
set_option maxRecDepth 20000 in
theorem mw44 : Cond.instanceMethod ⟨"DemoTape$Walk", "<init>", "()V"⟩ ∈ wa := List.mem_filter.mpr ⟨List.mem_of_getElem? (i := 44) (by decide +kernel), by decide +kernel⟩
set_option maxRecDepth 20000 in
theorem mw45 : Cond.code ⟨"DemoTape$Walk", "<init>", "()V"⟩ prog_5_method_1_code 1 none ∈ wa := List.mem_filter.mpr ⟨List.mem_of_getElem? (i := 45) (by decide +kernel), by decide +kernel⟩
set_option maxRecDepth 20000 in
theorem mw46 : Cond.methodLink "DemoTape$Walk" 3 ⟨"java/lang/Object", "<init>", "()V"⟩ ∈ wa := List.mem_filter.mpr ⟨List.mem_of_getElem? (i := 46) (by decide +kernel), by decide +kernel⟩
set_option maxRecDepth 20000 in
theorem mw47 : Cond.fieldLink "DemoTape$Walk" 9 "DemoTape$Walk" "codes" "[I" ∈ wa := List.mem_filter.mpr ⟨List.mem_of_getElem? (i := 47) (by decide +kernel), by decide +kernel⟩
set_option maxRecDepth 20000 in
theorem mw48 : Cond.fieldLink "DemoTape$Walk" 15 "DemoTape$Walk" "count" "I" ∈ wa := List.mem_filter.mpr ⟨List.mem_of_getElem? (i := 48) (by decide +kernel), by decide +kernel⟩
set_option maxRecDepth 20000 in
theorem mw49 : Cond.fieldLink "DemoTape$Walk" 19 "DemoTape$Walk" "x" "I" ∈ wa := List.mem_filter.mpr ⟨List.mem_of_getElem? (i := 49) (by decide +kernel), by decide +kernel⟩
set_option maxRecDepth 20000 in
theorem mw50 : Cond.fieldLink "DemoTape$Walk" 22 "DemoTape$Walk" "y" "I" ∈ wa := List.mem_filter.mpr ⟨List.mem_of_getElem? (i := 50) (by decide +kernel), by decide +kernel⟩
set_option maxRecDepth 20000 in
theorem mw51 : Cond.fieldLink "DemoTape$Walk" 25 "DemoTape$Walk" "angle" "I" ∈ wa := List.mem_filter.mpr ⟨List.mem_of_getElem? (i := 51) (by decide +kernel), by decide +kernel⟩
set_option maxRecDepth 20000 in
theorem mw52 : Cond.fieldLink "DemoTape$Walk" 28 "DemoTape$Walk" "sector" "I" ∈ wa := List.mem_filter.mpr ⟨List.mem_of_getElem? (i := 52) (by decide +kernel), by decide +kernel⟩
set_option maxRecDepth 20000 in
theorem mw66 : Cond.arrayClass .int ∈ wa := List.mem_filter.mpr ⟨List.mem_of_getElem? (i := 66) (by decide +kernel), by decide +kernel⟩
set_option maxRecDepth 20000 in
theorem mw67 : Cond.classLink "DemoTape" 19 "DemoTape$ByteRow" ∈ wa := List.mem_filter.mpr ⟨List.mem_of_getElem? (i := 67) (by decide +kernel), by decide +kernel⟩
set_option maxRecDepth 20000 in
theorem mw68 : Cond.instantiable "DemoTape$ByteRow" 2 ∈ wa := List.mem_filter.mpr ⟨List.mem_of_getElem? (i := 68) (by decide +kernel), by decide +kernel⟩
set_option maxRecDepth 20000 in
theorem mw69 : Cond.methodLink "DemoTape" 21 ⟨"DemoTape$ByteRow", "<init>", "(I)V"⟩ ∈ wa := List.mem_filter.mpr ⟨List.mem_of_getElem? (i := 69) (by decide +kernel), by decide +kernel⟩
set_option maxRecDepth 20000 in
theorem mw70 : Cond.instanceMethod ⟨"DemoTape$ByteRow", "<init>", "(I)V"⟩ ∈ wa := List.mem_filter.mpr ⟨List.mem_of_getElem? (i := 70) (by decide +kernel), by decide +kernel⟩
set_option maxRecDepth 20000 in
theorem mw71 : Cond.code ⟨"DemoTape$ByteRow", "<init>", "(I)V"⟩ prog_2_method_1_code 2 none ∈ wa := List.mem_filter.mpr ⟨List.mem_of_getElem? (i := 71) (by decide +kernel), by decide +kernel⟩
set_option maxRecDepth 20000 in
theorem mw72 : Cond.methodLink "DemoTape$ByteRow" 3 ⟨"java/lang/Object", "<init>", "()V"⟩ ∈ wa := List.mem_filter.mpr ⟨List.mem_of_getElem? (i := 72) (by decide +kernel), by decide +kernel⟩
set_option maxRecDepth 20000 in
theorem mw73 : Cond.methodLink "DemoTape$ByteRow" 9 ⟨"java/lang/Math", "max", "(II)I"⟩ ∈ wa := List.mem_filter.mpr ⟨List.mem_of_getElem? (i := 73) (by decide +kernel), by decide +kernel⟩
set_option maxRecDepth 20000 in
theorem mw74 : Cond.static ⟨"java/lang/Math", "max", "(II)I"⟩ ∈ wa := List.mem_filter.mpr ⟨List.mem_of_getElem? (i := 74) (by decide +kernel), by decide +kernel⟩
set_option maxRecDepth 20000 in
theorem mw75 : Cond.code ⟨"java/lang/Math", "max", "(II)I"⟩ prog_8_method_65_code 2 (some .int) ∈ wa := List.mem_filter.mpr ⟨List.mem_of_getElem? (i := 75) (by decide +kernel), by decide +kernel⟩
set_option maxRecDepth 20000 in
theorem mw76 : Cond.fieldLink "DemoTape$ByteRow" 15 "DemoTape$ByteRow" "bytes" "[B" ∈ wa := List.mem_filter.mpr ⟨List.mem_of_getElem? (i := 76) (by decide +kernel), by decide +kernel⟩
set_option maxRecDepth 20000 in
theorem mw77 : Cond.fieldLink "DemoTape$ByteRow" 21 "DemoTape$ByteRow" "size" "I" ∈ wa := List.mem_filter.mpr ⟨List.mem_of_getElem? (i := 77) (by decide +kernel), by decide +kernel⟩
set_option maxRecDepth 20000 in
theorem mw83 : Cond.arrayClass .byte ∈ wa := List.mem_filter.mpr ⟨List.mem_of_getElem? (i := 83) (by decide +kernel), by decide +kernel⟩
set_option maxRecDepth 20000 in
theorem mw84 : Cond.classLink "DemoTape" 31 "DemoTape$Reader" ∈ wa := List.mem_filter.mpr ⟨List.mem_of_getElem? (i := 84) (by decide +kernel), by decide +kernel⟩
set_option maxRecDepth 20000 in
theorem mw85 : Cond.instantiable "DemoTape$Reader" 5 ∈ wa := List.mem_filter.mpr ⟨List.mem_of_getElem? (i := 85) (by decide +kernel), by decide +kernel⟩
set_option maxRecDepth 20000 in
theorem mw86 : Cond.methodLink "DemoTape" 33 ⟨"DemoTape$Reader", "<init>", "(LDemoTape$ByteRow;)V"⟩ ∈ wa := List.mem_filter.mpr ⟨List.mem_of_getElem? (i := 86) (by decide +kernel), by decide +kernel⟩
set_option maxRecDepth 20000 in
theorem mw87 : Cond.instanceMethod ⟨"DemoTape$Reader", "<init>", "(LDemoTape$ByteRow;)V"⟩ ∈ wa := List.mem_filter.mpr ⟨List.mem_of_getElem? (i := 87) (by decide +kernel), by decide +kernel⟩
set_option maxRecDepth 20000 in
theorem mw88 : Cond.code ⟨"DemoTape$Reader", "<init>", "(LDemoTape$ByteRow;)V"⟩ prog_4_method_1_code 2 none ∈ wa := List.mem_filter.mpr ⟨List.mem_of_getElem? (i := 88) (by decide +kernel), by decide +kernel⟩
set_option maxRecDepth 20000 in
theorem mw89 : Cond.methodLink "DemoTape$Reader" 3 ⟨"java/lang/Object", "<init>", "()V"⟩ ∈ wa := List.mem_filter.mpr ⟨List.mem_of_getElem? (i := 89) (by decide +kernel), by decide +kernel⟩
set_option maxRecDepth 20000 in
theorem mw90 : Cond.fieldLink "DemoTape$Reader" 9 "DemoTape$Reader" "row" "LDemoTape$ByteRow;" ∈ wa := List.mem_filter.mpr ⟨List.mem_of_getElem? (i := 90) (by decide +kernel), by decide +kernel⟩
set_option maxRecDepth 20000 in
theorem mw91 : Cond.fieldLink "DemoTape$Reader" 22 "DemoTape$Reader" "next" "I" ∈ wa := List.mem_filter.mpr ⟨List.mem_of_getElem? (i := 91) (by decide +kernel), by decide +kernel⟩
set_option maxRecDepth 20000 in
theorem mw92 : Cond.fieldLink "DemoTape$Reader" 25 "DemoTape$Reader" "aheadN" "I" ∈ wa := List.mem_filter.mpr ⟨List.mem_of_getElem? (i := 92) (by decide +kernel), by decide +kernel⟩
set_option maxRecDepth 20000 in
theorem mw93 : Cond.fieldLink "DemoTape$Reader" 15 "DemoTape$Reader" "fault" "I" ∈ wa := List.mem_filter.mpr ⟨List.mem_of_getElem? (i := 93) (by decide +kernel), by decide +kernel⟩
set_option maxRecDepth 20000 in
theorem mw94 : Cond.fieldLink "DemoTape$Reader" 19 "DemoTape$Reader" "faultPlace" "I" ∈ wa := List.mem_filter.mpr ⟨List.mem_of_getElem? (i := 94) (by decide +kernel), by decide +kernel⟩
set_option maxRecDepth 20000 in
theorem mw106 : Cond.fieldLink "DemoTape" 12 "DemoTape" "walk" "LDemoTape$Walk;" ∈ wa := List.mem_filter.mpr ⟨List.mem_of_getElem? (i := 106) (by decide +kernel), by decide +kernel⟩
set_option maxRecDepth 20000 in
theorem mw107 : Cond.fieldLink "DemoTape" 16 "DemoTape" "spare" "LDemoTape$Walk;" ∈ wa := List.mem_filter.mpr ⟨List.mem_of_getElem? (i := 107) (by decide +kernel), by decide +kernel⟩
set_option maxRecDepth 20000 in
theorem mw108 : Cond.fieldLink "DemoTape" 24 "DemoTape" "outBytes" "LDemoTape$ByteRow;" ∈ wa := List.mem_filter.mpr ⟨List.mem_of_getElem? (i := 108) (by decide +kernel), by decide +kernel⟩
set_option maxRecDepth 20000 in
theorem mw109 : Cond.fieldLink "DemoTape" 28 "DemoTape" "inBytes" "LDemoTape$ByteRow;" ∈ wa := List.mem_filter.mpr ⟨List.mem_of_getElem? (i := 109) (by decide +kernel), by decide +kernel⟩
set_option maxRecDepth 20000 in
theorem mw110 : Cond.fieldLink "DemoTape" 36 "DemoTape" "reader" "LDemoTape$Reader;" ∈ wa := List.mem_filter.mpr ⟨List.mem_of_getElem? (i := 110) (by decide +kernel), by decide +kernel⟩
set_option maxRecDepth 20000 in
theorem mw126 : Cond.methodLink "DemoTape" 40 ⟨"DemoTape", "isWithin", "(III)Z"⟩ ∈ wa := List.mem_filter.mpr ⟨List.mem_of_getElem? (i := 126) (by decide +kernel), by decide +kernel⟩
set_option maxRecDepth 20000 in
theorem mw127 : Cond.static ⟨"DemoTape", "isWithin", "(III)Z"⟩ ∈ wa := List.mem_filter.mpr ⟨List.mem_of_getElem? (i := 127) (by decide +kernel), by decide +kernel⟩
set_option maxRecDepth 20000 in
theorem mw128 : Cond.code ⟨"DemoTape", "isWithin", "(III)Z"⟩ prog_1_method_16_code 3 (some .boolean) ∈ wa := List.mem_filter.mpr ⟨List.mem_of_getElem? (i := 128) (by decide +kernel), by decide +kernel⟩
set_option maxRecDepth 20000 in
theorem mw129 : Cond.methodLink "DemoTape" 44 ⟨"DemoTape$Walk", "setStart", "(IIII)V"⟩ ∈ wa := List.mem_filter.mpr ⟨List.mem_of_getElem? (i := 129) (by decide +kernel), by decide +kernel⟩
set_option maxRecDepth 20000 in
theorem mw130 : Cond.instanceMethod ⟨"DemoTape$Walk", "setStart", "(IIII)V"⟩ ∈ wa := List.mem_filter.mpr ⟨List.mem_of_getElem? (i := 130) (by decide +kernel), by decide +kernel⟩
set_option maxRecDepth 20000 in
theorem mw131 : Cond.selects "DemoTape$Walk" ⟨"DemoTape$Walk", "setStart", "(IIII)V"⟩ ⟨"DemoTape$Walk", "setStart", "(IIII)V"⟩ ∈ wa := List.mem_filter.mpr ⟨List.mem_of_getElem? (i := 131) (by decide +kernel), by decide +kernel⟩
set_option maxRecDepth 20000 in
theorem mw132 : Cond.code ⟨"DemoTape$Walk", "setStart", "(IIII)V"⟩ prog_5_method_5_code 5 none ∈ wa := List.mem_filter.mpr ⟨List.mem_of_getElem? (i := 132) (by decide +kernel), by decide +kernel⟩
set_option maxRecDepth 20000 in
theorem mw137 : Cond.methodLink "DemoTape" 48 ⟨"DemoTape$Walk", "room", "()I"⟩ ∈ wa := List.mem_filter.mpr ⟨List.mem_of_getElem? (i := 137) (by decide +kernel), by decide +kernel⟩
set_option maxRecDepth 20000 in
theorem mw138 : Cond.instanceMethod ⟨"DemoTape$Walk", "room", "()I"⟩ ∈ wa := List.mem_filter.mpr ⟨List.mem_of_getElem? (i := 138) (by decide +kernel), by decide +kernel⟩
set_option maxRecDepth 20000 in
theorem mw139 : Cond.selects "DemoTape$Walk" ⟨"DemoTape$Walk", "room", "()I"⟩ ⟨"DemoTape$Walk", "room", "()I"⟩ ∈ wa := List.mem_filter.mpr ⟨List.mem_of_getElem? (i := 139) (by decide +kernel), by decide +kernel⟩
set_option maxRecDepth 20000 in
theorem mw140 : Cond.code ⟨"DemoTape$Walk", "room", "()I"⟩ prog_5_method_3_code 1 (some .int) ∈ wa := List.mem_filter.mpr ⟨List.mem_of_getElem? (i := 140) (by decide +kernel), by decide +kernel⟩
set_option maxRecDepth 20000 in
theorem mw141 : Cond.methodLink "DemoTape" 52 ⟨"DemoTape$Code", "of", "(ZIII)I"⟩ ∈ wa := List.mem_filter.mpr ⟨List.mem_of_getElem? (i := 141) (by decide +kernel), by decide +kernel⟩
set_option maxRecDepth 20000 in
theorem mw142 : Cond.static ⟨"DemoTape$Code", "of", "(ZIII)I"⟩ ∈ wa := List.mem_filter.mpr ⟨List.mem_of_getElem? (i := 142) (by decide +kernel), by decide +kernel⟩
set_option maxRecDepth 20000 in
theorem mw143 : Cond.code ⟨"DemoTape$Code", "of", "(ZIII)I"⟩ prog_3_method_2_code 4 (some .int) ∈ wa := List.mem_filter.mpr ⟨List.mem_of_getElem? (i := 143) (by decide +kernel), by decide +kernel⟩
set_option maxRecDepth 20000 in
theorem mw144 : Cond.constant "DemoTape$Code" 11 (16777216) ∈ wa := List.mem_filter.mpr ⟨List.mem_of_getElem? (i := 144) (by decide +kernel), by decide +kernel⟩
set_option maxRecDepth 20000 in
theorem mw145 : Cond.methodLink "DemoTape" 58 ⟨"DemoTape$Walk", "append", "(II)V"⟩ ∈ wa := List.mem_filter.mpr ⟨List.mem_of_getElem? (i := 145) (by decide +kernel), by decide +kernel⟩
set_option maxRecDepth 20000 in
theorem mw146 : Cond.instanceMethod ⟨"DemoTape$Walk", "append", "(II)V"⟩ ∈ wa := List.mem_filter.mpr ⟨List.mem_of_getElem? (i := 146) (by decide +kernel), by decide +kernel⟩
set_option maxRecDepth 20000 in
theorem mw147 : Cond.selects "DemoTape$Walk" ⟨"DemoTape$Walk", "append", "(II)V"⟩ ⟨"DemoTape$Walk", "append", "(II)V"⟩ ∈ wa := List.mem_filter.mpr ⟨List.mem_of_getElem? (i := 147) (by decide +kernel), by decide +kernel⟩
set_option maxRecDepth 20000 in
theorem mw148 : Cond.code ⟨"DemoTape$Walk", "append", "(II)V"⟩ prog_5_method_7_code 5 none ∈ wa := List.mem_filter.mpr ⟨List.mem_of_getElem? (i := 148) (by decide +kernel), by decide +kernel⟩
set_option maxRecDepth 20000 in
theorem mw149 : Cond.methodLink "DemoTape$Walk" 32 ⟨"java/lang/Math", "min", "(II)I"⟩ ∈ wa := List.mem_filter.mpr ⟨List.mem_of_getElem? (i := 149) (by decide +kernel), by decide +kernel⟩
set_option maxRecDepth 20000 in
theorem mw150 : Cond.static ⟨"java/lang/Math", "min", "(II)I"⟩ ∈ wa := List.mem_filter.mpr ⟨List.mem_of_getElem? (i := 150) (by decide +kernel), by decide +kernel⟩
set_option maxRecDepth 20000 in
theorem mw151 : Cond.code ⟨"java/lang/Math", "min", "(II)I"⟩ prog_8_method_69_code 2 (some .int) ∈ wa := List.mem_filter.mpr ⟨List.mem_of_getElem? (i := 151) (by decide +kernel), by decide +kernel⟩
set_option maxRecDepth 20000 in
theorem mw152 : Cond.methodLink "DemoTape" 62 ⟨"DemoTape$Walk", "count", "()I"⟩ ∈ wa := List.mem_filter.mpr ⟨List.mem_of_getElem? (i := 152) (by decide +kernel), by decide +kernel⟩
set_option maxRecDepth 20000 in
theorem mw153 : Cond.instanceMethod ⟨"DemoTape$Walk", "count", "()I"⟩ ∈ wa := List.mem_filter.mpr ⟨List.mem_of_getElem? (i := 153) (by decide +kernel), by decide +kernel⟩
set_option maxRecDepth 20000 in
theorem mw154 : Cond.selects "DemoTape$Walk" ⟨"DemoTape$Walk", "count", "()I"⟩ ⟨"DemoTape$Walk", "count", "()I"⟩ ∈ wa := List.mem_filter.mpr ⟨List.mem_of_getElem? (i := 154) (by decide +kernel), by decide +kernel⟩
set_option maxRecDepth 20000 in
theorem mw155 : Cond.code ⟨"DemoTape$Walk", "count", "()I"⟩ prog_5_method_2_code 1 (some .int) ∈ wa := List.mem_filter.mpr ⟨List.mem_of_getElem? (i := 155) (by decide +kernel), by decide +kernel⟩
set_option maxRecDepth 20000 in
theorem mw160 : Cond.methodLink "DemoTape" 65 ⟨"DemoTape$Walk", "dropLast", "(I)V"⟩ ∈ wa := List.mem_filter.mpr ⟨List.mem_of_getElem? (i := 160) (by decide +kernel), by decide +kernel⟩
set_option maxRecDepth 20000 in
theorem mw161 : Cond.instanceMethod ⟨"DemoTape$Walk", "dropLast", "(I)V"⟩ ∈ wa := List.mem_filter.mpr ⟨List.mem_of_getElem? (i := 161) (by decide +kernel), by decide +kernel⟩
set_option maxRecDepth 20000 in
theorem mw162 : Cond.selects "DemoTape$Walk" ⟨"DemoTape$Walk", "dropLast", "(I)V"⟩ ⟨"DemoTape$Walk", "dropLast", "(I)V"⟩ ∈ wa := List.mem_filter.mpr ⟨List.mem_of_getElem? (i := 162) (by decide +kernel), by decide +kernel⟩
set_option maxRecDepth 20000 in
theorem mw163 : Cond.code ⟨"DemoTape$Walk", "dropLast", "(I)V"⟩ prog_5_method_9_code 2 none ∈ wa := List.mem_filter.mpr ⟨List.mem_of_getElem? (i := 163) (by decide +kernel), by decide +kernel⟩
set_option maxRecDepth 20000 in
theorem mw164 : Cond.methodLink "DemoTape$Walk" 46 ⟨"java/lang/Math", "max", "(II)I"⟩ ∈ wa := List.mem_filter.mpr ⟨List.mem_of_getElem? (i := 164) (by decide +kernel), by decide +kernel⟩
set_option maxRecDepth 20000 in
theorem mw169 : Cond.methodLink "DemoTape" 68 ⟨"DemoTape$Walk", "repeat", "(II)V"⟩ ∈ wa := List.mem_filter.mpr ⟨List.mem_of_getElem? (i := 169) (by decide +kernel), by decide +kernel⟩
set_option maxRecDepth 20000 in
theorem mw170 : Cond.instanceMethod ⟨"DemoTape$Walk", "repeat", "(II)V"⟩ ∈ wa := List.mem_filter.mpr ⟨List.mem_of_getElem? (i := 170) (by decide +kernel), by decide +kernel⟩
set_option maxRecDepth 20000 in
theorem mw171 : Cond.selects "DemoTape$Walk" ⟨"DemoTape$Walk", "repeat", "(II)V"⟩ ⟨"DemoTape$Walk", "repeat", "(II)V"⟩ ∈ wa := List.mem_filter.mpr ⟨List.mem_of_getElem? (i := 171) (by decide +kernel), by decide +kernel⟩
set_option maxRecDepth 20000 in
theorem mw172 : Cond.code ⟨"DemoTape$Walk", "repeat", "(II)V"⟩ prog_5_method_8_code 4 none ∈ wa := List.mem_filter.mpr ⟨List.mem_of_getElem? (i := 172) (by decide +kernel), by decide +kernel⟩
set_option maxRecDepth 20000 in
theorem mw173 : Cond.methodLink "DemoTape$Walk" 38 ⟨"DemoTape$Walk", "codeAt", "(I)I"⟩ ∈ wa := List.mem_filter.mpr ⟨List.mem_of_getElem? (i := 173) (by decide +kernel), by decide +kernel⟩
set_option maxRecDepth 20000 in
theorem mw174 : Cond.instanceMethod ⟨"DemoTape$Walk", "codeAt", "(I)I"⟩ ∈ wa := List.mem_filter.mpr ⟨List.mem_of_getElem? (i := 174) (by decide +kernel), by decide +kernel⟩
set_option maxRecDepth 20000 in
theorem mw175 : Cond.selects "DemoTape$Walk" ⟨"DemoTape$Walk", "codeAt", "(I)I"⟩ ⟨"DemoTape$Walk", "codeAt", "(I)I"⟩ ∈ wa := List.mem_filter.mpr ⟨List.mem_of_getElem? (i := 175) (by decide +kernel), by decide +kernel⟩
set_option maxRecDepth 20000 in
theorem mw176 : Cond.code ⟨"DemoTape$Walk", "codeAt", "(I)I"⟩ prog_5_method_4_code 2 (some .int) ∈ wa := List.mem_filter.mpr ⟨List.mem_of_getElem? (i := 176) (by decide +kernel), by decide +kernel⟩
set_option maxRecDepth 20000 in
theorem mw177 : Cond.methodLink "DemoTape$Walk" 42 ⟨"DemoTape$Walk", "append", "(II)V"⟩ ∈ wa := List.mem_filter.mpr ⟨List.mem_of_getElem? (i := 177) (by decide +kernel), by decide +kernel⟩
set_option maxRecDepth 20000 in
theorem mw182 : Cond.methodLink "DemoTape" 71 ⟨"DemoTape$ByteRow", "keepFirst", "(I)V"⟩ ∈ wa := List.mem_filter.mpr ⟨List.mem_of_getElem? (i := 182) (by decide +kernel), by decide +kernel⟩
set_option maxRecDepth 20000 in
theorem mw183 : Cond.instanceMethod ⟨"DemoTape$ByteRow", "keepFirst", "(I)V"⟩ ∈ wa := List.mem_filter.mpr ⟨List.mem_of_getElem? (i := 183) (by decide +kernel), by decide +kernel⟩
set_option maxRecDepth 20000 in
theorem mw184 : Cond.selects "DemoTape$ByteRow" ⟨"DemoTape$ByteRow", "keepFirst", "(I)V"⟩ ⟨"DemoTape$ByteRow", "keepFirst", "(I)V"⟩ ∈ wa := List.mem_filter.mpr ⟨List.mem_of_getElem? (i := 184) (by decide +kernel), by decide +kernel⟩
set_option maxRecDepth 20000 in
theorem mw185 : Cond.code ⟨"DemoTape$ByteRow", "keepFirst", "(I)V"⟩ prog_2_method_7_code 2 none ∈ wa := List.mem_filter.mpr ⟨List.mem_of_getElem? (i := 185) (by decide +kernel), by decide +kernel⟩
set_option maxRecDepth 20000 in
theorem mw186 : Cond.methodLink "DemoTape$ByteRow" 25 ⟨"java/lang/Math", "min", "(II)I"⟩ ∈ wa := List.mem_filter.mpr ⟨List.mem_of_getElem? (i := 186) (by decide +kernel), by decide +kernel⟩
set_option maxRecDepth 20000 in
theorem mw187 : Cond.methodLink "DemoTape" 74 ⟨"DemoTape$Walk", "putInto", "(LDemoTape$ByteRow;)V"⟩ ∈ wa := List.mem_filter.mpr ⟨List.mem_of_getElem? (i := 187) (by decide +kernel), by decide +kernel⟩
set_option maxRecDepth 20000 in
theorem mw188 : Cond.instanceMethod ⟨"DemoTape$Walk", "putInto", "(LDemoTape$ByteRow;)V"⟩ ∈ wa := List.mem_filter.mpr ⟨List.mem_of_getElem? (i := 188) (by decide +kernel), by decide +kernel⟩
set_option maxRecDepth 20000 in
theorem mw189 : Cond.selects "DemoTape$Walk" ⟨"DemoTape$Walk", "putInto", "(LDemoTape$ByteRow;)V"⟩ ⟨"DemoTape$Walk", "putInto", "(LDemoTape$ByteRow;)V"⟩ ∈ wa := List.mem_filter.mpr ⟨List.mem_of_getElem? (i := 189) (by decide +kernel), by decide +kernel⟩
set_option maxRecDepth 20000 in
theorem mw190 : Cond.code ⟨"DemoTape$Walk", "putInto", "(LDemoTape$ByteRow;)V"⟩ prog_5_method_14_code 3 none ∈ wa := List.mem_filter.mpr ⟨List.mem_of_getElem? (i := 190) (by decide +kernel), by decide +kernel⟩
set_option maxRecDepth 20000 in
theorem mw193 : Cond.methodLink "DemoTape$Walk" 62 ⟨"DemoTape$ByteRow", "addLowest", "(JI)V"⟩ ∈ wa := List.mem_filter.mpr ⟨List.mem_of_getElem? (i := 193) (by decide +kernel), by decide +kernel⟩
set_option maxRecDepth 20000 in
theorem mw194 : Cond.instanceMethod ⟨"DemoTape$ByteRow", "addLowest", "(JI)V"⟩ ∈ wa := List.mem_filter.mpr ⟨List.mem_of_getElem? (i := 194) (by decide +kernel), by decide +kernel⟩
set_option maxRecDepth 20000 in
theorem mw195 : Cond.selects "DemoTape$ByteRow" ⟨"DemoTape$ByteRow", "addLowest", "(JI)V"⟩ ⟨"DemoTape$ByteRow", "addLowest", "(JI)V"⟩ ∈ wa := List.mem_filter.mpr ⟨List.mem_of_getElem? (i := 195) (by decide +kernel), by decide +kernel⟩
set_option maxRecDepth 20000 in
theorem mw196 : Cond.code ⟨"DemoTape$ByteRow", "addLowest", "(JI)V"⟩ prog_2_method_6_code 5 none ∈ wa := List.mem_filter.mpr ⟨List.mem_of_getElem? (i := 196) (by decide +kernel), by decide +kernel⟩
set_option maxRecDepth 20000 in
theorem mw197 : Cond.methodLink "DemoTape$Walk" 68 ⟨"DemoTape$Walk", "putGroups", "(LDemoTape$ByteRow;)V"⟩ ∈ wa := List.mem_filter.mpr ⟨List.mem_of_getElem? (i := 197) (by decide +kernel), by decide +kernel⟩
set_option maxRecDepth 20000 in
theorem mw199 : Cond.instanceMethod ⟨"DemoTape$Walk", "putGroups", "(LDemoTape$ByteRow;)V"⟩ ∈ wa := List.mem_filter.mpr ⟨List.mem_of_getElem? (i := 199) (by decide +kernel), by decide +kernel⟩
set_option maxRecDepth 20000 in
theorem mw200 : Cond.code ⟨"DemoTape$Walk", "putGroups", "(LDemoTape$ByteRow;)V"⟩ prog_5_method_15_code 4 none ∈ wa := List.mem_filter.mpr ⟨List.mem_of_getElem? (i := 200) (by decide +kernel), by decide +kernel⟩
set_option maxRecDepth 20000 in
theorem mw201 : Cond.methodLink "DemoTape$Walk" 55 ⟨"DemoTape$Walk", "endsGroup", "(II)Z"⟩ ∈ wa := List.mem_filter.mpr ⟨List.mem_of_getElem? (i := 201) (by decide +kernel), by decide +kernel⟩
set_option maxRecDepth 20000 in
theorem mw203 : Cond.instanceMethod ⟨"DemoTape$Walk", "endsGroup", "(II)Z"⟩ ∈ wa := List.mem_filter.mpr ⟨List.mem_of_getElem? (i := 203) (by decide +kernel), by decide +kernel⟩
set_option maxRecDepth 20000 in
theorem mw204 : Cond.code ⟨"DemoTape$Walk", "endsGroup", "(II)Z"⟩ prog_5_method_13_code 3 (some .boolean) ∈ wa := List.mem_filter.mpr ⟨List.mem_of_getElem? (i := 204) (by decide +kernel), by decide +kernel⟩
set_option maxRecDepth 20000 in
theorem mw205 : Cond.methodLink "DemoTape$Walk" 79 ⟨"DemoTape$Walk", "putGroup", "(LDemoTape$ByteRow;II)V"⟩ ∈ wa := List.mem_filter.mpr ⟨List.mem_of_getElem? (i := 205) (by decide +kernel), by decide +kernel⟩
set_option maxRecDepth 20000 in
theorem mw206 : Cond.static ⟨"DemoTape$Walk", "putGroup", "(LDemoTape$ByteRow;II)V"⟩ ∈ wa := List.mem_filter.mpr ⟨List.mem_of_getElem? (i := 206) (by decide +kernel), by decide +kernel⟩
set_option maxRecDepth 20000 in
theorem mw207 : Cond.code ⟨"DemoTape$Walk", "putGroup", "(LDemoTape$ByteRow;II)V"⟩ prog_5_method_16_code 4 none ∈ wa := List.mem_filter.mpr ⟨List.mem_of_getElem? (i := 207) (by decide +kernel), by decide +kernel⟩
set_option maxRecDepth 20000 in
theorem mw208 : Cond.methodLink "DemoTape$Walk" 83 ⟨"DemoTape$Code", "hasSide", "(I)Z"⟩ ∈ wa := List.mem_filter.mpr ⟨List.mem_of_getElem? (i := 208) (by decide +kernel), by decide +kernel⟩
set_option maxRecDepth 20000 in
theorem mw209 : Cond.static ⟨"DemoTape$Code", "hasSide", "(I)Z"⟩ ∈ wa := List.mem_filter.mpr ⟨List.mem_of_getElem? (i := 209) (by decide +kernel), by decide +kernel⟩
set_option maxRecDepth 20000 in
theorem mw210 : Cond.code ⟨"DemoTape$Code", "hasSide", "(I)Z"⟩ prog_3_method_7_code 1 (some .boolean) ∈ wa := List.mem_filter.mpr ⟨List.mem_of_getElem? (i := 210) (by decide +kernel), by decide +kernel⟩
set_option maxRecDepth 20000 in
theorem mw211 : Cond.methodLink "DemoTape$Code" 12 ⟨"DemoTape$Code", "asideByte", "(I)I"⟩ ∈ wa := List.mem_filter.mpr ⟨List.mem_of_getElem? (i := 211) (by decide +kernel), by decide +kernel⟩
set_option maxRecDepth 20000 in
theorem mw212 : Cond.static ⟨"DemoTape$Code", "asideByte", "(I)I"⟩ ∈ wa := List.mem_filter.mpr ⟨List.mem_of_getElem? (i := 212) (by decide +kernel), by decide +kernel⟩
set_option maxRecDepth 20000 in
theorem mw213 : Cond.code ⟨"DemoTape$Code", "asideByte", "(I)I"⟩ prog_3_method_5_code 1 (some .int) ∈ wa := List.mem_filter.mpr ⟨List.mem_of_getElem? (i := 213) (by decide +kernel), by decide +kernel⟩
set_option maxRecDepth 20000 in
theorem mw214 : Cond.methodLink "DemoTape$Code" 16 ⟨"DemoTape$Code", "turnByte", "(I)I"⟩ ∈ wa := List.mem_filter.mpr ⟨List.mem_of_getElem? (i := 214) (by decide +kernel), by decide +kernel⟩
set_option maxRecDepth 20000 in
theorem mw215 : Cond.static ⟨"DemoTape$Code", "turnByte", "(I)I"⟩ ∈ wa := List.mem_filter.mpr ⟨List.mem_of_getElem? (i := 215) (by decide +kernel), by decide +kernel⟩
set_option maxRecDepth 20000 in
theorem mw216 : Cond.code ⟨"DemoTape$Code", "turnByte", "(I)I"⟩ prog_3_method_6_code 1 (some .int) ∈ wa := List.mem_filter.mpr ⟨List.mem_of_getElem? (i := 216) (by decide +kernel), by decide +kernel⟩
set_option maxRecDepth 20000 in
theorem mw217 : Cond.methodLink "DemoTape$Walk" 49 ⟨"DemoTape$Code", "uses", "(I)Z"⟩ ∈ wa := List.mem_filter.mpr ⟨List.mem_of_getElem? (i := 217) (by decide +kernel), by decide +kernel⟩
set_option maxRecDepth 20000 in
theorem mw218 : Cond.static ⟨"DemoTape$Code", "uses", "(I)Z"⟩ ∈ wa := List.mem_filter.mpr ⟨List.mem_of_getElem? (i := 218) (by decide +kernel), by decide +kernel⟩
set_option maxRecDepth 20000 in
theorem mw219 : Cond.code ⟨"DemoTape$Code", "uses", "(I)Z"⟩ prog_3_method_3_code 1 (some .boolean) ∈ wa := List.mem_filter.mpr ⟨List.mem_of_getElem? (i := 219) (by decide +kernel), by decide +kernel⟩
set_option maxRecDepth 20000 in
theorem mw220 : Cond.methodLink "DemoTape$Walk" 86 ⟨"DemoTape$Code", "aheadByte", "(I)I"⟩ ∈ wa := List.mem_filter.mpr ⟨List.mem_of_getElem? (i := 220) (by decide +kernel), by decide +kernel⟩
set_option maxRecDepth 20000 in
theorem mw221 : Cond.static ⟨"DemoTape$Code", "aheadByte", "(I)I"⟩ ∈ wa := List.mem_filter.mpr ⟨List.mem_of_getElem? (i := 221) (by decide +kernel), by decide +kernel⟩
set_option maxRecDepth 20000 in
theorem mw222 : Cond.code ⟨"DemoTape$Code", "aheadByte", "(I)I"⟩ prog_3_method_4_code 1 (some .int) ∈ wa := List.mem_filter.mpr ⟨List.mem_of_getElem? (i := 222) (by decide +kernel), by decide +kernel⟩
set_option maxRecDepth 20000 in
theorem mw223 : Cond.methodLink "DemoTape$Walk" 89 ⟨"DemoTape$Code", "asideByte", "(I)I"⟩ ∈ wa := List.mem_filter.mpr ⟨List.mem_of_getElem? (i := 223) (by decide +kernel), by decide +kernel⟩
set_option maxRecDepth 20000 in
theorem mw224 : Cond.methodLink "DemoTape$Walk" 92 ⟨"DemoTape$Code", "turnByte", "(I)I"⟩ ∈ wa := List.mem_filter.mpr ⟨List.mem_of_getElem? (i := 224) (by decide +kernel), by decide +kernel⟩
set_option maxRecDepth 20000 in
theorem mw225 : Cond.methodLink "DemoTape$Walk" 72 ⟨"DemoTape$ByteRow", "size", "()I"⟩ ∈ wa := List.mem_filter.mpr ⟨List.mem_of_getElem? (i := 225) (by decide +kernel), by decide +kernel⟩
set_option maxRecDepth 20000 in
theorem mw226 : Cond.instanceMethod ⟨"DemoTape$ByteRow", "size", "()I"⟩ ∈ wa := List.mem_filter.mpr ⟨List.mem_of_getElem? (i := 226) (by decide +kernel), by decide +kernel⟩
set_option maxRecDepth 20000 in
theorem mw227 : Cond.selects "DemoTape$ByteRow" ⟨"DemoTape$ByteRow", "size", "()I"⟩ ⟨"DemoTape$ByteRow", "size", "()I"⟩ ∈ wa := List.mem_filter.mpr ⟨List.mem_of_getElem? (i := 227) (by decide +kernel), by decide +kernel⟩
set_option maxRecDepth 20000 in
theorem mw228 : Cond.code ⟨"DemoTape$ByteRow", "size", "()I"⟩ prog_2_method_2_code 1 (some .int) ∈ wa := List.mem_filter.mpr ⟨List.mem_of_getElem? (i := 228) (by decide +kernel), by decide +kernel⟩
set_option maxRecDepth 20000 in
theorem mw229 : Cond.methodLink "DemoTape$Walk" 76 ⟨"DemoTape$ByteRow", "checkOfFirst", "(I)I"⟩ ∈ wa := List.mem_filter.mpr ⟨List.mem_of_getElem? (i := 229) (by decide +kernel), by decide +kernel⟩
set_option maxRecDepth 20000 in
theorem mw230 : Cond.instanceMethod ⟨"DemoTape$ByteRow", "checkOfFirst", "(I)I"⟩ ∈ wa := List.mem_filter.mpr ⟨List.mem_of_getElem? (i := 230) (by decide +kernel), by decide +kernel⟩
set_option maxRecDepth 20000 in
theorem mw231 : Cond.selects "DemoTape$ByteRow" ⟨"DemoTape$ByteRow", "checkOfFirst", "(I)I"⟩ ⟨"DemoTape$ByteRow", "checkOfFirst", "(I)I"⟩ ∈ wa := List.mem_filter.mpr ⟨List.mem_of_getElem? (i := 231) (by decide +kernel), by decide +kernel⟩
set_option maxRecDepth 20000 in
theorem mw232 : Cond.code ⟨"DemoTape$ByteRow", "checkOfFirst", "(I)I"⟩ prog_2_method_9_code 5 (some .int) ∈ wa := List.mem_filter.mpr ⟨List.mem_of_getElem? (i := 232) (by decide +kernel), by decide +kernel⟩
set_option maxRecDepth 20000 in
theorem mw233 : Cond.methodLink "DemoTape$ByteRow" 34 ⟨"DemoTape$ByteRow", "get", "(I)I"⟩ ∈ wa := List.mem_filter.mpr ⟨List.mem_of_getElem? (i := 233) (by decide +kernel), by decide +kernel⟩
set_option maxRecDepth 20000 in
theorem mw234 : Cond.instanceMethod ⟨"DemoTape$ByteRow", "get", "(I)I"⟩ ∈ wa := List.mem_filter.mpr ⟨List.mem_of_getElem? (i := 234) (by decide +kernel), by decide +kernel⟩
set_option maxRecDepth 20000 in
theorem mw235 : Cond.selects "DemoTape$ByteRow" ⟨"DemoTape$ByteRow", "get", "(I)I"⟩ ⟨"DemoTape$ByteRow", "get", "(I)I"⟩ ∈ wa := List.mem_filter.mpr ⟨List.mem_of_getElem? (i := 235) (by decide +kernel), by decide +kernel⟩
set_option maxRecDepth 20000 in
theorem mw236 : Cond.code ⟨"DemoTape$ByteRow", "get", "(I)I"⟩ prog_2_method_4_code 2 (some .int) ∈ wa := List.mem_filter.mpr ⟨List.mem_of_getElem? (i := 236) (by decide +kernel), by decide +kernel⟩
set_option maxRecDepth 20000 in
theorem mw237 : Cond.constant "DemoTape$ByteRow" 38 (65521) ∈ wa := List.mem_filter.mpr ⟨List.mem_of_getElem? (i := 237) (by decide +kernel), by decide +kernel⟩
set_option maxRecDepth 20000 in
theorem mw238 : Cond.methodLink "DemoTape" 77 ⟨"DemoTape$ByteRow", "size", "()I"⟩ ∈ wa := List.mem_filter.mpr ⟨List.mem_of_getElem? (i := 238) (by decide +kernel), by decide +kernel⟩
set_option maxRecDepth 20000 in
theorem mw243 : Cond.methodLink "DemoTape" 80 ⟨"DemoTape$ByteRow", "room", "()I"⟩ ∈ wa := List.mem_filter.mpr ⟨List.mem_of_getElem? (i := 243) (by decide +kernel), by decide +kernel⟩
set_option maxRecDepth 20000 in
theorem mw244 : Cond.instanceMethod ⟨"DemoTape$ByteRow", "room", "()I"⟩ ∈ wa := List.mem_filter.mpr ⟨List.mem_of_getElem? (i := 244) (by decide +kernel), by decide +kernel⟩
set_option maxRecDepth 20000 in
theorem mw245 : Cond.selects "DemoTape$ByteRow" ⟨"DemoTape$ByteRow", "room", "()I"⟩ ⟨"DemoTape$ByteRow", "room", "()I"⟩ ∈ wa := List.mem_filter.mpr ⟨List.mem_of_getElem? (i := 245) (by decide +kernel), by decide +kernel⟩
set_option maxRecDepth 20000 in
theorem mw246 : Cond.code ⟨"DemoTape$ByteRow", "room", "()I"⟩ prog_2_method_3_code 1 (some .int) ∈ wa := List.mem_filter.mpr ⟨List.mem_of_getElem? (i := 246) (by decide +kernel), by decide +kernel⟩
set_option maxRecDepth 20000 in
theorem mw247 : Cond.methodLink "DemoTape" 81 ⟨"DemoTape$ByteRow", "addLowest", "(JI)V"⟩ ∈ wa := List.mem_filter.mpr ⟨List.mem_of_getElem? (i := 247) (by decide +kernel), by decide +kernel⟩
set_option maxRecDepth 20000 in
theorem mw252 : Cond.methodLink "DemoTape" 85 ⟨"DemoTape$ByteRow", "become", "(LDemoTape$ByteRow;)V"⟩ ∈ wa := List.mem_filter.mpr ⟨List.mem_of_getElem? (i := 252) (by decide +kernel), by decide +kernel⟩
set_option maxRecDepth 20000 in
theorem mw253 : Cond.instanceMethod ⟨"DemoTape$ByteRow", "become", "(LDemoTape$ByteRow;)V"⟩ ∈ wa := List.mem_filter.mpr ⟨List.mem_of_getElem? (i := 253) (by decide +kernel), by decide +kernel⟩
set_option maxRecDepth 20000 in
theorem mw254 : Cond.selects "DemoTape$ByteRow" ⟨"DemoTape$ByteRow", "become", "(LDemoTape$ByteRow;)V"⟩ ⟨"DemoTape$ByteRow", "become", "(LDemoTape$ByteRow;)V"⟩ ∈ wa := List.mem_filter.mpr ⟨List.mem_of_getElem? (i := 254) (by decide +kernel), by decide +kernel⟩
set_option maxRecDepth 20000 in
theorem mw255 : Cond.code ⟨"DemoTape$ByteRow", "become", "(LDemoTape$ByteRow;)V"⟩ prog_2_method_8_code 2 none ∈ wa := List.mem_filter.mpr ⟨List.mem_of_getElem? (i := 255) (by decide +kernel), by decide +kernel⟩
set_option maxRecDepth 20000 in
theorem mw256 : Cond.methodLink "DemoTape$ByteRow" 28 ⟨"java/lang/System", "arraycopy", "(Ljava/lang/Object;ILjava/lang/Object;II)V"⟩ ∈ wa := List.mem_filter.mpr ⟨List.mem_of_getElem? (i := 256) (by decide +kernel), by decide +kernel⟩
set_option maxRecDepth 20000 in
theorem mw257 : Cond.static ⟨"java/lang/System", "arraycopy", "(Ljava/lang/Object;ILjava/lang/Object;II)V"⟩ ∈ wa := List.mem_filter.mpr ⟨List.mem_of_getElem? (i := 257) (by decide +kernel), by decide +kernel⟩
set_option maxRecDepth 20000 in
theorem mw258 : Cond.native ⟨"java/lang/System", "arraycopy", "(Ljava/lang/Object;ILjava/lang/Object;II)V"⟩ ∈ wa := List.mem_filter.mpr ⟨List.mem_of_getElem? (i := 258) (by decide +kernel), by decide +kernel⟩
set_option maxRecDepth 20000 in
theorem mw267 : Cond.methodLink "DemoTape" 88 ⟨"DemoTape$ByteRow", "set", "(II)V"⟩ ∈ wa := List.mem_filter.mpr ⟨List.mem_of_getElem? (i := 267) (by decide +kernel), by decide +kernel⟩
set_option maxRecDepth 20000 in
theorem mw268 : Cond.instanceMethod ⟨"DemoTape$ByteRow", "set", "(II)V"⟩ ∈ wa := List.mem_filter.mpr ⟨List.mem_of_getElem? (i := 268) (by decide +kernel), by decide +kernel⟩
set_option maxRecDepth 20000 in
theorem mw269 : Cond.selects "DemoTape$ByteRow" ⟨"DemoTape$ByteRow", "set", "(II)V"⟩ ⟨"DemoTape$ByteRow", "set", "(II)V"⟩ ∈ wa := List.mem_filter.mpr ⟨List.mem_of_getElem? (i := 269) (by decide +kernel), by decide +kernel⟩
set_option maxRecDepth 20000 in
theorem mw270 : Cond.code ⟨"DemoTape$ByteRow", "set", "(II)V"⟩ prog_2_method_5_code 3 none ∈ wa := List.mem_filter.mpr ⟨List.mem_of_getElem? (i := 270) (by decide +kernel), by decide +kernel⟩
set_option maxRecDepth 20000 in
theorem mw275 : Cond.methodLink "DemoTape" 91 ⟨"DemoTape$Reader", "readInto", "(LDemoTape$Walk;)V"⟩ ∈ wa := List.mem_filter.mpr ⟨List.mem_of_getElem? (i := 275) (by decide +kernel), by decide +kernel⟩
set_option maxRecDepth 20000 in
theorem mw276 : Cond.instanceMethod ⟨"DemoTape$Reader", "readInto", "(LDemoTape$Walk;)V"⟩ ∈ wa := List.mem_filter.mpr ⟨List.mem_of_getElem? (i := 276) (by decide +kernel), by decide +kernel⟩
set_option maxRecDepth 20000 in
theorem mw277 : Cond.selects "DemoTape$Reader" ⟨"DemoTape$Reader", "readInto", "(LDemoTape$Walk;)V"⟩ ⟨"DemoTape$Reader", "readInto", "(LDemoTape$Walk;)V"⟩ ∈ wa := List.mem_filter.mpr ⟨List.mem_of_getElem? (i := 277) (by decide +kernel), by decide +kernel⟩
set_option maxRecDepth 20000 in
theorem mw278 : Cond.code ⟨"DemoTape$Reader", "readInto", "(LDemoTape$Walk;)V"⟩ prog_4_method_4_code 2 none ∈ wa := List.mem_filter.mpr ⟨List.mem_of_getElem? (i := 278) (by decide +kernel), by decide +kernel⟩
set_option maxRecDepth 20000 in
theorem mw279 : Cond.methodLink "DemoTape$Reader" 28 ⟨"DemoTape$Walk", "clear", "()V"⟩ ∈ wa := List.mem_filter.mpr ⟨List.mem_of_getElem? (i := 279) (by decide +kernel), by decide +kernel⟩
set_option maxRecDepth 20000 in
theorem mw280 : Cond.instanceMethod ⟨"DemoTape$Walk", "clear", "()V"⟩ ∈ wa := List.mem_filter.mpr ⟨List.mem_of_getElem? (i := 280) (by decide +kernel), by decide +kernel⟩
set_option maxRecDepth 20000 in
theorem mw281 : Cond.selects "DemoTape$Walk" ⟨"DemoTape$Walk", "clear", "()V"⟩ ⟨"DemoTape$Walk", "clear", "()V"⟩ ∈ wa := List.mem_filter.mpr ⟨List.mem_of_getElem? (i := 281) (by decide +kernel), by decide +kernel⟩
set_option maxRecDepth 20000 in
theorem mw282 : Cond.code ⟨"DemoTape$Walk", "clear", "()V"⟩ prog_5_method_10_code 1 none ∈ wa := List.mem_filter.mpr ⟨List.mem_of_getElem? (i := 282) (by decide +kernel), by decide +kernel⟩
set_option maxRecDepth 20000 in
theorem mw283 : Cond.methodLink "DemoTape$Reader" 33 ⟨"DemoTape$Reader", "takeMark", "()V"⟩ ∈ wa := List.mem_filter.mpr ⟨List.mem_of_getElem? (i := 283) (by decide +kernel), by decide +kernel⟩
set_option maxRecDepth 20000 in
theorem mw285 : Cond.instanceMethod ⟨"DemoTape$Reader", "takeMark", "()V"⟩ ∈ wa := List.mem_filter.mpr ⟨List.mem_of_getElem? (i := 285) (by decide +kernel), by decide +kernel⟩
set_option maxRecDepth 20000 in
theorem mw286 : Cond.code ⟨"DemoTape$Reader", "takeMark", "()V"⟩ prog_4_method_8_code 2 none ∈ wa := List.mem_filter.mpr ⟨List.mem_of_getElem? (i := 286) (by decide +kernel), by decide +kernel⟩
set_option maxRecDepth 20000 in
theorem mw288 : Cond.methodLink "DemoTape$Reader" 67 ⟨"DemoTape$Reader", "takeOnly", "(II)V"⟩ ∈ wa := List.mem_filter.mpr ⟨List.mem_of_getElem? (i := 288) (by decide +kernel), by decide +kernel⟩
set_option maxRecDepth 20000 in
theorem mw290 : Cond.instanceMethod ⟨"DemoTape$Reader", "takeOnly", "(II)V"⟩ ∈ wa := List.mem_filter.mpr ⟨List.mem_of_getElem? (i := 290) (by decide +kernel), by decide +kernel⟩
set_option maxRecDepth 20000 in
theorem mw291 : Cond.code ⟨"DemoTape$Reader", "takeOnly", "(II)V"⟩ prog_4_method_7_code 4 none ∈ wa := List.mem_filter.mpr ⟨List.mem_of_getElem? (i := 291) (by decide +kernel), by decide +kernel⟩
set_option maxRecDepth 20000 in
theorem mw292 : Cond.methodLink "DemoTape$Reader" 60 ⟨"DemoTape$Reader", "take", "(I)I"⟩ ∈ wa := List.mem_filter.mpr ⟨List.mem_of_getElem? (i := 292) (by decide +kernel), by decide +kernel⟩
set_option maxRecDepth 20000 in
theorem mw294 : Cond.instanceMethod ⟨"DemoTape$Reader", "take", "(I)I"⟩ ∈ wa := List.mem_filter.mpr ⟨List.mem_of_getElem? (i := 294) (by decide +kernel), by decide +kernel⟩
set_option maxRecDepth 20000 in
theorem mw295 : Cond.code ⟨"DemoTape$Reader", "take", "(I)I"⟩ prog_4_method_6_code 3 (some .int) ∈ wa := List.mem_filter.mpr ⟨List.mem_of_getElem? (i := 295) (by decide +kernel), by decide +kernel⟩
set_option maxRecDepth 20000 in
theorem mw296 : Cond.methodLink "DemoTape$Reader" 56 ⟨"DemoTape$ByteRow", "get", "(I)I"⟩ ∈ wa := List.mem_filter.mpr ⟨List.mem_of_getElem? (i := 296) (by decide +kernel), by decide +kernel⟩
set_option maxRecDepth 20000 in
theorem mw297 : Cond.methodLink "DemoTape$Reader" 52 ⟨"DemoTape$Reader", "fail", "(II)V"⟩ ∈ wa := List.mem_filter.mpr ⟨List.mem_of_getElem? (i := 297) (by decide +kernel), by decide +kernel⟩
set_option maxRecDepth 20000 in
theorem mw299 : Cond.instanceMethod ⟨"DemoTape$Reader", "fail", "(II)V"⟩ ∈ wa := List.mem_filter.mpr ⟨List.mem_of_getElem? (i := 299) (by decide +kernel), by decide +kernel⟩
set_option maxRecDepth 20000 in
theorem mw300 : Cond.code ⟨"DemoTape$Reader", "fail", "(II)V"⟩ prog_4_method_5_code 3 none ∈ wa := List.mem_filter.mpr ⟨List.mem_of_getElem? (i := 300) (by decide +kernel), by decide +kernel⟩
set_option maxRecDepth 20000 in
theorem mw301 : Cond.methodLink "DemoTape$Reader" 36 ⟨"DemoTape$Reader", "takeStart", "(LDemoTape$Walk;)V"⟩ ∈ wa := List.mem_filter.mpr ⟨List.mem_of_getElem? (i := 301) (by decide +kernel), by decide +kernel⟩
set_option maxRecDepth 20000 in
theorem mw303 : Cond.instanceMethod ⟨"DemoTape$Reader", "takeStart", "(LDemoTape$Walk;)V"⟩ ∈ wa := List.mem_filter.mpr ⟨List.mem_of_getElem? (i := 303) (by decide +kernel), by decide +kernel⟩
set_option maxRecDepth 20000 in
theorem mw304 : Cond.code ⟨"DemoTape$Reader", "takeStart", "(LDemoTape$Walk;)V"⟩ prog_4_method_9_code 6 none ∈ wa := List.mem_filter.mpr ⟨List.mem_of_getElem? (i := 304) (by decide +kernel), by decide +kernel⟩
set_option maxRecDepth 20000 in
theorem mw305 : Cond.methodLink "DemoTape$Reader" 70 ⟨"DemoTape$Reader", "takePlace", "()I"⟩ ∈ wa := List.mem_filter.mpr ⟨List.mem_of_getElem? (i := 305) (by decide +kernel), by decide +kernel⟩
set_option maxRecDepth 20000 in
theorem mw307 : Cond.instanceMethod ⟨"DemoTape$Reader", "takePlace", "()I"⟩ ∈ wa := List.mem_filter.mpr ⟨List.mem_of_getElem? (i := 307) (by decide +kernel), by decide +kernel⟩
set_option maxRecDepth 20000 in
theorem mw308 : Cond.code ⟨"DemoTape$Reader", "takePlace", "()I"⟩ prog_4_method_10_code 4 (some .int) ∈ wa := List.mem_filter.mpr ⟨List.mem_of_getElem? (i := 308) (by decide +kernel), by decide +kernel⟩
set_option maxRecDepth 20000 in
theorem mw309 : Cond.constant "DemoTape$Reader" 77 (65536) ∈ wa := List.mem_filter.mpr ⟨List.mem_of_getElem? (i := 309) (by decide +kernel), by decide +kernel⟩
set_option maxRecDepth 20000 in
theorem mw310 : Cond.methodLink "DemoTape$Reader" 73 ⟨"DemoTape$Walk", "setStart", "(IIII)V"⟩ ∈ wa := List.mem_filter.mpr ⟨List.mem_of_getElem? (i := 310) (by decide +kernel), by decide +kernel⟩
set_option maxRecDepth 20000 in
theorem mw311 : Cond.methodLink "DemoTape$Reader" 40 ⟨"DemoTape$Reader", "takeGroups", "(LDemoTape$Walk;)V"⟩ ∈ wa := List.mem_filter.mpr ⟨List.mem_of_getElem? (i := 311) (by decide +kernel), by decide +kernel⟩
set_option maxRecDepth 20000 in
theorem mw313 : Cond.instanceMethod ⟨"DemoTape$Reader", "takeGroups", "(LDemoTape$Walk;)V"⟩ ∈ wa := List.mem_filter.mpr ⟨List.mem_of_getElem? (i := 313) (by decide +kernel), by decide +kernel⟩
set_option maxRecDepth 20000 in
theorem mw314 : Cond.code ⟨"DemoTape$Reader", "takeGroups", "(LDemoTape$Walk;)V"⟩ prog_4_method_11_code 4 none ∈ wa := List.mem_filter.mpr ⟨List.mem_of_getElem? (i := 314) (by decide +kernel), by decide +kernel⟩
set_option maxRecDepth 20000 in
theorem mw315 : Cond.methodLink "DemoTape$Reader" 78 ⟨"DemoTape$Reader", "takeGroup", "(LDemoTape$Walk;)Z"⟩ ∈ wa := List.mem_filter.mpr ⟨List.mem_of_getElem? (i := 315) (by decide +kernel), by decide +kernel⟩
set_option maxRecDepth 20000 in
theorem mw317 : Cond.instanceMethod ⟨"DemoTape$Reader", "takeGroup", "(LDemoTape$Walk;)Z"⟩ ∈ wa := List.mem_filter.mpr ⟨List.mem_of_getElem? (i := 317) (by decide +kernel), by decide +kernel⟩
set_option maxRecDepth 20000 in
theorem mw318 : Cond.code ⟨"DemoTape$Reader", "takeGroup", "(LDemoTape$Walk;)Z"⟩ prog_4_method_12_code 6 (some .boolean) ∈ wa := List.mem_filter.mpr ⟨List.mem_of_getElem? (i := 318) (by decide +kernel), by decide +kernel⟩
set_option maxRecDepth 20000 in
theorem mw319 : Cond.methodLink "DemoTape$Reader" 82 ⟨"DemoTape$Walk", "room", "()I"⟩ ∈ wa := List.mem_filter.mpr ⟨List.mem_of_getElem? (i := 319) (by decide +kernel), by decide +kernel⟩
set_option maxRecDepth 20000 in
theorem mw320 : Cond.methodLink "DemoTape$Reader" 85 ⟨"DemoTape$Reader", "takeCode", "(I)I"⟩ ∈ wa := List.mem_filter.mpr ⟨List.mem_of_getElem? (i := 320) (by decide +kernel), by decide +kernel⟩
set_option maxRecDepth 20000 in
theorem mw322 : Cond.instanceMethod ⟨"DemoTape$Reader", "takeCode", "(I)I"⟩ ∈ wa := List.mem_filter.mpr ⟨List.mem_of_getElem? (i := 322) (by decide +kernel), by decide +kernel⟩
set_option maxRecDepth 20000 in
theorem mw323 : Cond.code ⟨"DemoTape$Reader", "takeCode", "(I)I"⟩ prog_4_method_13_code 7 (some .int) ∈ wa := List.mem_filter.mpr ⟨List.mem_of_getElem? (i := 323) (by decide +kernel), by decide +kernel⟩
set_option maxRecDepth 20000 in
theorem mw324 : Cond.methodLink "DemoTape$Reader" 97 ⟨"DemoTape$Code", "of", "(ZIII)I"⟩ ∈ wa := List.mem_filter.mpr ⟨List.mem_of_getElem? (i := 324) (by decide +kernel), by decide +kernel⟩
set_option maxRecDepth 20000 in
theorem mw325 : Cond.methodLink "DemoTape$Reader" 88 ⟨"DemoTape$Walk", "count", "()I"⟩ ∈ wa := List.mem_filter.mpr ⟨List.mem_of_getElem? (i := 325) (by decide +kernel), by decide +kernel⟩
set_option maxRecDepth 20000 in
theorem mw326 : Cond.methodLink "DemoTape$Reader" 91 ⟨"DemoTape$Walk", "codeAt", "(I)I"⟩ ∈ wa := List.mem_filter.mpr ⟨List.mem_of_getElem? (i := 326) (by decide +kernel), by decide +kernel⟩
set_option maxRecDepth 20000 in
theorem mw327 : Cond.methodLink "DemoTape$Reader" 94 ⟨"DemoTape$Walk", "append", "(II)V"⟩ ∈ wa := List.mem_filter.mpr ⟨List.mem_of_getElem? (i := 327) (by decide +kernel), by decide +kernel⟩
set_option maxRecDepth 20000 in
theorem mw328 : Cond.methodLink "DemoTape$Reader" 43 ⟨"DemoTape$Reader", "takeCheck", "()V"⟩ ∈ wa := List.mem_filter.mpr ⟨List.mem_of_getElem? (i := 328) (by decide +kernel), by decide +kernel⟩
set_option maxRecDepth 20000 in
theorem mw330 : Cond.instanceMethod ⟨"DemoTape$Reader", "takeCheck", "()V"⟩ ∈ wa := List.mem_filter.mpr ⟨List.mem_of_getElem? (i := 330) (by decide +kernel), by decide +kernel⟩
set_option maxRecDepth 20000 in
theorem mw331 : Cond.code ⟨"DemoTape$Reader", "takeCheck", "()V"⟩ prog_4_method_14_code 3 none ∈ wa := List.mem_filter.mpr ⟨List.mem_of_getElem? (i := 331) (by decide +kernel), by decide +kernel⟩
set_option maxRecDepth 20000 in
theorem mw332 : Cond.methodLink "DemoTape$Reader" 103 ⟨"DemoTape$ByteRow", "checkOfFirst", "(I)I"⟩ ∈ wa := List.mem_filter.mpr ⟨List.mem_of_getElem? (i := 332) (by decide +kernel), by decide +kernel⟩
set_option maxRecDepth 20000 in
theorem mw333 : Cond.methodLink "DemoTape$Reader" 46 ⟨"DemoTape$ByteRow", "size", "()I"⟩ ∈ wa := List.mem_filter.mpr ⟨List.mem_of_getElem? (i := 333) (by decide +kernel), by decide +kernel⟩
set_option maxRecDepth 20000 in
theorem mw334 : Cond.methodLink "DemoTape" 95 ⟨"DemoTape$Reader", "fault", "()I"⟩ ∈ wa := List.mem_filter.mpr ⟨List.mem_of_getElem? (i := 334) (by decide +kernel), by decide +kernel⟩
set_option maxRecDepth 20000 in
theorem mw335 : Cond.instanceMethod ⟨"DemoTape$Reader", "fault", "()I"⟩ ∈ wa := List.mem_filter.mpr ⟨List.mem_of_getElem? (i := 335) (by decide +kernel), by decide +kernel⟩
set_option maxRecDepth 20000 in
theorem mw336 : Cond.selects "DemoTape$Reader" ⟨"DemoTape$Reader", "fault", "()I"⟩ ⟨"DemoTape$Reader", "fault", "()I"⟩ ∈ wa := List.mem_filter.mpr ⟨List.mem_of_getElem? (i := 336) (by decide +kernel), by decide +kernel⟩
set_option maxRecDepth 20000 in
theorem mw337 : Cond.code ⟨"DemoTape$Reader", "fault", "()I"⟩ prog_4_method_2_code 1 (some .int) ∈ wa := List.mem_filter.mpr ⟨List.mem_of_getElem? (i := 337) (by decide +kernel), by decide +kernel⟩
set_option maxRecDepth 20000 in
theorem mw342 : Cond.methodLink "DemoTape" 98 ⟨"DemoTape$Walk", "codeAt", "(I)I"⟩ ∈ wa := List.mem_filter.mpr ⟨List.mem_of_getElem? (i := 342) (by decide +kernel), by decide +kernel⟩
set_option maxRecDepth 20000 in
theorem mw343 : Cond.constant "DemoTape" 102 (100000) ∈ wa := List.mem_filter.mpr ⟨List.mem_of_getElem? (i := 343) (by decide +kernel), by decide +kernel⟩
set_option maxRecDepth 20000 in
theorem mw344 : Cond.methodLink "DemoTape" 103 ⟨"DemoTape$Code", "aheadByte", "(I)I"⟩ ∈ wa := List.mem_filter.mpr ⟨List.mem_of_getElem? (i := 344) (by decide +kernel), by decide +kernel⟩
set_option maxRecDepth 20000 in
theorem mw345 : Cond.methodLink "DemoTape" 106 ⟨"DemoTape$Code", "asideByte", "(I)I"⟩ ∈ wa := List.mem_filter.mpr ⟨List.mem_of_getElem? (i := 345) (by decide +kernel), by decide +kernel⟩
set_option maxRecDepth 20000 in
theorem mw346 : Cond.methodLink "DemoTape" 109 ⟨"DemoTape$Code", "turnByte", "(I)I"⟩ ∈ wa := List.mem_filter.mpr ⟨List.mem_of_getElem? (i := 346) (by decide +kernel), by decide +kernel⟩
set_option maxRecDepth 20000 in
theorem mw347 : Cond.methodLink "DemoTape" 112 ⟨"DemoTape$Code", "uses", "(I)Z"⟩ ∈ wa := List.mem_filter.mpr ⟨List.mem_of_getElem? (i := 347) (by decide +kernel), by decide +kernel⟩
set_option maxRecDepth 20000 in
theorem mw352 : Cond.methodLink "DemoTape" 116 ⟨"DemoTape$Walk", "startPart", "(I)I"⟩ ∈ wa := List.mem_filter.mpr ⟨List.mem_of_getElem? (i := 352) (by decide +kernel), by decide +kernel⟩
set_option maxRecDepth 20000 in
theorem mw353 : Cond.instanceMethod ⟨"DemoTape$Walk", "startPart", "(I)I"⟩ ∈ wa := List.mem_filter.mpr ⟨List.mem_of_getElem? (i := 353) (by decide +kernel), by decide +kernel⟩
set_option maxRecDepth 20000 in
theorem mw354 : Cond.selects "DemoTape$Walk" ⟨"DemoTape$Walk", "startPart", "(I)I"⟩ ⟨"DemoTape$Walk", "startPart", "(I)I"⟩ ∈ wa := List.mem_filter.mpr ⟨List.mem_of_getElem? (i := 354) (by decide +kernel), by decide +kernel⟩
set_option maxRecDepth 20000 in
theorem mw355 : Cond.code ⟨"DemoTape$Walk", "startPart", "(I)I"⟩ prog_5_method_6_code 2 (some .int) ∈ wa := List.mem_filter.mpr ⟨List.mem_of_getElem? (i := 355) (by decide +kernel), by decide +kernel⟩
set_option maxRecDepth 20000 in
theorem mw356 : Cond.constant "DemoTape$Walk" 31 (100000) ∈ wa := List.mem_filter.mpr ⟨List.mem_of_getElem? (i := 356) (by decide +kernel), by decide +kernel⟩
set_option maxRecDepth 20000 in
theorem mw361 : Cond.methodLink "DemoTape" 119 ⟨"DemoTape$ByteRow", "get", "(I)I"⟩ ∈ wa := List.mem_filter.mpr ⟨List.mem_of_getElem? (i := 361) (by decide +kernel), by decide +kernel⟩
set_option maxRecDepth 20000 in
theorem mw366 : Cond.methodLink "DemoTape" 122 ⟨"DemoTape$Walk", "countGroups", "()I"⟩ ∈ wa := List.mem_filter.mpr ⟨List.mem_of_getElem? (i := 366) (by decide +kernel), by decide +kernel⟩
set_option maxRecDepth 20000 in
theorem mw367 : Cond.instanceMethod ⟨"DemoTape$Walk", "countGroups", "()I"⟩ ∈ wa := List.mem_filter.mpr ⟨List.mem_of_getElem? (i := 367) (by decide +kernel), by decide +kernel⟩
set_option maxRecDepth 20000 in
theorem mw368 : Cond.selects "DemoTape$Walk" ⟨"DemoTape$Walk", "countGroups", "()I"⟩ ⟨"DemoTape$Walk", "countGroups", "()I"⟩ ∈ wa := List.mem_filter.mpr ⟨List.mem_of_getElem? (i := 368) (by decide +kernel), by decide +kernel⟩
set_option maxRecDepth 20000 in
theorem mw369 : Cond.code ⟨"DemoTape$Walk", "countGroups", "()I"⟩ prog_5_method_12_code 4 (some .int) ∈ wa := List.mem_filter.mpr ⟨List.mem_of_getElem? (i := 369) (by decide +kernel), by decide +kernel⟩
set_option maxRecDepth 20000 in
theorem mw370 : Cond.methodLink "DemoTape" 125 ⟨"DemoTape$Reader", "faultPlace", "()I"⟩ ∈ wa := List.mem_filter.mpr ⟨List.mem_of_getElem? (i := 370) (by decide +kernel), by decide +kernel⟩
set_option maxRecDepth 20000 in
theorem mw371 : Cond.instanceMethod ⟨"DemoTape$Reader", "faultPlace", "()I"⟩ ∈ wa := List.mem_filter.mpr ⟨List.mem_of_getElem? (i := 371) (by decide +kernel), by decide +kernel⟩
set_option maxRecDepth 20000 in
theorem mw372 : Cond.selects "DemoTape$Reader" ⟨"DemoTape$Reader", "faultPlace", "()I"⟩ ⟨"DemoTape$Reader", "faultPlace", "()I"⟩ ∈ wa := List.mem_filter.mpr ⟨List.mem_of_getElem? (i := 372) (by decide +kernel), by decide +kernel⟩
set_option maxRecDepth 20000 in
theorem mw373 : Cond.code ⟨"DemoTape$Reader", "faultPlace", "()I"⟩ prog_4_method_3_code 1 (some .int) ∈ wa := List.mem_filter.mpr ⟨List.mem_of_getElem? (i := 373) (by decide +kernel), by decide +kernel⟩
set_option maxRecDepth 20000 in
theorem mw374 : Cond.methodLink "DemoTape" 128 ⟨"DemoTape$Walk", "countUses", "()I"⟩ ∈ wa := List.mem_filter.mpr ⟨List.mem_of_getElem? (i := 374) (by decide +kernel), by decide +kernel⟩
set_option maxRecDepth 20000 in
theorem mw375 : Cond.instanceMethod ⟨"DemoTape$Walk", "countUses", "()I"⟩ ∈ wa := List.mem_filter.mpr ⟨List.mem_of_getElem? (i := 375) (by decide +kernel), by decide +kernel⟩
set_option maxRecDepth 20000 in
theorem mw376 : Cond.selects "DemoTape$Walk" ⟨"DemoTape$Walk", "countUses", "()I"⟩ ⟨"DemoTape$Walk", "countUses", "()I"⟩ ∈ wa := List.mem_filter.mpr ⟨List.mem_of_getElem? (i := 376) (by decide +kernel), by decide +kernel⟩
set_option maxRecDepth 20000 in
theorem mw377 : Cond.code ⟨"DemoTape$Walk", "countUses", "()I"⟩ prog_5_method_11_code 3 (some .int) ∈ wa := List.mem_filter.mpr ⟨List.mem_of_getElem? (i := 377) (by decide +kernel), by decide +kernel⟩
set_option maxRecDepth 20000 in
abbrev nwW : Cond := .fieldLinkNest "DemoTape$Walk" 59 "DemoTape" "MARK" "[I" "DemoTape"
set_option maxRecDepth 20000 in
theorem nwW_in : nwW ∈ lw_tbl := List.mem_of_getElem? (i := 191) (by decide +kernel)
set_option maxRecDepth 20000 in
abbrev nwR : Cond := .fieldLinkNest "DemoTape$Reader" 63 "DemoTape" "MARK" "[I" "DemoTape"
set_option maxRecDepth 20000 in
theorem nwR_in : nwR ∈ lw_tbl := List.mem_of_getElem? (i := 287) (by decide +kernel)
set_option maxRecDepth 20000 in
abbrev nwI : Cond := .methodLinkNest "DemoTape" 11 ⟨"DemoTape$Walk", "<init>", "()V"⟩ "DemoTape"
set_option maxRecDepth 20000 in
theorem nwI_in : nwI ∈ lw_tbl := List.mem_of_getElem? (i := 43) (by decide +kernel)
