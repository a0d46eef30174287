section
-- ===== PART A: goes FIRST, ahead of the names: the tables' words, and 'selects' of the private methods out of them =====
/-- a private method of a class that the tables say can be made, by its rows of tables_1 -/
def lw_okq (q : MethodName × Nat) : Prop := (q.1.cls ≠ "java/lang/invoke/MethodHandle" ∧ q.1.cls ≠ "java/lang/invoke/VarHandle") ∧ Cond.instantiable q.1.cls q.2 ∈ tables_1 ∧ Cond.privateMethod q.1 ∈ tables_1 ∧ Cond.instanceMethod q.1 ∈ tables_1
theorem lw_p0 : lw_okq (⟨"DemoTape$Walk", "putGroups", "(LDemoTape$ByteRow;)V"⟩, 6) := ⟨⟨by decide +kernel, by decide +kernel⟩, List.mem_of_getElem? (i := 18) (by decide +kernel), List.mem_of_getElem? (i := 174) (by decide +kernel), List.mem_of_getElem? (i := 175) (by decide +kernel)⟩
theorem lw_p1 : lw_okq (⟨"DemoTape$Walk", "endsGroup", "(II)Z"⟩, 6) := ⟨⟨by decide +kernel, by decide +kernel⟩, List.mem_of_getElem? (i := 18) (by decide +kernel), List.mem_of_getElem? (i := 178) (by decide +kernel), List.mem_of_getElem? (i := 179) (by decide +kernel)⟩
theorem lw_p2 : lw_okq (⟨"DemoTape$Reader", "takeMark", "()V"⟩, 5) := ⟨⟨by decide +kernel, by decide +kernel⟩, List.mem_of_getElem? (i := 61) (by decide +kernel), List.mem_of_getElem? (i := 260) (by decide +kernel), List.mem_of_getElem? (i := 261) (by decide +kernel)⟩
theorem lw_p3 : lw_okq (⟨"DemoTape$Reader", "takeOnly", "(II)V"⟩, 5) := ⟨⟨by decide +kernel, by decide +kernel⟩, List.mem_of_getElem? (i := 61) (by decide +kernel), List.mem_of_getElem? (i := 265) (by decide +kernel), List.mem_of_getElem? (i := 266) (by decide +kernel)⟩
theorem lw_p4 : lw_okq (⟨"DemoTape$Reader", "take", "(I)I"⟩, 5) := ⟨⟨by decide +kernel, by decide +kernel⟩, List.mem_of_getElem? (i := 61) (by decide +kernel), List.mem_of_getElem? (i := 269) (by decide +kernel), List.mem_of_getElem? (i := 270) (by decide +kernel)⟩
theorem lw_p5 : lw_okq (⟨"DemoTape$Reader", "fail", "(II)V"⟩, 5) := ⟨⟨by decide +kernel, by decide +kernel⟩, List.mem_of_getElem? (i := 61) (by decide +kernel), List.mem_of_getElem? (i := 274) (by decide +kernel), List.mem_of_getElem? (i := 275) (by decide +kernel)⟩
theorem lw_p6 : lw_okq (⟨"DemoTape$Reader", "takeStart", "(LDemoTape$Walk;)V"⟩, 5) := ⟨⟨by decide +kernel, by decide +kernel⟩, List.mem_of_getElem? (i := 61) (by decide +kernel), List.mem_of_getElem? (i := 278) (by decide +kernel), List.mem_of_getElem? (i := 279) (by decide +kernel)⟩
theorem lw_p7 : lw_okq (⟨"DemoTape$Reader", "takePlace", "()I"⟩, 5) := ⟨⟨by decide +kernel, by decide +kernel⟩, List.mem_of_getElem? (i := 61) (by decide +kernel), List.mem_of_getElem? (i := 282) (by decide +kernel), List.mem_of_getElem? (i := 283) (by decide +kernel)⟩
theorem lw_p8 : lw_okq (⟨"DemoTape$Reader", "takeGroups", "(LDemoTape$Walk;)V"⟩, 5) := ⟨⟨by decide +kernel, by decide +kernel⟩, List.mem_of_getElem? (i := 61) (by decide +kernel), List.mem_of_getElem? (i := 288) (by decide +kernel), List.mem_of_getElem? (i := 289) (by decide +kernel)⟩
theorem lw_p9 : lw_okq (⟨"DemoTape$Reader", "takeGroup", "(LDemoTape$Walk;)Z"⟩, 5) := ⟨⟨by decide +kernel, by decide +kernel⟩, List.mem_of_getElem? (i := 61) (by decide +kernel), List.mem_of_getElem? (i := 292) (by decide +kernel), List.mem_of_getElem? (i := 293) (by decide +kernel)⟩
theorem lw_p10 : lw_okq (⟨"DemoTape$Reader", "takeCode", "(I)I"⟩, 5) := ⟨⟨by decide +kernel, by decide +kernel⟩, List.mem_of_getElem? (i := 61) (by decide +kernel), List.mem_of_getElem? (i := 297) (by decide +kernel), List.mem_of_getElem? (i := 298) (by decide +kernel)⟩
theorem lw_p11 : lw_okq (⟨"DemoTape$Reader", "takeCheck", "()V"⟩, 5) := ⟨⟨by decide +kernel, by decide +kernel⟩, List.mem_of_getElem? (i := 61) (by decide +kernel), List.mem_of_getElem? (i := 305) (by decide +kernel), List.mem_of_getElem? (i := 306) (by decide +kernel)⟩
theorem lw_p12 : lw_okq (⟨"DemoTapeModel", "put", "(I)V"⟩, 22) := ⟨⟨by decide +kernel, by decide +kernel⟩, List.mem_of_getElem? (i := 355) (by decide +kernel), List.mem_of_getElem? (i := 452) (by decide +kernel), List.mem_of_getElem? (i := 453) (by decide +kernel)⟩
theorem lw_p13 : lw_okq (⟨"DemoTapeModel", "run", "(I)I"⟩, 22) := ⟨⟨by decide +kernel, by decide +kernel⟩, List.mem_of_getElem? (i := 355) (by decide +kernel), List.mem_of_getElem? (i := 456) (by decide +kernel), List.mem_of_getElem? (i := 457) (by decide +kernel)⟩
theorem lw_p14 : lw_okq (⟨"DemoTapeModel", "sum", "(I)V"⟩, 22) := ⟨⟨by decide +kernel, by decide +kernel⟩, List.mem_of_getElem? (i := 355) (by decide +kernel), List.mem_of_getElem? (i := 460) (by decide +kernel), List.mem_of_getElem? (i := 461) (by decide +kernel)⟩
theorem lw_p15 : lw_okq (⟨"DemoTapeModel", "checkByte", "(I)I"⟩, 22) := ⟨⟨by decide +kernel, by decide +kernel⟩, List.mem_of_getElem? (i := 355) (by decide +kernel), List.mem_of_getElem? (i := 465) (by decide +kernel), List.mem_of_getElem? (i := 466) (by decide +kernel)⟩
def lw_privs_1 : List (MethodName × Nat) := [(⟨"DemoTape$Walk", "putGroups", "(LDemoTape$ByteRow;)V"⟩, 6), (⟨"DemoTape$Walk", "endsGroup", "(II)Z"⟩, 6), (⟨"DemoTape$Reader", "takeMark", "()V"⟩, 5), (⟨"DemoTape$Reader", "takeOnly", "(II)V"⟩, 5), (⟨"DemoTape$Reader", "take", "(I)I"⟩, 5), (⟨"DemoTape$Reader", "fail", "(II)V"⟩, 5), (⟨"DemoTape$Reader", "takeStart", "(LDemoTape$Walk;)V"⟩, 5), (⟨"DemoTape$Reader", "takePlace", "()I"⟩, 5), (⟨"DemoTape$Reader", "takeGroups", "(LDemoTape$Walk;)V"⟩, 5), (⟨"DemoTape$Reader", "takeGroup", "(LDemoTape$Walk;)Z"⟩, 5), (⟨"DemoTape$Reader", "takeCode", "(I)I"⟩, 5), (⟨"DemoTape$Reader", "takeCheck", "()V"⟩, 5), (⟨"DemoTapeModel", "put", "(I)V"⟩, 22), (⟨"DemoTapeModel", "run", "(I)I"⟩, 22), (⟨"DemoTapeModel", "sum", "(I)V"⟩, 22), (⟨"DemoTapeModel", "checkByte", "(I)I"⟩, 22)]
theorem lw_r1 : ∀ q ∈ lw_privs_1, lw_okq q := List.forall_mem_cons.mpr ⟨lw_p0, List.forall_mem_cons.mpr ⟨lw_p1, List.forall_mem_cons.mpr ⟨lw_p2, List.forall_mem_cons.mpr ⟨lw_p3, List.forall_mem_cons.mpr ⟨lw_p4, List.forall_mem_cons.mpr ⟨lw_p5, List.forall_mem_cons.mpr ⟨lw_p6, List.forall_mem_cons.mpr ⟨lw_p7, List.forall_mem_cons.mpr ⟨lw_p8, List.forall_mem_cons.mpr ⟨lw_p9, List.forall_mem_cons.mpr ⟨lw_p10, List.forall_mem_cons.mpr ⟨lw_p11, List.forall_mem_cons.mpr ⟨lw_p12, List.forall_mem_cons.mpr ⟨lw_p13, List.forall_mem_cons.mpr ⟨lw_p14, List.forall_mem_cons.mpr ⟨lw_p15, fun _ h => absurd h List.not_mem_nil⟩⟩⟩⟩⟩⟩⟩⟩⟩⟩⟩⟩⟩⟩⟩⟩
theorem lw_p16 : lw_okq (⟨"DemoTapeModel", "readAll", "()V"⟩, 22) := ⟨⟨by decide +kernel, by decide +kernel⟩, List.mem_of_getElem? (i := 355) (by decide +kernel), List.mem_of_getElem? (i := 490) (by decide +kernel), List.mem_of_getElem? (i := 491) (by decide +kernel)⟩
theorem lw_p17 : lw_okq (⟨"DemoTapeModel", "next", "()I"⟩, 22) := ⟨⟨by decide +kernel, by decide +kernel⟩, List.mem_of_getElem? (i := 355) (by decide +kernel), List.mem_of_getElem? (i := 494) (by decide +kernel), List.mem_of_getElem? (i := 495) (by decide +kernel)⟩
theorem lw_p18 : lw_okq (⟨"DemoTapeModel", "wrong", "(II)V"⟩, 22) := ⟨⟨by decide +kernel, by decide +kernel⟩, List.mem_of_getElem? (i := 355) (by decide +kernel), List.mem_of_getElem? (i := 498) (by decide +kernel), List.mem_of_getElem? (i := 499) (by decide +kernel)⟩
theorem lw_p19 : lw_okq (⟨"DemoTapeModel", "nextTwo", "()I"⟩, 22) := ⟨⟨by decide +kernel, by decide +kernel⟩, List.mem_of_getElem? (i := 355) (by decide +kernel), List.mem_of_getElem? (i := 502) (by decide +kernel), List.mem_of_getElem? (i := 503) (by decide +kernel)⟩
theorem lw_p20 : lw_okq (⟨"DemoTapeModel", "nextUpTo", "(II)I"⟩, 22) := ⟨⟨by decide +kernel, by decide +kernel⟩, List.mem_of_getElem? (i := 355) (by decide +kernel), List.mem_of_getElem? (i := 507) (by decide +kernel), List.mem_of_getElem? (i := 508) (by decide +kernel)⟩
theorem lw_p21 : lw_okq (⟨"DemoTapeModel", "readGroup", "(II)V"⟩, 22) := ⟨⟨by decide +kernel, by decide +kernel⟩, List.mem_of_getElem? (i := 355) (by decide +kernel), List.mem_of_getElem? (i := 511) (by decide +kernel), List.mem_of_getElem? (i := 512) (by decide +kernel)⟩
theorem lw_p22 : lw_okq (⟨"DemoTapeModel", "groups", "()I"⟩, 22) := ⟨⟨by decide +kernel, by decide +kernel⟩, List.mem_of_getElem? (i := 355) (by decide +kernel), List.mem_of_getElem? (i := 532) (by decide +kernel), List.mem_of_getElem? (i := 533) (by decide +kernel)⟩
theorem lw_p23 : lw_okq (⟨"DemoTapeModel", "using", "()I"⟩, 22) := ⟨⟨by decide +kernel, by decide +kernel⟩, List.mem_of_getElem? (i := 355) (by decide +kernel), List.mem_of_getElem? (i := 536) (by decide +kernel), List.mem_of_getElem? (i := 537) (by decide +kernel)⟩
def lw_privs_2 : List (MethodName × Nat) := [(⟨"DemoTapeModel", "readAll", "()V"⟩, 22), (⟨"DemoTapeModel", "next", "()I"⟩, 22), (⟨"DemoTapeModel", "wrong", "(II)V"⟩, 22), (⟨"DemoTapeModel", "nextTwo", "()I"⟩, 22), (⟨"DemoTapeModel", "nextUpTo", "(II)I"⟩, 22), (⟨"DemoTapeModel", "readGroup", "(II)V"⟩, 22), (⟨"DemoTapeModel", "groups", "()I"⟩, 22), (⟨"DemoTapeModel", "using", "()I"⟩, 22)]
theorem lw_r2 : ∀ q ∈ lw_privs_2, lw_okq q := List.forall_mem_cons.mpr ⟨lw_p16, List.forall_mem_cons.mpr ⟨lw_p17, List.forall_mem_cons.mpr ⟨lw_p18, List.forall_mem_cons.mpr ⟨lw_p19, List.forall_mem_cons.mpr ⟨lw_p20, List.forall_mem_cons.mpr ⟨lw_p21, List.forall_mem_cons.mpr ⟨lw_p22, List.forall_mem_cons.mpr ⟨lw_p23, fun _ h => absurd h List.not_mem_nil⟩⟩⟩⟩⟩⟩⟩⟩
def lw_privs : List (MethodName × Nat) := lw_privs_1 ++ (lw_privs_2)
def lw_tbl : List Cond := k2_sels lw_privs ++ tables_1
theorem lw_privs_ok : ∀ q ∈ lw_privs, lw_okq q := by
  show ∀ q ∈ lw_privs_1 ++ (lw_privs_2), lw_okq q
  exact List.forall_mem_append.mpr ⟨lw_r1, lw_r2⟩
end
section
def wa : List Cond := lw_tbl.filter goodWord
theorem gW {y : MethodName} {b : ByteArray} {n : Nat} {r : Option FieldType} (h : Cond.code y b n r ∈ wa) : GoodIn wa (Cond.code y b n r :: wa) := by
  intro w hw
  have hm : w ∈ wa := by
    rcases List.mem_cons.mp hw with q | q
    · rw [q]; exact h
    · exact q
  exact ⟨hm, good_of_word (List.mem_filter.mp hm).2⟩
theorem gA {us ws : List Cond} (hu : ∀ w ∈ us, w ∈ wa) (hw : GoodIn wa ws) : GoodIn wa (us ++ ws) := by
  intro w h
  rcases List.mem_append.mp h with q | q
  · exact ⟨hu w q, good_of_word (List.mem_filter.mp (hu w q)).2⟩
  · exact hw w q
theorem gV {own C : String} {idx : Nat} {y : MethodName} {b : ByteArray} {n : Nat} {r : Option FieldType} (h1 : Cond.methodLink own idx y ∈ wa) (h2 : Cond.instanceMethod y ∈ wa) (h3 : Cond.selects C y y ∈ wa) (h4 : Cond.initialized C ∈ wa) (h5 : Cond.code y b n r ∈ wa) : GoodIn wa (wsV own idx C y (Cond.code y b n r :: wa)) := by
  refine gA ?_ (gW h5)
  intro w hw
  rcases List.mem_cons.mp hw with q | hw
  · rw [q]; exact h1
  rcases List.mem_cons.mp hw with q | hw
  · rw [q]; exact h2
  rcases List.mem_cons.mp hw with q | hw
  · rw [q]; exact h3
  rw [List.mem_singleton.mp hw]; exact h4
theorem gS {own : String} {idx : Nat} {y : MethodName} {b : ByteArray} {n : Nat} {r : Option FieldType} (h1 : Cond.methodLink own idx y ∈ wa) (h2 : Cond.static y ∈ wa) (h4 : Cond.initialized y.cls ∈ wa) (h5 : Cond.code y b n r ∈ wa) : GoodIn wa (va_wsS own idx y (Cond.code y b n r :: wa)) := by
  refine gA ?_ (gW h5)
  intro w hw
  rcases List.mem_cons.mp hw with q | hw
  · rw [q]; exact h1
  rcases List.mem_cons.mp hw with q | hw
  · rw [q]; exact h2
  rw [List.mem_singleton.mp hw]; exact h4
set_option maxRecDepth 20000 in
theorem mw0 : Cond.selects "DemoTape$Walk" ⟨"DemoTape$Walk", "putGroups", "(LDemoTape$ByteRow;)V"⟩ ⟨"DemoTape$Walk", "putGroups", "(LDemoTape$ByteRow;)V"⟩ ∈ wa := List.mem_filter.mpr ⟨List.mem_of_getElem? (i := 0) (by decide +kernel), by decide +kernel⟩
set_option maxRecDepth 20000 in
theorem mw1 : Cond.selects "DemoTape$Walk" ⟨"DemoTape$Walk", "endsGroup", "(II)Z"⟩ ⟨"DemoTape$Walk", "endsGroup", "(II)Z"⟩ ∈ wa := List.mem_filter.mpr ⟨List.mem_of_getElem? (i := 1) (by decide +kernel), by decide +kernel⟩
set_option maxRecDepth 20000 in
theorem mw2 : Cond.selects "DemoTape$Reader" ⟨"DemoTape$Reader", "takeMark", "()V"⟩ ⟨"DemoTape$Reader", "takeMark", "()V"⟩ ∈ wa := List.mem_filter.mpr ⟨List.mem_of_getElem? (i := 2) (by decide +kernel), by decide +kernel⟩
set_option maxRecDepth 20000 in
theorem mw3 : Cond.selects "DemoTape$Reader" ⟨"DemoTape$Reader", "takeOnly", "(II)V"⟩ ⟨"DemoTape$Reader", "takeOnly", "(II)V"⟩ ∈ wa := List.mem_filter.mpr ⟨List.mem_of_getElem? (i := 3) (by decide +kernel), by decide +kernel⟩
set_option maxRecDepth 20000 in
theorem mw4 : Cond.selects "DemoTape$Reader" ⟨"DemoTape$Reader", "take", "(I)I"⟩ ⟨"DemoTape$Reader", "take", "(I)I"⟩ ∈ wa := List.mem_filter.mpr ⟨List.mem_of_getElem? (i := 4) (by decide +kernel), by decide +kernel⟩
set_option maxRecDepth 20000 in
theorem mw5 : Cond.selects "DemoTape$Reader" ⟨"DemoTape$Reader", "fail", "(II)V"⟩ ⟨"DemoTape$Reader", "fail", "(II)V"⟩ ∈ wa := List.mem_filter.mpr ⟨List.mem_of_getElem? (i := 5) (by decide +kernel), by decide +kernel⟩
set_option maxRecDepth 20000 in
theorem mw6 : Cond.selects "DemoTape$Reader" ⟨"DemoTape$Reader", "takeStart", "(LDemoTape$Walk;)V"⟩ ⟨"DemoTape$Reader", "takeStart", "(LDemoTape$Walk;)V"⟩ ∈ wa := List.mem_filter.mpr ⟨List.mem_of_getElem? (i := 6) (by decide +kernel), by decide +kernel⟩
set_option maxRecDepth 20000 in
theorem mw7 : Cond.selects "DemoTape$Reader" ⟨"DemoTape$Reader", "takePlace", "()I"⟩ ⟨"DemoTape$Reader", "takePlace", "()I"⟩ ∈ wa := List.mem_filter.mpr ⟨List.mem_of_getElem? (i := 7) (by decide +kernel), by decide +kernel⟩
set_option maxRecDepth 20000 in
theorem mw8 : Cond.selects "DemoTape$Reader" ⟨"DemoTape$Reader", "takeGroups", "(LDemoTape$Walk;)V"⟩ ⟨"DemoTape$Reader", "takeGroups", "(LDemoTape$Walk;)V"⟩ ∈ wa := List.mem_filter.mpr ⟨List.mem_of_getElem? (i := 8) (by decide +kernel), by decide +kernel⟩
set_option maxRecDepth 20000 in
theorem mw9 : Cond.selects "DemoTape$Reader" ⟨"DemoTape$Reader", "takeGroup", "(LDemoTape$Walk;)Z"⟩ ⟨"DemoTape$Reader", "takeGroup", "(LDemoTape$Walk;)Z"⟩ ∈ wa := List.mem_filter.mpr ⟨List.mem_of_getElem? (i := 9) (by decide +kernel), by decide +kernel⟩
set_option maxRecDepth 20000 in
theorem mw10 : Cond.selects "DemoTape$Reader" ⟨"DemoTape$Reader", "takeCode", "(I)I"⟩ ⟨"DemoTape$Reader", "takeCode", "(I)I"⟩ ∈ wa := List.mem_filter.mpr ⟨List.mem_of_getElem? (i := 10) (by decide +kernel), by decide +kernel⟩
set_option maxRecDepth 20000 in
theorem mw11 : Cond.selects "DemoTape$Reader" ⟨"DemoTape$Reader", "takeCheck", "()V"⟩ ⟨"DemoTape$Reader", "takeCheck", "()V"⟩ ∈ wa := List.mem_filter.mpr ⟨List.mem_of_getElem? (i := 11) (by decide +kernel), by decide +kernel⟩
set_option maxRecDepth 20000 in
theorem mw25 : Cond.initialized "DemoTape" ∈ wa := List.mem_filter.mpr ⟨List.mem_of_getElem? (i := 25) (by decide +kernel), by decide +kernel⟩
set_option maxRecDepth 20000 in
theorem mw26 : Cond.initialized "DemoTape$Walk" ∈ wa := List.mem_filter.mpr ⟨List.mem_of_getElem? (i := 26) (by decide +kernel), by decide +kernel⟩
set_option maxRecDepth 20000 in
theorem mw27 : Cond.initialized "DemoTape$ByteRow" ∈ wa := List.mem_filter.mpr ⟨List.mem_of_getElem? (i := 27) (by decide +kernel), by decide +kernel⟩
set_option maxRecDepth 20000 in
theorem mw28 : Cond.initialized "java/lang/Math" ∈ wa := List.mem_filter.mpr ⟨List.mem_of_getElem? (i := 28) (by decide +kernel), by decide +kernel⟩
set_option maxRecDepth 20000 in
theorem mw29 : Cond.initialized "DemoTape$Reader" ∈ wa := List.mem_filter.mpr ⟨List.mem_of_getElem? (i := 29) (by decide +kernel), by decide +kernel⟩
set_option maxRecDepth 20000 in
theorem mw31 : Cond.initialized "DemoTape$Code" ∈ wa := List.mem_filter.mpr ⟨List.mem_of_getElem? (i := 31) (by decide +kernel), by decide +kernel⟩
set_option maxRecDepth 20000 in
theorem mw32 : Cond.initialized "java/lang/System" ∈ wa := List.mem_filter.mpr ⟨List.mem_of_getElem? (i := 32) (by decide +kernel), by decide +kernel⟩
set_option maxRecDepth 20000 in
theorem mw38 : Cond.methodLink "DemoTape" 3 ⟨"java/lang/Object", "<init>", "()V"⟩ ∈ wa := List.mem_filter.mpr ⟨List.mem_of_getElem? (i := 38) (by decide +kernel), by decide +kernel⟩
set_option maxRecDepth 20000 in
theorem mw39 : Cond.instanceMethod ⟨"java/lang/Object", "<init>", "()V"⟩ ∈ wa := List.mem_filter.mpr ⟨List.mem_of_getElem? (i := 39) (by decide +kernel), by decide +kernel⟩
set_option maxRecDepth 20000 in
theorem mw40 : Cond.code ⟨"java/lang/Object", "<init>", "()V"⟩ object_method_1_code 1 none ∈ wa := List.mem_filter.mpr ⟨List.mem_of_getElem? (i := 40) (by decide +kernel), by decide +kernel⟩
set_option maxRecDepth 20000 in
theorem mw41 : Cond.classLink "DemoTape" 9 "DemoTape$Walk" ∈ wa := List.mem_filter.mpr ⟨List.mem_of_getElem? (i := 41) (by decide +kernel), by decide +kernel⟩
set_option maxRecDepth 20000 in
theorem mw42 : Cond.instantiable "DemoTape$Walk" 6 ∈ wa := List.mem_filter.mpr ⟨List.mem_of_getElem? (i := 42) (by decide +kernel), by decide +kernel⟩
set_option maxRecDepth 20000 in
theorem mw44 : Cond.instanceMethod ⟨"DemoTape$Walk", "<init>", "()V"⟩ ∈ wa := List.mem_filter.mpr ⟨List.mem_of_getElem? (i := 44) (by decide +kernel), by decide +kernel⟩
set_option maxRecDepth 20000 in
theorem mw45 : Cond.code ⟨"DemoTape$Walk", "<init>", "()V"⟩ prog_5_method_1_code 1 none ∈ wa := List.mem_filter.mpr ⟨List.mem_of_getElem? (i := 45) (by decide +kernel), by decide +kernel⟩
set_option maxRecDepth 20000 in
theorem mw46 : Cond.methodLink "DemoTape$Walk" 3 ⟨"java/lang/Object", "<init>", "()V"⟩ ∈ wa := List.mem_filter.mpr ⟨List.mem_of_getElem? (i := 46) (by decide +kernel), by decide +kernel⟩
set_option maxRecDepth 20000 in
theorem mw47 : Cond.fieldLink "DemoTape$Walk" 9 "DemoTape$Walk" "codes" "[I" ∈ wa := List.mem_filter.mpr ⟨List.mem_of_getElem? (i := 47) (by decide +kernel), by decide +kernel⟩
set_option maxRecDepth 20000 in
theorem mw48 : Cond.fieldLink "DemoTape$Walk" 15 "DemoTape$Walk" "count" "I" ∈ wa := List.mem_filter.mpr ⟨List.mem_of_getElem? (i := 48) (by decide +kernel), by decide +kernel⟩
set_option maxRecDepth 20000 in
theorem mw49 : Cond.fieldLink "DemoTape$Walk" 19 "DemoTape$Walk" "x" "I" ∈ wa := List.mem_filter.mpr ⟨List.mem_of_getElem? (i := 49) (by decide +kernel), by decide +kernel⟩
set_option maxRecDepth 20000 in
theorem mw50 : Cond.fieldLink "DemoTape$Walk" 22 "DemoTape$Walk" "y" "I" ∈ wa := List.mem_filter.mpr ⟨List.mem_of_getElem? (i := 50) (by decide +kernel), by decide +kernel⟩
set_option maxRecDepth 20000 in
theorem mw51 : Cond.fieldLink "DemoTape$Walk" 25 "DemoTape$Walk" "angle" "I" ∈ wa := List.mem_filter.mpr ⟨List.mem_of_getElem? (i := 51) (by decide +kernel), by decide +kernel⟩
set_option maxRecDepth 20000 in
theorem mw52 : Cond.fieldLink "DemoTape$Walk" 28 "DemoTape$Walk" "sector" "I" ∈ wa := List.mem_filter.mpr ⟨List.mem_of_getElem? (i := 52) (by decide +kernel), by decide +kernel⟩
set_option maxRecDepth 20000 in
theorem mw66 : Cond.arrayClass .int ∈ wa := List.mem_filter.mpr ⟨List.mem_of_getElem? (i := 66) (by decide +kernel), by decide +kernel⟩
set_option maxRecDepth 20000 in
theorem mw67 : Cond.classLink "DemoTape" 19 "DemoTape$ByteRow" ∈ wa := List.mem_filter.mpr ⟨List.mem_of_getElem? (i := 67) (by decide +kernel), by decide +kernel⟩
set_option maxRecDepth 20000 in
theorem mw68 : Cond.instantiable "DemoTape$ByteRow" 2 ∈ wa := List.mem_filter.mpr ⟨List.mem_of_getElem? (i := 68) (by decide +kernel), by decide +kernel⟩
set_option maxRecDepth 20000 in
theorem mw69 : Cond.methodLink "DemoTape" 21 ⟨"DemoTape$ByteRow", "<init>", "(I)V"⟩ ∈ wa := List.mem_filter.mpr ⟨List.mem_of_getElem? (i := 69) (by decide +kernel), by decide +kernel⟩
set_option maxRecDepth 20000 in
theorem mw70 : Cond.instanceMethod ⟨"DemoTape$ByteRow", "<init>", "(I)V"⟩ ∈ wa := List.mem_filter.mpr ⟨List.mem_of_getElem? (i := 70) (by decide +kernel), by decide +kernel⟩
set_option maxRecDepth 20000 in
theorem mw71 : Cond.code ⟨"DemoTape$ByteRow", "<init>", "(I)V"⟩ prog_2_method_1_code 2 none ∈ wa := List.mem_filter.mpr ⟨List.mem_of_getElem? (i := 71) (by decide +kernel), by decide +kernel⟩
set_option maxRecDepth 20000 in
theorem mw72 : Cond.methodLink "DemoTape$ByteRow" 3 ⟨"java/lang/Object", "<init>", "()V"⟩ ∈ wa := List.mem_filter.mpr ⟨List.mem_of_getElem? (i := 72) (by decide +kernel), by decide +kernel⟩
set_option maxRecDepth 20000 in
theorem mw73 : Cond.methodLink "DemoTape$ByteRow" 9 ⟨"java/lang/Math", "max", "(II)I"⟩ ∈ wa := List.mem_filter.mpr ⟨List.mem_of_getElem? (i := 73) (by decide +kernel), by decide +kernel⟩
set_option maxRecDepth 20000 in
theorem mw74 : Cond.static ⟨"java/lang/Math", "max", "(II)I"⟩ ∈ wa := List.mem_filter.mpr ⟨List.mem_of_getElem? (i := 74) (by decide +kernel), by decide +kernel⟩
set_option maxRecDepth 20000 in
theorem mw75 : Cond.code ⟨"java/lang/Math", "max", "(II)I"⟩ prog_8_method_65_code 2 (some .int) ∈ wa := List.mem_filter.mpr ⟨List.mem_of_getElem? (i := 75) (by decide +kernel), by decide +kernel⟩
set_option maxRecDepth 20000 in
theorem mw76 : Cond.fieldLink "DemoTape$ByteRow" 15 "DemoTape$ByteRow" "bytes" "[B" ∈ wa := List.mem_filter.mpr ⟨List.mem_of_getElem? (i := 76) (by decide +kernel), by decide +kernel⟩
set_option maxRecDepth 20000 in
theorem mw77 : Cond.fieldLink "DemoTape$ByteRow" 21 "DemoTape$ByteRow" "size" "I" ∈ wa := List.mem_filter.mpr ⟨List.mem_of_getElem? (i := 77) (by decide +kernel), by decide +kernel⟩
set_option maxRecDepth 20000 in
theorem mw83 : Cond.arrayClass .byte ∈ wa := List.mem_filter.mpr ⟨List.mem_of_getElem? (i := 83) (by decide +kernel), by decide +kernel⟩
set_option maxRecDepth 20000 in
theorem mw84 : Cond.classLink "DemoTape" 31 "DemoTape$Reader" ∈ wa := List.mem_filter.mpr ⟨List.mem_of_getElem? (i := 84) (by decide +kernel), by decide +kernel⟩
set_option maxRecDepth 20000 in
theorem mw85 : Cond.instantiable "DemoTape$Reader" 5 ∈ wa := List.mem_filter.mpr ⟨List.mem_of_getElem? (i := 85) (by decide +kernel), by decide +kernel⟩
set_option maxRecDepth 20000 in
theorem mw86 : Cond.methodLink "DemoTape" 33 ⟨"DemoTape$Reader", "<init>", "(LDemoTape$ByteRow;)V"⟩ ∈ wa := List.mem_filter.mpr ⟨List.mem_of_getElem? (i := 86) (by decide +kernel), by decide +kernel⟩
set_option maxRecDepth 20000 in
theorem mw87 : Cond.instanceMethod ⟨"DemoTape$Reader", "<init>", "(LDemoTape$ByteRow;)V"⟩ ∈ wa := List.mem_filter.mpr ⟨List.mem_of_getElem? (i := 87) (by decide +kernel), by decide +kernel⟩
set_option maxRecDepth 20000 in
theorem mw88 : Cond.code ⟨"DemoTape$Reader", "<init>", "(LDemoTape$ByteRow;)V"⟩ prog_4_method_1_code 2 none ∈ wa := List.mem_filter.mpr ⟨List.mem_of_getElem? (i := 88) (by decide +kernel), by decide +kernel⟩
set_option maxRecDepth 20000 in
theorem mw89 : Cond.methodLink "DemoTape$Reader" 3 ⟨"java/lang/Object", "<init>", "()V"⟩ ∈ wa := List.mem_filter.mpr ⟨List.mem_of_getElem? (i := 89) (by decide +kernel), by decide +kernel⟩
set_option maxRecDepth 20000 in
theorem mw90 : Cond.fieldLink "DemoTape$Reader" 9 "DemoTape$Reader" "row" "LDemoTape$ByteRow;" ∈ wa := List.mem_filter.mpr ⟨List.mem_of_getElem? (i := 90) (by decide +kernel), by decide +kernel⟩
set_option maxRecDepth 20000 in
theorem mw91 : Cond.fieldLink "DemoTape$Reader" 22 "DemoTape$Reader" "next" "I" ∈ wa := List.mem_filter.mpr ⟨List.mem_of_getElem? (i := 91) (by decide +kernel), by decide +kernel⟩
set_option maxRecDepth 20000 in
theorem mw92 : Cond.fieldLink "DemoTape$Reader" 25 "DemoTape$Reader" "aheadN" "I" ∈ wa := List.mem_filter.mpr ⟨List.mem_of_getElem? (i := 92) (by decide +kernel), by decide +kernel⟩
set_option maxRecDepth 20000 in
theorem mw93 : Cond.fieldLink "DemoTape$Reader" 15 "DemoTape$Reader" "fault" "I" ∈ wa := List.mem_filter.mpr ⟨List.mem_of_getElem? (i := 93) (by decide +kernel), by decide +kernel⟩
set_option maxRecDepth 20000 in
theorem mw94 : Cond.fieldLink "DemoTape$Reader" 19 "DemoTape$Reader" "faultPlace" "I" ∈ wa := List.mem_filter.mpr ⟨List.mem_of_getElem? (i := 94) (by decide +kernel), by decide +kernel⟩
set_option maxRecDepth 20000 in
theorem mw106 : Cond.fieldLink "DemoTape" 12 "DemoTape" "walk" "LDemoTape$Walk;" ∈ wa := List.mem_filter.mpr ⟨List.mem_of_getElem? (i := 106) (by decide +kernel), by decide +kernel⟩
set_option maxRecDepth 20000 in
theorem mw107 : Cond.fieldLink "DemoTape" 16 "DemoTape" "spare" "LDemoTape$Walk;" ∈ wa := List.mem_filter.mpr ⟨List.mem_of_getElem? (i := 107) (by decide +kernel), by decide +kernel⟩
set_option maxRecDepth 20000 in
theorem mw108 : Cond.fieldLink "DemoTape" 24 "DemoTape" "outBytes" "LDemoTape$ByteRow;" ∈ wa := List.mem_filter.mpr ⟨List.mem_of_getElem? (i := 108) (by decide +kernel), by decide +kernel⟩
set_option maxRecDepth 20000 in
theorem mw109 : Cond.fieldLink "DemoTape" 28 "DemoTape" "inBytes" "LDemoTape$ByteRow;" ∈ wa := List.mem_filter.mpr ⟨List.mem_of_getElem? (i := 109) (by decide +kernel), by decide +kernel⟩
set_option maxRecDepth 20000 in
theorem mw110 : Cond.fieldLink "DemoTape" 36 "DemoTape" "reader" "LDemoTape$Reader;" ∈ wa := List.mem_filter.mpr ⟨List.mem_of_getElem? (i := 110) (by decide +kernel), by decide +kernel⟩
set_option maxRecDepth 20000 in
theorem mw126 : Cond.methodLink "DemoTape" 40 ⟨"DemoTape", "isWithin", "(III)Z"⟩ ∈ wa := List.mem_filter.mpr ⟨List.mem_of_getElem? (i := 126) (by decide +kernel), by decide +kernel⟩
set_option maxRecDepth 20000 in
theorem mw127 : Cond.static ⟨"DemoTape", "isWithin", "(III)Z"⟩ ∈ wa := List.mem_filter.mpr ⟨List.mem_of_getElem? (i := 127) (by decide +kernel), by decide +kernel⟩
set_option maxRecDepth 20000 in
theorem mw128 : Cond.code ⟨"DemoTape", "isWithin", "(III)Z"⟩ prog_1_method_16_code 3 (some .boolean) ∈ wa := List.mem_filter.mpr ⟨List.mem_of_getElem? (i := 128) (by decide +kernel), by decide +kernel⟩
set_option maxRecDepth 20000 in
theorem mw129 : Cond.methodLink "DemoTape" 44 ⟨"DemoTape$Walk", "setStart", "(IIII)V"⟩ ∈ wa := List.mem_filter.mpr ⟨List.mem_of_getElem? (i := 129) (by decide +kernel), by decide +kernel⟩
set_option maxRecDepth 20000 in
theorem mw130 : Cond.instanceMethod ⟨"DemoTape$Walk", "setStart", "(IIII)V"⟩ ∈ wa := List.mem_filter.mpr ⟨List.mem_of_getElem? (i := 130) (by decide +kernel), by decide +kernel⟩
set_option maxRecDepth 20000 in
theorem mw131 : Cond.selects "DemoTape$Walk" ⟨"DemoTape$Walk", "setStart", "(IIII)V"⟩ ⟨"DemoTape$Walk", "setStart", "(IIII)V"⟩ ∈ wa := List.mem_filter.mpr ⟨List.mem_of_getElem? (i := 131) (by decide +kernel), by decide +kernel⟩
set_option maxRecDepth 20000 in
theorem mw132 : Cond.code ⟨"DemoTape$Walk", "setStart", "(IIII)V"⟩ prog_5_method_5_code 5 none ∈ wa := List.mem_filter.mpr ⟨List.mem_of_getElem? (i := 132) (by decide +kernel), by decide +kernel⟩
set_option maxRecDepth 20000 in
theorem mw137 : Cond.methodLink "DemoTape" 48 ⟨"DemoTape$Walk", "room", "()I"⟩ ∈ wa := List.mem_filter.mpr ⟨List.mem_of_getElem? (i := 137) (by decide +kernel), by decide +kernel⟩
set_option maxRecDepth 20000 in
theorem mw138 : Cond.instanceMethod ⟨"DemoTape$Walk", "room", "()I"⟩ ∈ wa := List.mem_filter.mpr ⟨List.mem_of_getElem? (i := 138) (by decide +kernel), by decide +kernel⟩
set_option maxRecDepth 20000 in
theorem mw139 : Cond.selects "DemoTape$Walk" ⟨"DemoTape$Walk", "room", "()I"⟩ ⟨"DemoTape$Walk", "room", "()I"⟩ ∈ wa := List.mem_filter.mpr ⟨List.mem_of_getElem? (i := 139) (by decide +kernel), by decide +kernel⟩
set_option maxRecDepth 20000 in
theorem mw140 : Cond.code ⟨"DemoTape$Walk", "room", "()I"⟩ prog_5_method_3_code 1 (some .int) ∈ wa := List.mem_filter.mpr ⟨List.mem_of_getElem? (i := 140) (by decide +kernel), by decide +kernel⟩
set_option maxRecDepth 20000 in
theorem mw141 : Cond.methodLink "DemoTape" 52 ⟨"DemoTape$Code", "of", "(ZIII)I"⟩ ∈ wa := List.mem_filter.mpr ⟨List.mem_of_getElem? (i := 141) (by decide +kernel), by decide +kernel⟩
set_option maxRecDepth 20000 in
theorem mw142 : Cond.static ⟨"DemoTape$Code", "of", "(ZIII)I"⟩ ∈ wa := List.mem_filter.mpr ⟨List.mem_of_getElem? (i := 142) (by decide +kernel), by decide +kernel⟩
set_option maxRecDepth 20000 in
theorem mw143 : Cond.code ⟨"DemoTape$Code", "of", "(ZIII)I"⟩ prog_3_method_2_code 4 (some .int) ∈ wa := List.mem_filter.mpr ⟨List.mem_of_getElem? (i := 143) (by decide +kernel), by decide +kernel⟩
set_option maxRecDepth 20000 in
theorem mw144 : Cond.constant "DemoTape$Code" 11 (16777216) ∈ wa := List.mem_filter.mpr ⟨List.mem_of_getElem? (i := 144) (by decide +kernel), by decide +kernel⟩
set_option maxRecDepth 20000 in
theorem mw145 : Cond.methodLink "DemoTape" 58 ⟨"DemoTape$Walk", "append", "(II)V"⟩ ∈ wa := List.mem_filter.mpr ⟨List.mem_of_getElem? (i := 145) (by decide +kernel), by decide +kernel⟩
set_option maxRecDepth 20000 in
theorem mw146 : Cond.instanceMethod ⟨"DemoTape$Walk", "append", "(II)V"⟩ ∈ wa := List.mem_filter.mpr ⟨List.mem_of_getElem? (i := 146) (by decide +kernel), by decide +kernel⟩
set_option maxRecDepth 20000 in
theorem mw147 : Cond.selects "DemoTape$Walk" ⟨"DemoTape$Walk", "append", "(II)V"⟩ ⟨"DemoTape$Walk", "append", "(II)V"⟩ ∈ wa := List.mem_filter.mpr ⟨List.mem_of_getElem? (i := 147) (by decide +kernel), by decide +kernel⟩
set_option maxRecDepth 20000 in
theorem mw148 : Cond.code ⟨"DemoTape$Walk", "append", "(II)V"⟩ prog_5_method_7_code 5 none ∈ wa := List.mem_filter.mpr ⟨List.mem_of_getElem? (i := 148) (by decide +kernel), by decide +kernel⟩
set_option maxRecDepth 20000 in
theorem mw149 : Cond.methodLink "DemoTape$Walk" 32 ⟨"java/lang/Math", "min", "(II)I"⟩ ∈ wa := List.mem_filter.mpr ⟨List.mem_of_getElem? (i := 149) (by decide +kernel), by decide +kernel⟩
set_option maxRecDepth 20000 in
theorem mw150 : Cond.static ⟨"java/lang/Math", "min", "(II)I"⟩ ∈ wa := List.mem_filter.mpr ⟨List.mem_of_getElem? (i := 150) (by decide +kernel), by decide +kernel⟩
set_option maxRecDepth 20000 in
theorem mw151 : Cond.code ⟨"java/lang/Math", "min", "(II)I"⟩ prog_8_method_69_code 2 (some .int) ∈ wa := List.mem_filter.mpr ⟨List.mem_of_getElem? (i := 151) (by decide +kernel), by decide +kernel⟩
set_option maxRecDepth 20000 in
theorem mw152 : Cond.methodLink "DemoTape" 62 ⟨"DemoTape$Walk", "count", "()I"⟩ ∈ wa := List.mem_filter.mpr ⟨List.mem_of_getElem? (i := 152) (by decide +kernel), by decide +kernel⟩
set_option maxRecDepth 20000 in
theorem mw153 : Cond.instanceMethod ⟨"DemoTape$Walk", "count", "()I"⟩ ∈ wa := List.mem_filter.mpr ⟨List.mem_of_getElem? (i := 153) (by decide +kernel), by decide +kernel⟩
set_option maxRecDepth 20000 in
theorem mw154 : Cond.selects "DemoTape$Walk" ⟨"DemoTape$Walk", "count", "()I"⟩ ⟨"DemoTape$Walk", "count", "()I"⟩ ∈ wa := List.mem_filter.mpr ⟨List.mem_of_getElem? (i := 154) (by decide +kernel), by decide +kernel⟩
set_option maxRecDepth 20000 in
theorem mw155 : Cond.code ⟨"DemoTape$Walk", "count", "()I"⟩ prog_5_method_2_code 1 (some .int) ∈ wa := List.mem_filter.mpr ⟨List.mem_of_getElem? (i := 155) (by decide +kernel), by decide +kernel⟩
set_option maxRecDepth 20000 in
theorem mw160 : Cond.methodLink "DemoTape" 65 ⟨"DemoTape$Walk", "dropLast", "(I)V"⟩ ∈ wa := List.mem_filter.mpr ⟨List.mem_of_getElem? (i := 160) (by decide +kernel), by decide +kernel⟩
set_option maxRecDepth 20000 in
theorem mw161 : Cond.instanceMethod ⟨"DemoTape$Walk", "dropLast", "(I)V"⟩ ∈ wa := List.mem_filter.mpr ⟨List.mem_of_getElem? (i := 161) (by decide +kernel), by decide +kernel⟩
set_option maxRecDepth 20000 in
theorem mw162 : Cond.selects "DemoTape$Walk" ⟨"DemoTape$Walk", "dropLast", "(I)V"⟩ ⟨"DemoTape$Walk", "dropLast", "(I)V"⟩ ∈ wa := List.mem_filter.mpr ⟨List.mem_of_getElem? (i := 162) (by decide +kernel), by decide +kernel⟩
set_option maxRecDepth 20000 in
theorem mw163 : Cond.code ⟨"DemoTape$Walk", "dropLast", "(I)V"⟩ prog_5_method_9_code 2 none ∈ wa := List.mem_filter.mpr ⟨List.mem_of_getElem? (i := 163) (by decide +kernel), by decide +kernel⟩
set_option maxRecDepth 20000 in
theorem mw164 : Cond.methodLink "DemoTape$Walk" 46 ⟨"java/lang/Math", "max", "(II)I"⟩ ∈ wa := List.mem_filter.mpr ⟨List.mem_of_getElem? (i := 164) (by decide +kernel), by decide +kernel⟩
set_option maxRecDepth 20000 in
theorem mw169 : Cond.methodLink "DemoTape" 68 ⟨"DemoTape$Walk", "repeat", "(II)V"⟩ ∈ wa := List.mem_filter.mpr ⟨List.mem_of_getElem? (i := 169) (by decide +kernel), by decide +kernel⟩
set_option maxRecDepth 20000 in
theorem mw170 : Cond.instanceMethod ⟨"DemoTape$Walk", "repeat", "(II)V"⟩ ∈ wa := List.mem_filter.mpr ⟨List.mem_of_getElem? (i := 170) (by decide +kernel), by decide +kernel⟩
set_option maxRecDepth 20000 in
theorem mw171 : Cond.selects "DemoTape$Walk" ⟨"DemoTape$Walk", "repeat", "(II)V"⟩ ⟨"DemoTape$Walk", "repeat", "(II)V"⟩ ∈ wa := List.mem_filter.mpr ⟨List.mem_of_getElem? (i := 171) (by decide +kernel), by decide +kernel⟩
set_option maxRecDepth 20000 in
theorem mw172 : Cond.code ⟨"DemoTape$Walk", "repeat", "(II)V"⟩ prog_5_method_8_code 4 none ∈ wa := List.mem_filter.mpr ⟨List.mem_of_getElem? (i := 172) (by decide +kernel), by decide +kernel⟩
set_option maxRecDepth 20000 in
theorem mw173 : Cond.methodLink "DemoTape$Walk" 38 ⟨"DemoTape$Walk", "codeAt", "(I)I"⟩ ∈ wa := List.mem_filter.mpr ⟨List.mem_of_getElem? (i := 173) (by decide +kernel), by decide +kernel⟩
set_option maxRecDepth 20000 in
theorem mw174 : Cond.instanceMethod ⟨"DemoTape$Walk", "codeAt", "(I)I"⟩ ∈ wa := List.mem_filter.mpr ⟨List.mem_of_getElem? (i := 174) (by decide +kernel), by decide +kernel⟩
set_option maxRecDepth 20000 in
theorem mw175 : Cond.selects "DemoTape$Walk" ⟨"DemoTape$Walk", "codeAt", "(I)I"⟩ ⟨"DemoTape$Walk", "codeAt", "(I)I"⟩ ∈ wa := List.mem_filter.mpr ⟨List.mem_of_getElem? (i := 175) (by decide +kernel), by decide +kernel⟩
set_option maxRecDepth 20000 in
theorem mw176 : Cond.code ⟨"DemoTape$Walk", "codeAt", "(I)I"⟩ prog_5_method_4_code 2 (some .int) ∈ wa := List.mem_filter.mpr ⟨List.mem_of_getElem? (i := 176) (by decide +kernel), by decide +kernel⟩
set_option maxRecDepth 20000 in
theorem mw177 : Cond.methodLink "DemoTape$Walk" 42 ⟨"DemoTape$Walk", "append", "(II)V"⟩ ∈ wa := List.mem_filter.mpr ⟨List.mem_of_getElem? (i := 177) (by decide +kernel), by decide +kernel⟩
set_option maxRecDepth 20000 in
theorem mw182 : Cond.methodLink "DemoTape" 71 ⟨"DemoTape$ByteRow", "keepFirst", "(I)V"⟩ ∈ wa := List.mem_filter.mpr ⟨List.mem_of_getElem? (i := 182) (by decide +kernel), by decide +kernel⟩
set_option maxRecDepth 20000 in
theorem mw183 : Cond.instanceMethod ⟨"DemoTape$ByteRow", "keepFirst", "(I)V"⟩ ∈ wa := List.mem_filter.mpr ⟨List.mem_of_getElem? (i := 183) (by decide +kernel), by decide +kernel⟩
set_option maxRecDepth 20000 in
theorem mw184 : Cond.selects "DemoTape$ByteRow" ⟨"DemoTape$ByteRow", "keepFirst", "(I)V"⟩ ⟨"DemoTape$ByteRow", "keepFirst", "(I)V"⟩ ∈ wa := List.mem_filter.mpr ⟨List.mem_of_getElem? (i := 184) (by decide +kernel), by decide +kernel⟩
set_option maxRecDepth 20000 in
theorem mw185 : Cond.code ⟨"DemoTape$ByteRow", "keepFirst", "(I)V"⟩ prog_2_method_7_code 2 none ∈ wa := List.mem_filter.mpr ⟨List.mem_of_getElem? (i := 185) (by decide +kernel), by decide +kernel⟩
set_option maxRecDepth 20000 in
theorem mw186 : Cond.methodLink "DemoTape$ByteRow" 25 ⟨"java/lang/Math", "min", "(II)I"⟩ ∈ wa := List.mem_filter.mpr ⟨List.mem_of_getElem? (i := 186) (by decide +kernel), by decide +kernel⟩
set_option maxRecDepth 20000 in
theorem mw187 : Cond.methodLink "DemoTape" 74 ⟨"DemoTape$Walk", "putInto", "(LDemoTape$ByteRow;)V"⟩ ∈ wa := List.mem_filter.mpr ⟨List.mem_of_getElem? (i := 187) (by decide +kernel), by decide +kernel⟩
set_option maxRecDepth 20000 in
theorem mw188 : Cond.instanceMethod ⟨"DemoTape$Walk", "putInto", "(LDemoTape$ByteRow;)V"⟩ ∈ wa := List.mem_filter.mpr ⟨List.mem_of_getElem? (i := 188) (by decide +kernel), by decide +kernel⟩
set_option maxRecDepth 20000 in
theorem mw189 : Cond.selects "DemoTape$Walk" ⟨"DemoTape$Walk", "putInto", "(LDemoTape$ByteRow;)V"⟩ ⟨"DemoTape$Walk", "putInto", "(LDemoTape$ByteRow;)V"⟩ ∈ wa := List.mem_filter.mpr ⟨List.mem_of_getElem? (i := 189) (by decide +kernel), by decide +kernel⟩
set_option maxRecDepth 20000 in
theorem mw190 : Cond.code ⟨"DemoTape$Walk", "putInto", "(LDemoTape$ByteRow;)V"⟩ prog_5_method_14_code 3 none ∈ wa := List.mem_filter.mpr ⟨List.mem_of_getElem? (i := 190) (by decide +kernel), by decide +kernel⟩
set_option maxRecDepth 20000 in
theorem mw193 : Cond.methodLink "DemoTape$Walk" 62 ⟨"DemoTape$ByteRow", "addLowest", "(JI)V"⟩ ∈ wa := List.mem_filter.mpr ⟨List.mem_of_getElem? (i := 193) (by decide +kernel), by decide +kernel⟩
set_option maxRecDepth 20000 in
theorem mw194 : Cond.instanceMethod ⟨"DemoTape$ByteRow", "addLowest", "(JI)V"⟩ ∈ wa := List.mem_filter.mpr ⟨List.mem_of_getElem? (i := 194) (by decide +kernel), by decide +kernel⟩
set_option maxRecDepth 20000 in
theorem mw195 : Cond.selects "DemoTape$ByteRow" ⟨"DemoTape$ByteRow", "addLowest", "(JI)V"⟩ ⟨"DemoTape$ByteRow", "addLowest", "(JI)V"⟩ ∈ wa := List.mem_filter.mpr ⟨List.mem_of_getElem? (i := 195) (by decide +kernel), by decide +kernel⟩
set_option maxRecDepth 20000 in
theorem mw196 : Cond.code ⟨"DemoTape$ByteRow", "addLowest", "(JI)V"⟩ prog_2_method_6_code 5 none ∈ wa := List.mem_filter.mpr ⟨List.mem_of_getElem? (i := 196) (by decide +kernel), by decide +kernel⟩
set_option maxRecDepth 20000 in
theorem mw197 : Cond.methodLink "DemoTape$Walk" 68 ⟨"DemoTape$Walk", "putGroups", "(LDemoTape$ByteRow;)V"⟩ ∈ wa := List.mem_filter.mpr ⟨List.mem_of_getElem? (i := 197) (by decide +kernel), by decide +kernel⟩
set_option maxRecDepth 20000 in
theorem mw199 : Cond.instanceMethod ⟨"DemoTape$Walk", "putGroups", "(LDemoTape$ByteRow;)V"⟩ ∈ wa := List.mem_filter.mpr ⟨List.mem_of_getElem? (i := 199) (by decide +kernel), by decide +kernel⟩
set_option maxRecDepth 20000 in
theorem mw200 : Cond.code ⟨"DemoTape$Walk", "putGroups", "(LDemoTape$ByteRow;)V"⟩ prog_5_method_15_code 4 none ∈ wa := List.mem_filter.mpr ⟨List.mem_of_getElem? (i := 200) (by decide +kernel), by decide +kernel⟩
set_option maxRecDepth 20000 in
theorem mw201 : Cond.methodLink "DemoTape$Walk" 55 ⟨"DemoTape$Walk", "endsGroup", "(II)Z"⟩ ∈ wa := List.mem_filter.mpr ⟨List.mem_of_getElem? (i := 201) (by decide +kernel), by decide +kernel⟩
set_option maxRecDepth 20000 in
theorem mw203 : Cond.instanceMethod ⟨"DemoTape$Walk", "endsGroup", "(II)Z"⟩ ∈ wa := List.mem_filter.mpr ⟨List.mem_of_getElem? (i := 203) (by decide +kernel), by decide +kernel⟩
set_option maxRecDepth 20000 in
theorem mw204 : Cond.code ⟨"DemoTape$Walk", "endsGroup", "(II)Z"⟩ prog_5_method_13_code 3 (some .boolean) ∈ wa := List.mem_filter.mpr ⟨List.mem_of_getElem? (i := 204) (by decide +kernel), by decide +kernel⟩
set_option maxRecDepth 20000 in
theorem mw205 : Cond.methodLink "DemoTape$Walk" 79 ⟨"DemoTape$Walk", "putGroup", "(LDemoTape$ByteRow;II)V"⟩ ∈ wa := List.mem_filter.mpr ⟨List.mem_of_getElem? (i := 205) (by decide +kernel), by decide +kernel⟩
set_option maxRecDepth 20000 in
theorem mw206 : Cond.static ⟨"DemoTape$Walk", "putGroup", "(LDemoTape$ByteRow;II)V"⟩ ∈ wa := List.mem_filter.mpr ⟨List.mem_of_getElem? (i := 206) (by decide +kernel), by decide +kernel⟩
set_option maxRecDepth 20000 in
theorem mw207 : Cond.code ⟨"DemoTape$Walk", "putGroup", "(LDemoTape$ByteRow;II)V"⟩ prog_5_method_16_code 4 none ∈ wa := List.mem_filter.mpr ⟨List.mem_of_getElem? (i := 207) (by decide +kernel), by decide +kernel⟩
set_option maxRecDepth 20000 in
theorem mw208 : Cond.methodLink "DemoTape$Walk" 83 ⟨"DemoTape$Code", "hasSide", "(I)Z"⟩ ∈ wa := List.mem_filter.mpr ⟨List.mem_of_getElem? (i := 208) (by decide +kernel), by decide +kernel⟩
set_option maxRecDepth 20000 in
theorem mw209 : Cond.static ⟨"DemoTape$Code", "hasSide", "(I)Z"⟩ ∈ wa := List.mem_filter.mpr ⟨List.mem_of_getElem? (i := 209) (by decide +kernel), by decide +kernel⟩
set_option maxRecDepth 20000 in
theorem mw210 : Cond.code ⟨"DemoTape$Code", "hasSide", "(I)Z"⟩ prog_3_method_7_code 1 (some .boolean) ∈ wa := List.mem_filter.mpr ⟨List.mem_of_getElem? (i := 210) (by decide +kernel), by decide +kernel⟩
set_option maxRecDepth 20000 in
theorem mw211 : Cond.methodLink "DemoTape$Code" 12 ⟨"DemoTape$Code", "asideByte", "(I)I"⟩ ∈ wa := List.mem_filter.mpr ⟨List.mem_of_getElem? (i := 211) (by decide +kernel), by decide +kernel⟩
set_option maxRecDepth 20000 in
theorem mw212 : Cond.static ⟨"DemoTape$Code", "asideByte", "(I)I"⟩ ∈ wa := List.mem_filter.mpr ⟨List.mem_of_getElem? (i := 212) (by decide +kernel), by decide +kernel⟩
set_option maxRecDepth 20000 in
theorem mw213 : Cond.code ⟨"DemoTape$Code", "asideByte", "(I)I"⟩ prog_3_method_5_code 1 (some .int) ∈ wa := List.mem_filter.mpr ⟨List.mem_of_getElem? (i := 213) (by decide +kernel), by decide +kernel⟩
set_option maxRecDepth 20000 in
theorem mw214 : Cond.methodLink "DemoTape$Code" 16 ⟨"DemoTape$Code", "turnByte", "(I)I"⟩ ∈ wa := List.mem_filter.mpr ⟨List.mem_of_getElem? (i := 214) (by decide +kernel), by decide +kernel⟩
set_option maxRecDepth 20000 in
theorem mw215 : Cond.static ⟨"DemoTape$Code", "turnByte", "(I)I"⟩ ∈ wa := List.mem_filter.mpr ⟨List.mem_of_getElem? (i := 215) (by decide +kernel), by decide +kernel⟩
set_option maxRecDepth 20000 in
theorem mw216 : Cond.code ⟨"DemoTape$Code", "turnByte", "(I)I"⟩ prog_3_method_6_code 1 (some .int) ∈ wa := List.mem_filter.mpr ⟨List.mem_of_getElem? (i := 216) (by decide +kernel), by decide +kernel⟩
set_option maxRecDepth 20000 in
theorem mw217 : Cond.methodLink "DemoTape$Walk" 49 ⟨"DemoTape$Code", "uses", "(I)Z"⟩ ∈ wa := List.mem_filter.mpr ⟨List.mem_of_getElem? (i := 217) (by decide +kernel), by decide +kernel⟩
set_option maxRecDepth 20000 in
theorem mw218 : Cond.static ⟨"DemoTape$Code", "uses", "(I)Z"⟩ ∈ wa := List.mem_filter.mpr ⟨List.mem_of_getElem? (i := 218) (by decide +kernel), by decide +kernel⟩
set_option maxRecDepth 20000 in
theorem mw219 : Cond.code ⟨"DemoTape$Code", "uses", "(I)Z"⟩ prog_3_method_3_code 1 (some .boolean) ∈ wa := List.mem_filter.mpr ⟨List.mem_of_getElem? (i := 219) (by decide +kernel), by decide +kernel⟩
set_option maxRecDepth 20000 in
theorem mw220 : Cond.methodLink "DemoTape$Walk" 86 ⟨"DemoTape$Code", "aheadByte", "(I)I"⟩ ∈ wa := List.mem_filter.mpr ⟨List.mem_of_getElem? (i := 220) (by decide +kernel), by decide +kernel⟩
set_option maxRecDepth 20000 in
theorem mw221 : Cond.static ⟨"DemoTape$Code", "aheadByte", "(I)I"⟩ ∈ wa := List.mem_filter.mpr ⟨List.mem_of_getElem? (i := 221) (by decide +kernel), by decide +kernel⟩
set_option maxRecDepth 20000 in
theorem mw222 : Cond.code ⟨"DemoTape$Code", "aheadByte", "(I)I"⟩ prog_3_method_4_code 1 (some .int) ∈ wa := List.mem_filter.mpr ⟨List.mem_of_getElem? (i := 222) (by decide +kernel), by decide +kernel⟩
set_option maxRecDepth 20000 in
theorem mw223 : Cond.methodLink "DemoTape$Walk" 89 ⟨"DemoTape$Code", "asideByte", "(I)I"⟩ ∈ wa := List.mem_filter.mpr ⟨List.mem_of_getElem? (i := 223) (by decide +kernel), by decide +kernel⟩
set_option maxRecDepth 20000 in
theorem mw224 : Cond.methodLink "DemoTape$Walk" 92 ⟨"DemoTape$Code", "turnByte", "(I)I"⟩ ∈ wa := List.mem_filter.mpr ⟨List.mem_of_getElem? (i := 224) (by decide +kernel), by decide +kernel⟩
set_option maxRecDepth 20000 in
theorem mw225 : Cond.methodLink "DemoTape$Walk" 72 ⟨"DemoTape$ByteRow", "size", "()I"⟩ ∈ wa := List.mem_filter.mpr ⟨List.mem_of_getElem? (i := 225) (by decide +kernel), by decide +kernel⟩
set_option maxRecDepth 20000 in
theorem mw226 : Cond.instanceMethod ⟨"DemoTape$ByteRow", "size", "()I"⟩ ∈ wa := List.mem_filter.mpr ⟨List.mem_of_getElem? (i := 226) (by decide +kernel), by decide +kernel⟩
set_option maxRecDepth 20000 in
theorem mw227 : Cond.selects "DemoTape$ByteRow" ⟨"DemoTape$ByteRow", "size", "()I"⟩ ⟨"DemoTape$ByteRow", "size", "()I"⟩ ∈ wa := List.mem_filter.mpr ⟨List.mem_of_getElem? (i := 227) (by decide +kernel), by decide +kernel⟩
set_option maxRecDepth 20000 in
theorem mw228 : Cond.code ⟨"DemoTape$ByteRow", "size", "()I"⟩ prog_2_method_2_code 1 (some .int) ∈ wa := List.mem_filter.mpr ⟨List.mem_of_getElem? (i := 228) (by decide +kernel), by decide +kernel⟩
set_option maxRecDepth 20000 in
theorem mw229 : Cond.methodLink "DemoTape$Walk" 76 ⟨"DemoTape$ByteRow", "checkOfFirst", "(I)I"⟩ ∈ wa := List.mem_filter.mpr ⟨List.mem_of_getElem? (i := 229) (by decide +kernel), by decide +kernel⟩
set_option maxRecDepth 20000 in
theorem mw230 : Cond.instanceMethod ⟨"DemoTape$ByteRow", "checkOfFirst", "(I)I"⟩ ∈ wa := List.mem_filter.mpr ⟨List.mem_of_getElem? (i := 230) (by decide +kernel), by decide +kernel⟩
set_option maxRecDepth 20000 in
theorem mw231 : Cond.selects "DemoTape$ByteRow" ⟨"DemoTape$ByteRow", "checkOfFirst", "(I)I"⟩ ⟨"DemoTape$ByteRow", "checkOfFirst", "(I)I"⟩ ∈ wa := List.mem_filter.mpr ⟨List.mem_of_getElem? (i := 231) (by decide +kernel), by decide +kernel⟩
set_option maxRecDepth 20000 in
theorem mw232 : Cond.code ⟨"DemoTape$ByteRow", "checkOfFirst", "(I)I"⟩ prog_2_method_9_code 5 (some .int) ∈ wa := List.mem_filter.mpr ⟨List.mem_of_getElem? (i := 232) (by decide +kernel), by decide +kernel⟩
set_option maxRecDepth 20000 in
theorem mw233 : Cond.methodLink "DemoTape$ByteRow" 34 ⟨"DemoTape$ByteRow", "get", "(I)I"⟩ ∈ wa := List.mem_filter.mpr ⟨List.mem_of_getElem? (i := 233) (by decide +kernel), by decide +kernel⟩
set_option maxRecDepth 20000 in
theorem mw234 : Cond.instanceMethod ⟨"DemoTape$ByteRow", "get", "(I)I"⟩ ∈ wa := List.mem_filter.mpr ⟨List.mem_of_getElem? (i := 234) (by decide +kernel), by decide +kernel⟩
set_option maxRecDepth 20000 in
theorem mw235 : Cond.selects "DemoTape$ByteRow" ⟨"DemoTape$ByteRow", "get", "(I)I"⟩ ⟨"DemoTape$ByteRow", "get", "(I)I"⟩ ∈ wa := List.mem_filter.mpr ⟨List.mem_of_getElem? (i := 235) (by decide +kernel), by decide +kernel⟩
set_option maxRecDepth 20000 in
theorem mw236 : Cond.code ⟨"DemoTape$ByteRow", "get", "(I)I"⟩ prog_2_method_4_code 2 (some .int) ∈ wa := List.mem_filter.mpr ⟨List.mem_of_getElem? (i := 236) (by decide +kernel), by decide +kernel⟩
set_option maxRecDepth 20000 in
theorem mw237 : Cond.constant "DemoTape$ByteRow" 38 (65521) ∈ wa := List.mem_filter.mpr ⟨List.mem_of_getElem? (i := 237) (by decide +kernel), by decide +kernel⟩
set_option maxRecDepth 20000 in
theorem mw238 : Cond.methodLink "DemoTape" 77 ⟨"DemoTape$ByteRow", "size", "()I"⟩ ∈ wa := List.mem_filter.mpr ⟨List.mem_of_getElem? (i := 238) (by decide +kernel), by decide +kernel⟩
set_option maxRecDepth 20000 in
theorem mw243 : Cond.methodLink "DemoTape" 80 ⟨"DemoTape$ByteRow", "room", "()I"⟩ ∈ wa := List.mem_filter.mpr ⟨List.mem_of_getElem? (i := 243) (by decide +kernel), by decide +kernel⟩
set_option maxRecDepth 20000 in
theorem mw244 : Cond.instanceMethod ⟨"DemoTape$ByteRow", "room", "()I"⟩ ∈ wa := List.mem_filter.mpr ⟨List.mem_of_getElem? (i := 244) (by decide +kernel), by decide +kernel⟩
set_option maxRecDepth 20000 in
theorem mw245 : Cond.selects "DemoTape$ByteRow" ⟨"DemoTape$ByteRow", "room", "()I"⟩ ⟨"DemoTape$ByteRow", "room", "()I"⟩ ∈ wa := List.mem_filter.mpr ⟨List.mem_of_getElem? (i := 245) (by decide +kernel), by decide +kernel⟩
set_option maxRecDepth 20000 in
theorem mw246 : Cond.code ⟨"DemoTape$ByteRow", "room", "()I"⟩ prog_2_method_3_code 1 (some .int) ∈ wa := List.mem_filter.mpr ⟨List.mem_of_getElem? (i := 246) (by decide +kernel), by decide +kernel⟩
set_option maxRecDepth 20000 in
theorem mw247 : Cond.methodLink "DemoTape" 81 ⟨"DemoTape$ByteRow", "addLowest", "(JI)V"⟩ ∈ wa := List.mem_filter.mpr ⟨List.mem_of_getElem? (i := 247) (by decide +kernel), by decide +kernel⟩
set_option maxRecDepth 20000 in
theorem mw252 : Cond.methodLink "DemoTape" 85 ⟨"DemoTape$ByteRow", "become", "(LDemoTape$ByteRow;)V"⟩ ∈ wa := List.mem_filter.mpr ⟨List.mem_of_getElem? (i := 252) (by decide +kernel), by decide +kernel⟩
set_option maxRecDepth 20000 in
theorem mw253 : Cond.instanceMethod ⟨"DemoTape$ByteRow", "become", "(LDemoTape$ByteRow;)V"⟩ ∈ wa := List.mem_filter.mpr ⟨List.mem_of_getElem? (i := 253) (by decide +kernel), by decide +kernel⟩
set_option maxRecDepth 20000 in
theorem mw254 : Cond.selects "DemoTape$ByteRow" ⟨"DemoTape$ByteRow", "become", "(LDemoTape$ByteRow;)V"⟩ ⟨"DemoTape$ByteRow", "become", "(LDemoTape$ByteRow;)V"⟩ ∈ wa := List.mem_filter.mpr ⟨List.mem_of_getElem? (i := 254) (by decide +kernel), by decide +kernel⟩
set_option maxRecDepth 20000 in
theorem mw255 : Cond.code ⟨"DemoTape$ByteRow", "become", "(LDemoTape$ByteRow;)V"⟩ prog_2_method_8_code 2 none ∈ wa := List.mem_filter.mpr ⟨List.mem_of_getElem? (i := 255) (by decide +kernel), by decide +kernel⟩
set_option maxRecDepth 20000 in
theorem mw256 : Cond.methodLink "DemoTape$ByteRow" 28 ⟨"java/lang/System", "arraycopy", "(Ljava/lang/Object;ILjava/lang/Object;II)V"⟩ ∈ wa := List.mem_filter.mpr ⟨List.mem_of_getElem? (i := 256) (by decide +kernel), by decide +kernel⟩
set_option maxRecDepth 20000 in
theorem mw257 : Cond.static ⟨"java/lang/System", "arraycopy", "(Ljava/lang/Object;ILjava/lang/Object;II)V"⟩ ∈ wa := List.mem_filter.mpr ⟨List.mem_of_getElem? (i := 257) (by decide +kernel), by decide +kernel⟩
set_option maxRecDepth 20000 in
theorem mw258 : Cond.native ⟨"java/lang/System", "arraycopy", "(Ljava/lang/Object;ILjava/lang/Object;II)V"⟩ ∈ wa := List.mem_filter.mpr ⟨List.mem_of_getElem? (i := 258) (by decide +kernel), by decide +kernel⟩
set_option maxRecDepth 20000 in
theorem mw267 : Cond.methodLink "DemoTape" 88 ⟨"DemoTape$ByteRow", "set", "(II)V"⟩ ∈ wa := List.mem_filter.mpr ⟨List.mem_of_getElem? (i := 267) (by decide +kernel), by decide +kernel⟩
set_option maxRecDepth 20000 in
theorem mw268 : Cond.instanceMethod ⟨"DemoTape$ByteRow", "set", "(II)V"⟩ ∈ wa := List.mem_filter.mpr ⟨List.mem_of_getElem? (i := 268) (by decide +kernel), by decide +kernel⟩
set_option maxRecDepth 20000 in
theorem mw269 : Cond.selects "DemoTape$ByteRow" ⟨"DemoTape$ByteRow", "set", "(II)V"⟩ ⟨"DemoTape$ByteRow", "set", "(II)V"⟩ ∈ wa := List.mem_filter.mpr ⟨List.mem_of_getElem? (i := 269) (by decide +kernel), by decide +kernel⟩
set_option maxRecDepth 20000 in
theorem mw270 : Cond.code ⟨"DemoTape$ByteRow", "set", "(II)V"⟩ prog_2_method_5_code 3 none ∈ wa := List.mem_filter.mpr ⟨List.mem_of_getElem? (i := 270) (by decide +kernel), by decide +kernel⟩
set_option maxRecDepth 20000 in
theorem mw275 : Cond.methodLink "DemoTape" 91 ⟨"DemoTape$Reader", "readInto", "(LDemoTape$Walk;)V"⟩ ∈ wa := List.mem_filter.mpr ⟨List.mem_of_getElem? (i := 275) (by decide +kernel), by decide +kernel⟩
set_option maxRecDepth 20000 in
theorem mw276 : Cond.instanceMethod ⟨"DemoTape$Reader", "readInto", "(LDemoTape$Walk;)V"⟩ ∈ wa := List.mem_filter.mpr ⟨List.mem_of_getElem? (i := 276) (by decide +kernel), by decide +kernel⟩
set_option maxRecDepth 20000 in
theorem mw277 : Cond.selects "DemoTape$Reader" ⟨"DemoTape$Reader", "readInto", "(LDemoTape$Walk;)V"⟩ ⟨"DemoTape$Reader", "readInto", "(LDemoTape$Walk;)V"⟩ ∈ wa := List.mem_filter.mpr ⟨List.mem_of_getElem? (i := 277) (by decide +kernel), by decide +kernel⟩
set_option maxRecDepth 20000 in
theorem mw278 : Cond.code ⟨"DemoTape$Reader", "readInto", "(LDemoTape$Walk;)V"⟩ prog_4_method_4_code 2 none ∈ wa := List.mem_filter.mpr ⟨List.mem_of_getElem? (i := 278) (by decide +kernel), by decide +kernel⟩
set_option maxRecDepth 20000 in
theorem mw279 : Cond.methodLink "DemoTape$Reader" 28 ⟨"DemoTape$Walk", "clear", "()V"⟩ ∈ wa := List.mem_filter.mpr ⟨List.mem_of_getElem? (i := 279) (by decide +kernel), by decide +kernel⟩
set_option maxRecDepth 20000 in
theorem mw280 : Cond.instanceMethod ⟨"DemoTape$Walk", "clear", "()V"⟩ ∈ wa := List.mem_filter.mpr ⟨List.mem_of_getElem? (i := 280) (by decide +kernel), by decide +kernel⟩
set_option maxRecDepth 20000 in
theorem mw281 : Cond.selects "DemoTape$Walk" ⟨"DemoTape$Walk", "clear", "()V"⟩ ⟨"DemoTape$Walk", "clear", "()V"⟩ ∈ wa := List.mem_filter.mpr ⟨List.mem_of_getElem? (i := 281) (by decide +kernel), by decide +kernel⟩
set_option maxRecDepth 20000 in
theorem mw282 : Cond.code ⟨"DemoTape$Walk", "clear", "()V"⟩ prog_5_method_10_code 1 none ∈ wa := List.mem_filter.mpr ⟨List.mem_of_getElem? (i := 282) (by decide +kernel), by decide +kernel⟩
set_option maxRecDepth 20000 in
theorem mw283 : Cond.methodLink "DemoTape$Reader" 33 ⟨"DemoTape$Reader", "takeMark", "()V"⟩ ∈ wa := List.mem_filter.mpr ⟨List.mem_of_getElem? (i := 283) (by decide +kernel), by decide +kernel⟩
set_option maxRecDepth 20000 in
theorem mw285 : Cond.instanceMethod ⟨"DemoTape$Reader", "takeMark", "()V"⟩ ∈ wa := List.mem_filter.mpr ⟨List.mem_of_getElem? (i := 285) (by decide +kernel), by decide +kernel⟩
set_option maxRecDepth 20000 in
theorem mw286 : Cond.code ⟨"DemoTape$Reader", "takeMark", "()V"⟩ prog_4_method_8_code 2 none ∈ wa := List.mem_filter.mpr ⟨List.mem_of_getElem? (i := 286) (by decide +kernel), by decide +kernel⟩
set_option maxRecDepth 20000 in
theorem mw288 : Cond.methodLink "DemoTape$Reader" 67 ⟨"DemoTape$Reader", "takeOnly", "(II)V"⟩ ∈ wa := List.mem_filter.mpr ⟨List.mem_of_getElem? (i := 288) (by decide +kernel), by decide +kernel⟩
set_option maxRecDepth 20000 in
theorem mw290 : Cond.instanceMethod ⟨"DemoTape$Reader", "takeOnly", "(II)V"⟩ ∈ wa := List.mem_filter.mpr ⟨List.mem_of_getElem? (i := 290) (by decide +kernel), by decide +kernel⟩
set_option maxRecDepth 20000 in
theorem mw291 : Cond.code ⟨"DemoTape$Reader", "takeOnly", "(II)V"⟩ prog_4_method_7_code 4 none ∈ wa := List.mem_filter.mpr ⟨List.mem_of_getElem? (i := 291) (by decide +kernel), by decide +kernel⟩
set_option maxRecDepth 20000 in
theorem mw292 : Cond.methodLink "DemoTape$Reader" 60 ⟨"DemoTape$Reader", "take", "(I)I"⟩ ∈ wa := List.mem_filter.mpr ⟨List.mem_of_getElem? (i := 292) (by decide +kernel), by decide +kernel⟩
set_option maxRecDepth 20000 in
theorem mw294 : Cond.instanceMethod ⟨"DemoTape$Reader", "take", "(I)I"⟩ ∈ wa := List.mem_filter.mpr ⟨List.mem_of_getElem? (i := 294) (by decide +kernel), by decide +kernel⟩
set_option maxRecDepth 20000 in
theorem mw295 : Cond.code ⟨"DemoTape$Reader", "take", "(I)I"⟩ prog_4_method_6_code 3 (some .int) ∈ wa := List.mem_filter.mpr ⟨List.mem_of_getElem? (i := 295) (by decide +kernel), by decide +kernel⟩
set_option maxRecDepth 20000 in
theorem mw296 : Cond.methodLink "DemoTape$Reader" 56 ⟨"DemoTape$ByteRow", "get", "(I)I"⟩ ∈ wa := List.mem_filter.mpr ⟨List.mem_of_getElem? (i := 296) (by decide +kernel), by decide +kernel⟩
set_option maxRecDepth 20000 in
theorem mw297 : Cond.methodLink "DemoTape$Reader" 52 ⟨"DemoTape$Reader", "fail", "(II)V"⟩ ∈ wa := List.mem_filter.mpr ⟨List.mem_of_getElem? (i := 297) (by decide +kernel), by decide +kernel⟩
set_option maxRecDepth 20000 in
theorem mw299 : Cond.instanceMethod ⟨"DemoTape$Reader", "fail", "(II)V"⟩ ∈ wa := List.mem_filter.mpr ⟨List.mem_of_getElem? (i := 299) (by decide +kernel), by decide +kernel⟩
set_option maxRecDepth 20000 in
theorem mw300 : Cond.code ⟨"DemoTape$Reader", "fail", "(II)V"⟩ prog_4_method_5_code 3 none ∈ wa := List.mem_filter.mpr ⟨List.mem_of_getElem? (i := 300) (by decide +kernel), by decide +kernel⟩
set_option maxRecDepth 20000 in
theorem mw301 : Cond.methodLink "DemoTape$Reader" 36 ⟨"DemoTape$Reader", "takeStart", "(LDemoTape$Walk;)V"⟩ ∈ wa := List.mem_filter.mpr ⟨List.mem_of_getElem? (i := 301) (by decide +kernel), by decide +kernel⟩
set_option maxRecDepth 20000 in
theorem mw303 : Cond.instanceMethod ⟨"DemoTape$Reader", "takeStart", "(LDemoTape$Walk;)V"⟩ ∈ wa := List.mem_filter.mpr ⟨List.mem_of_getElem? (i := 303) (by decide +kernel), by decide +kernel⟩
set_option maxRecDepth 20000 in
theorem mw304 : Cond.code ⟨"DemoTape$Reader", "takeStart", "(LDemoTape$Walk;)V"⟩ prog_4_method_9_code 6 none ∈ wa := List.mem_filter.mpr ⟨List.mem_of_getElem? (i := 304) (by decide +kernel), by decide +kernel⟩
set_option maxRecDepth 20000 in
theorem mw305 : Cond.methodLink "DemoTape$Reader" 70 ⟨"DemoTape$Reader", "takePlace", "()I"⟩ ∈ wa := List.mem_filter.mpr ⟨List.mem_of_getElem? (i := 305) (by decide +kernel), by decide +kernel⟩
set_option maxRecDepth 20000 in
theorem mw307 : Cond.instanceMethod ⟨"DemoTape$Reader", "takePlace", "()I"⟩ ∈ wa := List.mem_filter.mpr ⟨List.mem_of_getElem? (i := 307) (by decide +kernel), by decide +kernel⟩
set_option maxRecDepth 20000 in
theorem mw308 : Cond.code ⟨"DemoTape$Reader", "takePlace", "()I"⟩ prog_4_method_10_code 4 (some .int) ∈ wa := List.mem_filter.mpr ⟨List.mem_of_getElem? (i := 308) (by decide +kernel), by decide +kernel⟩
set_option maxRecDepth 20000 in
theorem mw309 : Cond.constant "DemoTape$Reader" 77 (65536) ∈ wa := List.mem_filter.mpr ⟨List.mem_of_getElem? (i := 309) (by decide +kernel), by decide +kernel⟩
set_option maxRecDepth 20000 in
theorem mw310 : Cond.methodLink "DemoTape$Reader" 73 ⟨"DemoTape$Walk", "setStart", "(IIII)V"⟩ ∈ wa := List.mem_filter.mpr ⟨List.mem_of_getElem? (i := 310) (by decide +kernel), by decide +kernel⟩
set_option maxRecDepth 20000 in
theorem mw311 : Cond.methodLink "DemoTape$Reader" 40 ⟨"DemoTape$Reader", "takeGroups", "(LDemoTape$Walk;)V"⟩ ∈ wa := List.mem_filter.mpr ⟨List.mem_of_getElem? (i := 311) (by decide +kernel), by decide +kernel⟩
set_option maxRecDepth 20000 in
theorem mw313 : Cond.instanceMethod ⟨"DemoTape$Reader", "takeGroups", "(LDemoTape$Walk;)V"⟩ ∈ wa := List.mem_filter.mpr ⟨List.mem_of_getElem? (i := 313) (by decide +kernel), by decide +kernel⟩
set_option maxRecDepth 20000 in
theorem mw314 : Cond.code ⟨"DemoTape$Reader", "takeGroups", "(LDemoTape$Walk;)V"⟩ prog_4_method_11_code 4 none ∈ wa := List.mem_filter.mpr ⟨List.mem_of_getElem? (i := 314) (by decide +kernel), by decide +kernel⟩
set_option maxRecDepth 20000 in
theorem mw315 : Cond.methodLink "DemoTape$Reader" 78 ⟨"DemoTape$Reader", "takeGroup", "(LDemoTape$Walk;)Z"⟩ ∈ wa := List.mem_filter.mpr ⟨List.mem_of_getElem? (i := 315) (by decide +kernel), by decide +kernel⟩
set_option maxRecDepth 20000 in
theorem mw317 : Cond.instanceMethod ⟨"DemoTape$Reader", "takeGroup", "(LDemoTape$Walk;)Z"⟩ ∈ wa := List.mem_filter.mpr ⟨List.mem_of_getElem? (i := 317) (by decide +kernel), by decide +kernel⟩
set_option maxRecDepth 20000 in
theorem mw318 : Cond.code ⟨"DemoTape$Reader", "takeGroup", "(LDemoTape$Walk;)Z"⟩ prog_4_method_12_code 6 (some .boolean) ∈ wa := List.mem_filter.mpr ⟨List.mem_of_getElem? (i := 318) (by decide +kernel), by decide +kernel⟩
set_option maxRecDepth 20000 in
theorem mw319 : Cond.methodLink "DemoTape$Reader" 82 ⟨"DemoTape$Walk", "room", "()I"⟩ ∈ wa := List.mem_filter.mpr ⟨List.mem_of_getElem? (i := 319) (by decide +kernel), by decide +kernel⟩
set_option maxRecDepth 20000 in
theorem mw320 : Cond.methodLink "DemoTape$Reader" 85 ⟨"DemoTape$Reader", "takeCode", "(I)I"⟩ ∈ wa := List.mem_filter.mpr ⟨List.mem_of_getElem? (i := 320) (by decide +kernel), by decide +kernel⟩
set_option maxRecDepth 20000 in
theorem mw322 : Cond.instanceMethod ⟨"DemoTape$Reader", "takeCode", "(I)I"⟩ ∈ wa := List.mem_filter.mpr ⟨List.mem_of_getElem? (i := 322) (by decide +kernel), by decide +kernel⟩
set_option maxRecDepth 20000 in
theorem mw323 : Cond.code ⟨"DemoTape$Reader", "takeCode", "(I)I"⟩ prog_4_method_13_code 7 (some .int) ∈ wa := List.mem_filter.mpr ⟨List.mem_of_getElem? (i := 323) (by decide +kernel), by decide +kernel⟩
set_option maxRecDepth 20000 in
theorem mw324 : Cond.methodLink "DemoTape$Reader" 97 ⟨"DemoTape$Code", "of", "(ZIII)I"⟩ ∈ wa := List.mem_filter.mpr ⟨List.mem_of_getElem? (i := 324) (by decide +kernel), by decide +kernel⟩
set_option maxRecDepth 20000 in
theorem mw325 : Cond.methodLink "DemoTape$Reader" 88 ⟨"DemoTape$Walk", "count", "()I"⟩ ∈ wa := List.mem_filter.mpr ⟨List.mem_of_getElem? (i := 325) (by decide +kernel), by decide +kernel⟩
set_option maxRecDepth 20000 in
theorem mw326 : Cond.methodLink "DemoTape$Reader" 91 ⟨"DemoTape$Walk", "codeAt", "(I)I"⟩ ∈ wa := List.mem_filter.mpr ⟨List.mem_of_getElem? (i := 326) (by decide +kernel), by decide +kernel⟩
set_option maxRecDepth 20000 in
theorem mw327 : Cond.methodLink "DemoTape$Reader" 94 ⟨"DemoTape$Walk", "append", "(II)V"⟩ ∈ wa := List.mem_filter.mpr ⟨List.mem_of_getElem? (i := 327) (by decide +kernel), by decide +kernel⟩
set_option maxRecDepth 20000 in
theorem mw328 : Cond.methodLink "DemoTape$Reader" 43 ⟨"DemoTape$Reader", "takeCheck", "()V"⟩ ∈ wa := List.mem_filter.mpr ⟨List.mem_of_getElem? (i := 328) (by decide +kernel), by decide +kernel⟩
set_option maxRecDepth 20000 in
theorem mw330 : Cond.instanceMethod ⟨"DemoTape$Reader", "takeCheck", "()V"⟩ ∈ wa := List.mem_filter.mpr ⟨List.mem_of_getElem? (i := 330) (by decide +kernel), by decide +kernel⟩
set_option maxRecDepth 20000 in
theorem mw331 : Cond.code ⟨"DemoTape$Reader", "takeCheck", "()V"⟩ prog_4_method_14_code 3 none ∈ wa := List.mem_filter.mpr ⟨List.mem_of_getElem? (i := 331) (by decide +kernel), by decide +kernel⟩
set_option maxRecDepth 20000 in
theorem mw332 : Cond.methodLink "DemoTape$Reader" 103 ⟨"DemoTape$ByteRow", "checkOfFirst", "(I)I"⟩ ∈ wa := List.mem_filter.mpr ⟨List.mem_of_getElem? (i := 332) (by decide +kernel), by decide +kernel⟩
set_option maxRecDepth 20000 in
theorem mw333 : Cond.methodLink "DemoTape$Reader" 46 ⟨"DemoTape$ByteRow", "size", "()I"⟩ ∈ wa := List.mem_filter.mpr ⟨List.mem_of_getElem? (i := 333) (by decide +kernel), by decide +kernel⟩
set_option maxRecDepth 20000 in
theorem mw334 : Cond.methodLink "DemoTape" 95 ⟨"DemoTape$Reader", "fault", "()I"⟩ ∈ wa := List.mem_filter.mpr ⟨List.mem_of_getElem? (i := 334) (by decide +kernel), by decide +kernel⟩
set_option maxRecDepth 20000 in
theorem mw335 : Cond.instanceMethod ⟨"DemoTape$Reader", "fault", "()I"⟩ ∈ wa := List.mem_filter.mpr ⟨List.mem_of_getElem? (i := 335) (by decide +kernel), by decide +kernel⟩
set_option maxRecDepth 20000 in
theorem mw336 : Cond.selects "DemoTape$Reader" ⟨"DemoTape$Reader", "fault", "()I"⟩ ⟨"DemoTape$Reader", "fault", "()I"⟩ ∈ wa := List.mem_filter.mpr ⟨List.mem_of_getElem? (i := 336) (by decide +kernel), by decide +kernel⟩
set_option maxRecDepth 20000 in
theorem mw337 : Cond.code ⟨"DemoTape$Reader", "fault", "()I"⟩ prog_4_method_2_code 1 (some .int) ∈ wa := List.mem_filter.mpr ⟨List.mem_of_getElem? (i := 337) (by decide +kernel), by decide +kernel⟩
set_option maxRecDepth 20000 in
theorem mw342 : Cond.methodLink "DemoTape" 98 ⟨"DemoTape$Walk", "codeAt", "(I)I"⟩ ∈ wa := List.mem_filter.mpr ⟨List.mem_of_getElem? (i := 342) (by decide +kernel), by decide +kernel⟩
set_option maxRecDepth 20000 in
theorem mw343 : Cond.constant "DemoTape" 102 (100000) ∈ wa := List.mem_filter.mpr ⟨List.mem_of_getElem? (i := 343) (by decide +kernel), by decide +kernel⟩
set_option maxRecDepth 20000 in
theorem mw344 : Cond.methodLink "DemoTape" 103 ⟨"DemoTape$Code", "aheadByte", "(I)I"⟩ ∈ wa := List.mem_filter.mpr ⟨List.mem_of_getElem? (i := 344) (by decide +kernel), by decide +kernel⟩
set_option maxRecDepth 20000 in
theorem mw345 : Cond.methodLink "DemoTape" 106 ⟨"DemoTape$Code", "asideByte", "(I)I"⟩ ∈ wa := List.mem_filter.mpr ⟨List.mem_of_getElem? (i := 345) (by decide +kernel), by decide +kernel⟩
set_option maxRecDepth 20000 in
theorem mw346 : Cond.methodLink "DemoTape" 109 ⟨"DemoTape$Code", "turnByte", "(I)I"⟩ ∈ wa := List.mem_filter.mpr ⟨List.mem_of_getElem? (i := 346) (by decide +kernel), by decide +kernel⟩
set_option maxRecDepth 20000 in
theorem mw347 : Cond.methodLink "DemoTape" 112 ⟨"DemoTape$Code", "uses", "(I)Z"⟩ ∈ wa := List.mem_filter.mpr ⟨List.mem_of_getElem? (i := 347) (by decide +kernel), by decide +kernel⟩
set_option maxRecDepth 20000 in
theorem mw352 : Cond.methodLink "DemoTape" 116 ⟨"DemoTape$Walk", "startPart", "(I)I"⟩ ∈ wa := List.mem_filter.mpr ⟨List.mem_of_getElem? (i := 352) (by decide +kernel), by decide +kernel⟩
set_option maxRecDepth 20000 in
theorem mw353 : Cond.instanceMethod ⟨"DemoTape$Walk", "startPart", "(I)I"⟩ ∈ wa := List.mem_filter.mpr ⟨List.mem_of_getElem? (i := 353) (by decide +kernel), by decide +kernel⟩
set_option maxRecDepth 20000 in
theorem mw354 : Cond.selects "DemoTape$Walk" ⟨"DemoTape$Walk", "startPart", "(I)I"⟩ ⟨"DemoTape$Walk", "startPart", "(I)I"⟩ ∈ wa := List.mem_filter.mpr ⟨List.mem_of_getElem? (i := 354) (by decide +kernel), by decide +kernel⟩
set_option maxRecDepth 20000 in
theorem mw355 : Cond.code ⟨"DemoTape$Walk", "startPart", "(I)I"⟩ prog_5_method_6_code 2 (some .int) ∈ wa := List.mem_filter.mpr ⟨List.mem_of_getElem? (i := 355) (by decide +kernel), by decide +kernel⟩
set_option maxRecDepth 20000 in
theorem mw356 : Cond.constant "DemoTape$Walk" 31 (100000) ∈ wa := List.mem_filter.mpr ⟨List.mem_of_getElem? (i := 356) (by decide +kernel), by decide +kernel⟩
set_option maxRecDepth 20000 in
theorem mw361 : Cond.methodLink "DemoTape" 119 ⟨"DemoTape$ByteRow", "get", "(I)I"⟩ ∈ wa := List.mem_filter.mpr ⟨List.mem_of_getElem? (i := 361) (by decide +kernel), by decide +kernel⟩
set_option maxRecDepth 20000 in
theorem mw366 : Cond.methodLink "DemoTape" 122 ⟨"DemoTape$Walk", "countGroups", "()I"⟩ ∈ wa := List.mem_filter.mpr ⟨List.mem_of_getElem? (i := 366) (by decide +kernel), by decide +kernel⟩
set_option maxRecDepth 20000 in
theorem mw367 : Cond.instanceMethod ⟨"DemoTape$Walk", "countGroups", "()I"⟩ ∈ wa := List.mem_filter.mpr ⟨List.mem_of_getElem? (i := 367) (by decide +kernel), by decide +kernel⟩
set_option maxRecDepth 20000 in
theorem mw368 : Cond.selects "DemoTape$Walk" ⟨"DemoTape$Walk", "countGroups", "()I"⟩ ⟨"DemoTape$Walk", "countGroups", "()I"⟩ ∈ wa := List.mem_filter.mpr ⟨List.mem_of_getElem? (i := 368) (by decide +kernel), by decide +kernel⟩
set_option maxRecDepth 20000 in
theorem mw369 : Cond.code ⟨"DemoTape$Walk", "countGroups", "()I"⟩ prog_5_method_12_code 4 (some .int) ∈ wa := List.mem_filter.mpr ⟨List.mem_of_getElem? (i := 369) (by decide +kernel), by decide +kernel⟩
set_option maxRecDepth 20000 in
theorem mw370 : Cond.methodLink "DemoTape" 125 ⟨"DemoTape$Reader", "faultPlace", "()I"⟩ ∈ wa := List.mem_filter.mpr ⟨List.mem_of_getElem? (i := 370) (by decide +kernel), by decide +kernel⟩
set_option maxRecDepth 20000 in
theorem mw371 : Cond.instanceMethod ⟨"DemoTape$Reader", "faultPlace", "()I"⟩ ∈ wa := List.mem_filter.mpr ⟨List.mem_of_getElem? (i := 371) (by decide +kernel), by decide +kernel⟩
set_option maxRecDepth 20000 in
theorem mw372 : Cond.selects "DemoTape$Reader" ⟨"DemoTape$Reader", "faultPlace", "()I"⟩ ⟨"DemoTape$Reader", "faultPlace", "()I"⟩ ∈ wa := List.mem_filter.mpr ⟨List.mem_of_getElem? (i := 372) (by decide +kernel), by decide +kernel⟩
set_option maxRecDepth 20000 in
theorem mw373 : Cond.code ⟨"DemoTape$Reader", "faultPlace", "()I"⟩ prog_4_method_3_code 1 (some .int) ∈ wa := List.mem_filter.mpr ⟨List.mem_of_getElem? (i := 373) (by decide +kernel), by decide +kernel⟩
set_option maxRecDepth 20000 in
theorem mw374 : Cond.methodLink "DemoTape" 128 ⟨"DemoTape$Walk", "countUses", "()I"⟩ ∈ wa := List.mem_filter.mpr ⟨List.mem_of_getElem? (i := 374) (by decide +kernel), by decide +kernel⟩
set_option maxRecDepth 20000 in
theorem mw375 : Cond.instanceMethod ⟨"DemoTape$Walk", "countUses", "()I"⟩ ∈ wa := List.mem_filter.mpr ⟨List.mem_of_getElem? (i := 375) (by decide +kernel), by decide +kernel⟩
set_option maxRecDepth 20000 in
theorem mw376 : Cond.selects "DemoTape$Walk" ⟨"DemoTape$Walk", "countUses", "()I"⟩ ⟨"DemoTape$Walk", "countUses", "()I"⟩ ∈ wa := List.mem_filter.mpr ⟨List.mem_of_getElem? (i := 376) (by decide +kernel), by decide +kernel⟩
set_option maxRecDepth 20000 in
theorem mw377 : Cond.code ⟨"DemoTape$Walk", "countUses", "()I"⟩ prog_5_method_11_code 3 (some .int) ∈ wa := List.mem_filter.mpr ⟨List.mem_of_getElem? (i := 377) (by decide +kernel), by decide +kernel⟩
set_option maxRecDepth 20000 in
abbrev nwW : Cond := .fieldLinkNest "DemoTape$Walk" 59 "DemoTape" "MARK" "[I" "DemoTape"
set_option maxRecDepth 20000 in
theorem nwW_in : nwW ∈ lw_tbl := List.mem_of_getElem? (i := 191) (by decide +kernel)
set_option maxRecDepth 20000 in
abbrev nwR : Cond := .fieldLinkNest "DemoTape$Reader" 63 "DemoTape" "MARK" "[I" "DemoTape"
set_option maxRecDepth 20000 in
theorem nwR_in : nwR ∈ lw_tbl := List.mem_of_getElem? (i := 287) (by decide +kernel)
set_option maxRecDepth 20000 in
abbrev nwI : Cond := .methodLinkNest "DemoTape" 11 ⟨"DemoTape$Walk", "<init>", "()V"⟩ "DemoTape"
set_option maxRecDepth 20000 in
theorem nwI_in : nwI ∈ lw_tbl := List.mem_of_getElem? (i := 43) (by decide +kernel)
end
section
def F_Tape : u_T := fun k => match k with
  | 0 => ("DemoTape", "walk", "LDemoTape$Walk;", false)
  | 1 => ("DemoTape", "spare", "LDemoTape$Walk;", false)
  | 2 => ("DemoTape", "outBytes", "LDemoTape$ByteRow;", true)
  | 3 => ("DemoTape", "inBytes", "LDemoTape$ByteRow;", true)
  | _ => ("DemoTape", "reader", "LDemoTape$Reader;", true)
def t_Tape : Nat → FieldType := fun k => match k with
  | 0 => (.object "DemoTape$Walk")
  | 1 => (.object "DemoTape$Walk")
  | 2 => (.object "DemoTape$ByteRow")
  | 3 => (.object "DemoTape$ByteRow")
  | _ => (.object "DemoTape$Reader")
theorem n_Tape : ∀ a, a < 5 → ∀ b, b < 5 → a ≠ b → (F_Tape a).2.1 ≠ (F_Tape b).2.1 := by decide +kernel
theorem t_Tape_ok : ∀ k, k < 5 → parseFieldDescriptor (F_Tape k).2.2.1 = some (t_Tape k) := by decide +kernel
set_option maxRecDepth 20000 in
theorem i_Tape : ∀ w ∈ u_ws "DemoTape" F_Tape 5, w ∈ wa := by decide +kernel
def F_Walk : u_T := fun k => match k with
  | 0 => ("DemoTape$Walk", "codes", "[I", true)
  | 1 => ("DemoTape$Walk", "count", "I", false)
  | 2 => ("DemoTape$Walk", "x", "I", false)
  | 3 => ("DemoTape$Walk", "y", "I", false)
  | 4 => ("DemoTape$Walk", "angle", "I", false)
  | _ => ("DemoTape$Walk", "sector", "I", false)
def t_Walk : Nat → FieldType := fun k => match k with
  | 0 => (.array .int)
  | 1 => .int
  | 2 => .int
  | 3 => .int
  | 4 => .int
  | _ => .int
theorem n_Walk : ∀ a, a < 6 → ∀ b, b < 6 → a ≠ b → (F_Walk a).2.1 ≠ (F_Walk b).2.1 := by decide +kernel
theorem t_Walk_ok : ∀ k, k < 6 → parseFieldDescriptor (F_Walk k).2.2.1 = some (t_Walk k) := by decide +kernel
set_option maxRecDepth 20000 in
theorem i_Walk : ∀ w ∈ u_ws "DemoTape$Walk" F_Walk 6, w ∈ wa := by decide +kernel
def F_Row : u_T := fun k => match k with
  | 0 => ("DemoTape$ByteRow", "bytes", "[B", true)
  | _ => ("DemoTape$ByteRow", "size", "I", false)
def t_Row : Nat → FieldType := fun k => match k with
  | 0 => (.array .byte)
  | _ => .int
theorem n_Row : ∀ a, a < 2 → ∀ b, b < 2 → a ≠ b → (F_Row a).2.1 ≠ (F_Row b).2.1 := by decide +kernel
theorem t_Row_ok : ∀ k, k < 2 → parseFieldDescriptor (F_Row k).2.2.1 = some (t_Row k) := by decide +kernel
set_option maxRecDepth 20000 in
theorem i_Row : ∀ w ∈ u_ws "DemoTape$ByteRow" F_Row 2, w ∈ wa := by decide +kernel
def F_Rd : u_T := fun k => match k with
  | 0 => ("DemoTape$Reader", "row", "LDemoTape$ByteRow;", true)
  | 1 => ("DemoTape$Reader", "next", "I", false)
  | 2 => ("DemoTape$Reader", "aheadN", "I", false)
  | 3 => ("DemoTape$Reader", "fault", "I", false)
  | _ => ("DemoTape$Reader", "faultPlace", "I", false)
def t_Rd : Nat → FieldType := fun k => match k with
  | 0 => (.object "DemoTape$ByteRow")
  | 1 => .int
  | 2 => .int
  | 3 => .int
  | _ => .int
theorem n_Rd : ∀ a, a < 5 → ∀ b, b < 5 → a ≠ b → (F_Rd a).2.1 ≠ (F_Rd b).2.1 := by decide +kernel
theorem t_Rd_ok : ∀ k, k < 5 → parseFieldDescriptor (F_Rd k).2.2.1 = some (t_Rd k) := by decide +kernel
set_option maxRecDepth 20000 in
theorem i_Rd : ∀ w ∈ u_ws "DemoTape$Reader" F_Rd 5, w ∈ wa := by decide +kernel
def F_Mo : u_T := fun k => match k with
  | 0 => ("DemoTapeModel", "thrown", "I", false)
  | 1 => ("DemoTapeModel", "start", "[I", true)
  | 2 => ("DemoTapeModel", "aheads", "[I", true)
  | 3 => ("DemoTapeModel", "asides", "[I", true)
  | 4 => ("DemoTapeModel", "turns", "[I", true)
  | 5 => ("DemoTapeModel", "uses", "[Z", true)
  | 6 => ("DemoTapeModel", "many", "I", false)
  | 7 => ("DemoTapeModel", "output", "[I", true)
  | 8 => ("DemoTapeModel", "written", "I", false)
  | 9 => ("DemoTapeModel", "input", "[I", true)
  | 10 => ("DemoTapeModel", "size", "I", false)
  | 11 => ("DemoTapeModel", "newStart", "[I", true)
  | 12 => ("DemoTapeModel", "newAheads", "[I", true)
  | 13 => ("DemoTapeModel", "newAsides", "[I", true)
  | 14 => ("DemoTapeModel", "newTurns", "[I", true)
  | 15 => ("DemoTapeModel", "newUses", "[Z", true)
  | 16 => ("DemoTapeModel", "newMany", "I", false)
  | 17 => ("DemoTapeModel", "p", "I", false)
  | 18 => ("DemoTapeModel", "fault", "I", false)
  | 19 => ("DemoTapeModel", "place", "I", false)
  | 20 => ("DemoTapeModel", "a", "I", false)
  | _ => ("DemoTapeModel", "b", "I", false)
def t_Mo : Nat → FieldType := fun k => match k with
  | 0 => .int
  | 1 => (.array .int)
  | 2 => (.array .int)
  | 3 => (.array .int)
  | 4 => (.array .int)
  | 5 => (.array .boolean)
  | 6 => .int
  | 7 => (.array .int)
  | 8 => .int
  | 9 => (.array .int)
  | 10 => .int
  | 11 => (.array .int)
  | 12 => (.array .int)
  | 13 => (.array .int)
  | 14 => (.array .int)
  | 15 => (.array .boolean)
  | 16 => .int
  | 17 => .int
  | 18 => .int
  | 19 => .int
  | 20 => .int
  | _ => .int
theorem n_Mo : ∀ a, a < 22 → ∀ b, b < 22 → a ≠ b → (F_Mo a).2.1 ≠ (F_Mo b).2.1 := by decide +kernel
theorem t_Mo_ok : ∀ k, k < 22 → parseFieldDescriptor (F_Mo k).2.2.1 = some (t_Mo k) := by decide +kernel
set_option maxRecDepth 20000 in
theorem i_Mo : ∀ w ∈ u_ws "DemoTapeModel" F_Mo 22, w ∈ wa := by decide +kernel
abbrev classes : List vw_C := [("DemoTape", F_Tape, 5), ("DemoTape$Walk", F_Walk, 6), ("DemoTape$ByteRow", F_Row, 2), ("DemoTape$Reader", F_Rd, 5), ("DemoTapeModel", F_Mo, 22)]
abbrev y_Tape_isWithin : MethodName := ⟨"DemoTape", "isWithin", "(III)Z"⟩
def w_Tape_isWithin : List Cond := .code y_Tape_isWithin prog_1_method_16_code 3 (some .boolean) :: wa
abbrev y_Code_of : MethodName := ⟨"DemoTape$Code", "of", "(ZIII)I"⟩
def w_Code_of : List Cond := .code y_Code_of prog_3_method_2_code 4 (some .int) :: wa
abbrev y_Code_uses : MethodName := ⟨"DemoTape$Code", "uses", "(I)Z"⟩
def w_Code_uses : List Cond := .code y_Code_uses prog_3_method_3_code 1 (some .boolean) :: wa
abbrev y_Code_aheadByte : MethodName := ⟨"DemoTape$Code", "aheadByte", "(I)I"⟩
def w_Code_aheadByte : List Cond := .code y_Code_aheadByte prog_3_method_4_code 1 (some .int) :: wa
abbrev y_Code_asideByte : MethodName := ⟨"DemoTape$Code", "asideByte", "(I)I"⟩
def w_Code_asideByte : List Cond := .code y_Code_asideByte prog_3_method_5_code 1 (some .int) :: wa
abbrev y_Code_turnByte : MethodName := ⟨"DemoTape$Code", "turnByte", "(I)I"⟩
def w_Code_turnByte : List Cond := .code y_Code_turnByte prog_3_method_6_code 1 (some .int) :: wa
abbrev y_Code_hasSide : MethodName := ⟨"DemoTape$Code", "hasSide", "(I)Z"⟩
def w_Code_hasSide : List Cond := .code y_Code_hasSide prog_3_method_7_code 1 (some .boolean) :: wa
abbrev y_Walk_count : MethodName := ⟨"DemoTape$Walk", "count", "()I"⟩
def w_Walk_count : List Cond := .code y_Walk_count prog_5_method_2_code 1 (some .int) :: wa
abbrev y_Walk_room : MethodName := ⟨"DemoTape$Walk", "room", "()I"⟩
def w_Walk_room : List Cond := .code y_Walk_room prog_5_method_3_code 1 (some .int) :: wa
abbrev y_Walk_codeAt : MethodName := ⟨"DemoTape$Walk", "codeAt", "(I)I"⟩
def w_Walk_codeAt : List Cond := .code y_Walk_codeAt prog_5_method_4_code 2 (some .int) :: wa
abbrev y_Walk_setStart : MethodName := ⟨"DemoTape$Walk", "setStart", "(IIII)V"⟩
def w_Walk_setStart : List Cond := .code y_Walk_setStart prog_5_method_5_code 5 none :: wa
abbrev y_Walk_startPart : MethodName := ⟨"DemoTape$Walk", "startPart", "(I)I"⟩
def w_Walk_startPart : List Cond := .code y_Walk_startPart prog_5_method_6_code 2 (some .int) :: wa
abbrev y_Walk_append : MethodName := ⟨"DemoTape$Walk", "append", "(II)V"⟩
def w_Walk_append : List Cond := .code y_Walk_append prog_5_method_7_code 5 none :: wa
abbrev y_Walk_repeat : MethodName := ⟨"DemoTape$Walk", "repeat", "(II)V"⟩
def w_Walk_repeat : List Cond := .code y_Walk_repeat prog_5_method_8_code 4 none :: wa
abbrev y_Walk_dropLast : MethodName := ⟨"DemoTape$Walk", "dropLast", "(I)V"⟩
def w_Walk_dropLast : List Cond := .code y_Walk_dropLast prog_5_method_9_code 2 none :: wa
abbrev y_Walk_clear : MethodName := ⟨"DemoTape$Walk", "clear", "()V"⟩
def w_Walk_clear : List Cond := .code y_Walk_clear prog_5_method_10_code 1 none :: wa
abbrev y_Walk_countUses : MethodName := ⟨"DemoTape$Walk", "countUses", "()I"⟩
def w_Walk_countUses : List Cond := .code y_Walk_countUses prog_5_method_11_code 3 (some .int) :: wa
abbrev y_Walk_endsGroup : MethodName := ⟨"DemoTape$Walk", "endsGroup", "(II)Z"⟩
def w_Walk_endsGroup : List Cond := .code y_Walk_endsGroup prog_5_method_13_code 3 (some .boolean) :: wa
abbrev y_Walk_countGroups : MethodName := ⟨"DemoTape$Walk", "countGroups", "()I"⟩
def w_Walk_countGroups : List Cond := .code y_Walk_countGroups prog_5_method_12_code 4 (some .int) :: wa
abbrev y_Row_size : MethodName := ⟨"DemoTape$ByteRow", "size", "()I"⟩
def w_Row_size : List Cond := .code y_Row_size prog_2_method_2_code 1 (some .int) :: wa
abbrev y_Row_room : MethodName := ⟨"DemoTape$ByteRow", "room", "()I"⟩
def w_Row_room : List Cond := .code y_Row_room prog_2_method_3_code 1 (some .int) :: wa
abbrev y_Row_get : MethodName := ⟨"DemoTape$ByteRow", "get", "(I)I"⟩
def w_Row_get : List Cond := .code y_Row_get prog_2_method_4_code 2 (some .int) :: wa
abbrev y_Row_set : MethodName := ⟨"DemoTape$ByteRow", "set", "(II)V"⟩
def w_Row_set : List Cond := .code y_Row_set prog_2_method_5_code 3 none :: wa
abbrev y_Row_addLowest : MethodName := ⟨"DemoTape$ByteRow", "addLowest", "(JI)V"⟩
def w_Row_addLowest : List Cond := .code y_Row_addLowest prog_2_method_6_code 5 none :: wa
abbrev y_Row_keepFirst : MethodName := ⟨"DemoTape$ByteRow", "keepFirst", "(I)V"⟩
def w_Row_keepFirst : List Cond := .code y_Row_keepFirst prog_2_method_7_code 2 none :: wa
abbrev y_Row_become : MethodName := ⟨"DemoTape$ByteRow", "become", "(LDemoTape$ByteRow;)V"⟩
def w_Row_become : List Cond := .code y_Row_become prog_2_method_8_code 2 none :: wa
abbrev y_Row_checkOfFirst : MethodName := ⟨"DemoTape$ByteRow", "checkOfFirst", "(I)I"⟩
def w_Row_checkOfFirst : List Cond := .code y_Row_checkOfFirst prog_2_method_9_code 5 (some .int) :: wa
abbrev y_Rd_fault : MethodName := ⟨"DemoTape$Reader", "fault", "()I"⟩
def w_Rd_fault : List Cond := .code y_Rd_fault prog_4_method_2_code 1 (some .int) :: wa
abbrev y_Rd_faultPlace : MethodName := ⟨"DemoTape$Reader", "faultPlace", "()I"⟩
def w_Rd_faultPlace : List Cond := .code y_Rd_faultPlace prog_4_method_3_code 1 (some .int) :: wa
abbrev y_Rd_fail : MethodName := ⟨"DemoTape$Reader", "fail", "(II)V"⟩
def w_Rd_fail : List Cond := .code y_Rd_fail prog_4_method_5_code 3 none :: wa
abbrev y_Rd_take : MethodName := ⟨"DemoTape$Reader", "take", "(I)I"⟩
def w_Rd_take : List Cond := .code y_Rd_take prog_4_method_6_code 3 (some .int) :: wa
abbrev y_Rd_takeOnly : MethodName := ⟨"DemoTape$Reader", "takeOnly", "(II)V"⟩
def w_Rd_takeOnly : List Cond := .code y_Rd_takeOnly prog_4_method_7_code 4 none :: wa
abbrev y_Rd_takePlace : MethodName := ⟨"DemoTape$Reader", "takePlace", "()I"⟩
def w_Rd_takePlace : List Cond := .code y_Rd_takePlace prog_4_method_10_code 4 (some .int) :: wa
abbrev y_Rd_takeStart : MethodName := ⟨"DemoTape$Reader", "takeStart", "(LDemoTape$Walk;)V"⟩
def w_Rd_takeStart : List Cond := .code y_Rd_takeStart prog_4_method_9_code 6 none :: wa
abbrev y_Rd_takeCode : MethodName := ⟨"DemoTape$Reader", "takeCode", "(I)I"⟩
def w_Rd_takeCode : List Cond := .code y_Rd_takeCode prog_4_method_13_code 7 (some .int) :: wa
abbrev y_Rd_takeMark : MethodName := ⟨"DemoTape$Reader", "takeMark", "()V"⟩
def w_Rd_takeMark : List Cond := .code y_Rd_takeMark prog_4_method_8_code 2 none :: wa
abbrev y_Rd_takeCheck : MethodName := ⟨"DemoTape$Reader", "takeCheck", "()V"⟩
def w_Rd_takeCheck : List Cond := .code y_Rd_takeCheck prog_4_method_14_code 3 none :: wa
abbrev y_Rd_takeGroup : MethodName := ⟨"DemoTape$Reader", "takeGroup", "(LDemoTape$Walk;)Z"⟩
def w_Rd_takeGroup : List Cond := .code y_Rd_takeGroup prog_4_method_12_code 6 (some .boolean) :: wa
abbrev y_Rd_takeGroups : MethodName := ⟨"DemoTape$Reader", "takeGroups", "(LDemoTape$Walk;)V"⟩
def w_Rd_takeGroups : List Cond := .code y_Rd_takeGroups prog_4_method_11_code 4 none :: wa
abbrev y_Rd_readInto : MethodName := ⟨"DemoTape$Reader", "readInto", "(LDemoTape$Walk;)V"⟩
def w_Rd_readInto : List Cond := .code y_Rd_readInto prog_4_method_4_code 2 none :: wa
abbrev y_Walk_putGroup : MethodName := ⟨"DemoTape$Walk", "putGroup", "(LDemoTape$ByteRow;II)V"⟩
def w_Walk_putGroup : List Cond := .code y_Walk_putGroup prog_5_method_16_code 4 none :: wa
abbrev y_Walk_putGroups : MethodName := ⟨"DemoTape$Walk", "putGroups", "(LDemoTape$ByteRow;)V"⟩
def w_Walk_putGroups : List Cond := .code y_Walk_putGroups prog_5_method_15_code 4 none :: wa
abbrev y_Walk_putInto : MethodName := ⟨"DemoTape$Walk", "putInto", "(LDemoTape$ByteRow;)V"⟩
def w_Walk_putInto : List Cond := .code y_Walk_putInto prog_5_method_14_code 3 none :: wa
abbrev y_Walk_init : MethodName := ⟨"DemoTape$Walk", "<init>", "()V"⟩
def w_Walk_init : List Cond := .code y_Walk_init prog_5_method_1_code 1 none :: wa
abbrev y_Row_init : MethodName := ⟨"DemoTape$ByteRow", "<init>", "(I)V"⟩
def w_Row_init : List Cond := .code y_Row_init prog_2_method_1_code 2 none :: wa
abbrev y_Rd_init : MethodName := ⟨"DemoTape$Reader", "<init>", "(LDemoTape$ByteRow;)V"⟩
def w_Rd_init : List Cond := .code y_Rd_init prog_4_method_1_code 2 none :: wa
abbrev y_Tape_start : MethodName := ⟨"DemoTape", "start", "(IIII)Z"⟩
def w_Tape_start : List Cond := .code y_Tape_start prog_1_method_2_code 5 (some .boolean) :: wa
abbrev y_Tape_record : MethodName := ⟨"DemoTape", "record", "(IIIZI)I"⟩
def w_Tape_record : List Cond := .code y_Tape_record prog_1_method_3_code 6 (some .int) :: wa
abbrev y_Tape_undo : MethodName := ⟨"DemoTape", "undo", "(I)Z"⟩
def w_Tape_undo : List Cond := .code y_Tape_undo prog_1_method_4_code 2 (some .boolean) :: wa
abbrev y_Tape_again : MethodName := ⟨"DemoTape", "again", "(II)I"⟩
def w_Tape_again : List Cond := .code y_Tape_again prog_1_method_5_code 3 (some .int) :: wa
abbrev y_Tape_write : MethodName := ⟨"DemoTape", "write", "()I"⟩
def w_Tape_write : List Cond := .code y_Tape_write prog_1_method_6_code 1 (some .int) :: wa
abbrev y_Tape_give : MethodName := ⟨"DemoTape", "give", "(JI)Z"⟩
def w_Tape_give : List Cond := .code y_Tape_give prog_1_method_7_code 4 (some .boolean) :: wa
abbrev y_Tape_turnOver : MethodName := ⟨"DemoTape", "turnOver", "()V"⟩
def w_Tape_turnOver : List Cond := .code y_Tape_turnOver prog_1_method_8_code 1 none :: wa
abbrev y_Tape_cut : MethodName := ⟨"DemoTape", "cut", "(I)Z"⟩
def w_Tape_cut : List Cond := .code y_Tape_cut prog_1_method_9_code 2 (some .boolean) :: wa
abbrev y_Tape_poke : MethodName := ⟨"DemoTape", "poke", "(II)Z"⟩
def w_Tape_poke : List Cond := .code y_Tape_poke prog_1_method_10_code 3 (some .boolean) :: wa
abbrev y_Tape_read : MethodName := ⟨"DemoTape", "read", "()I"⟩
def w_Tape_read : List Cond := .code y_Tape_read prog_1_method_11_code 2 (some .int) :: wa
abbrev y_Tape_input : MethodName := ⟨"DemoTape", "input", "(II)I"⟩
def w_Tape_input : List Cond := .code y_Tape_input prog_1_method_12_code 4 (some .int) :: wa
abbrev y_Tape_begin : MethodName := ⟨"DemoTape", "begin", "(I)I"⟩
def w_Tape_begin : List Cond := .code y_Tape_begin prog_1_method_13_code 2 (some .int) :: wa
abbrev y_Tape_byteAt : MethodName := ⟨"DemoTape", "byteAt", "(IZ)I"⟩
def w_Tape_byteAt : List Cond := .code y_Tape_byteAt prog_1_method_14_code 3 (some .int) :: wa
abbrev y_Tape_look : MethodName := ⟨"DemoTape", "look", "(I)I"⟩
def w_Tape_look : List Cond := .code y_Tape_look prog_1_method_15_code 2 (some .int) :: wa
abbrev y_Tape_init : MethodName := ⟨"DemoTape", "<init>", "()V"⟩
def w_Tape_init : List Cond := .code y_Tape_init prog_1_method_1_code 1 none :: wa
end
section
theorem d_Tape_isWithin_0 : decode prog_1_method_16_code 0 = .ok (.iload_n 0, 1) := by decide +kernel
theorem d_Tape_isWithin_1 : decode prog_1_method_16_code 1 = .ok (.iload_n 1, 1) := by decide +kernel
theorem d_Tape_isWithin_2 : decode prog_1_method_16_code 2 = .ok (.if_icmp .lt 12, 3) := by decide +kernel
theorem d_Tape_isWithin_5 : decode prog_1_method_16_code 5 = .ok (.iload_n 0, 1) := by decide +kernel
theorem d_Tape_isWithin_6 : decode prog_1_method_16_code 6 = .ok (.iload_n 2, 1) := by decide +kernel
theorem d_Tape_isWithin_7 : decode prog_1_method_16_code 7 = .ok (.if_icmp .gt 7, 3) := by decide +kernel
theorem d_Tape_isWithin_10 : decode prog_1_method_16_code 10 = .ok (.iconst 1, 1) := by decide +kernel
theorem d_Tape_isWithin_11 : decode prog_1_method_16_code 11 = .ok (.goto 4, 3) := by decide +kernel
theorem d_Tape_isWithin_14 : decode prog_1_method_16_code 14 = .ok (.iconst 0, 1) := by decide +kernel
theorem d_Tape_isWithin_15 : decode prog_1_method_16_code 15 = .ok (.ireturn, 1) := by decide +kernel
theorem d_Code_of_0 : decode prog_3_method_2_code 0 = .ok (.iload_n 0, 1) := by decide +kernel
theorem d_Code_of_1 : decode prog_3_method_2_code 1 = .ok (.ifCond .eq 8, 3) := by decide +kernel
theorem d_Code_of_4 : decode prog_3_method_2_code 4 = .ok (.ldc 11, 2) := by decide +kernel
theorem d_Code_of_6 : decode prog_3_method_2_code 6 = .ok (.goto 4, 3) := by decide +kernel
theorem d_Code_of_9 : decode prog_3_method_2_code 9 = .ok (.iconst 0, 1) := by decide +kernel
theorem d_Code_of_10 : decode prog_3_method_2_code 10 = .ok (.iload_n 1, 1) := by decide +kernel
theorem d_Code_of_11 : decode prog_3_method_2_code 11 = .ok (.bipush 16, 2) := by decide +kernel
theorem d_Code_of_13 : decode prog_3_method_2_code 13 = .ok (.ishl, 1) := by decide +kernel
theorem d_Code_of_14 : decode prog_3_method_2_code 14 = .ok (.ior, 1) := by decide +kernel
theorem d_Code_of_15 : decode prog_3_method_2_code 15 = .ok (.iload_n 2, 1) := by decide +kernel
theorem d_Code_of_16 : decode prog_3_method_2_code 16 = .ok (.bipush 8, 2) := by decide +kernel
theorem d_Code_of_18 : decode prog_3_method_2_code 18 = .ok (.ishl, 1) := by decide +kernel
theorem d_Code_of_19 : decode prog_3_method_2_code 19 = .ok (.ior, 1) := by decide +kernel
theorem d_Code_of_20 : decode prog_3_method_2_code 20 = .ok (.iload_n 3, 1) := by decide +kernel
theorem d_Code_of_21 : decode prog_3_method_2_code 21 = .ok (.ior, 1) := by decide +kernel
theorem d_Code_of_22 : decode prog_3_method_2_code 22 = .ok (.ireturn, 1) := by decide +kernel
theorem d_Code_uses_0 : decode prog_3_method_3_code 0 = .ok (.iload_n 0, 1) := by decide +kernel
theorem d_Code_uses_1 : decode prog_3_method_3_code 1 = .ok (.ldc 11, 2) := by decide +kernel
theorem d_Code_uses_3 : decode prog_3_method_3_code 3 = .ok (.iand, 1) := by decide +kernel
theorem d_Code_uses_4 : decode prog_3_method_3_code 4 = .ok (.ifCond .eq 7, 3) := by decide +kernel
theorem d_Code_uses_7 : decode prog_3_method_3_code 7 = .ok (.iconst 1, 1) := by decide +kernel
theorem d_Code_uses_8 : decode prog_3_method_3_code 8 = .ok (.goto 4, 3) := by decide +kernel
theorem d_Code_uses_11 : decode prog_3_method_3_code 11 = .ok (.iconst 0, 1) := by decide +kernel
theorem d_Code_uses_12 : decode prog_3_method_3_code 12 = .ok (.ireturn, 1) := by decide +kernel
theorem d_Code_aheadByte_0 : decode prog_3_method_4_code 0 = .ok (.iload_n 0, 1) := by decide +kernel
theorem d_Code_aheadByte_1 : decode prog_3_method_4_code 1 = .ok (.bipush 16, 2) := by decide +kernel
theorem d_Code_aheadByte_3 : decode prog_3_method_4_code 3 = .ok (.ishr, 1) := by decide +kernel
theorem d_Code_aheadByte_4 : decode prog_3_method_4_code 4 = .ok (.sipush 255, 3) := by decide +kernel
theorem d_Code_aheadByte_7 : decode prog_3_method_4_code 7 = .ok (.iand, 1) := by decide +kernel
theorem d_Code_aheadByte_8 : decode prog_3_method_4_code 8 = .ok (.ireturn, 1) := by decide +kernel
theorem d_Code_asideByte_0 : decode prog_3_method_5_code 0 = .ok (.iload_n 0, 1) := by decide +kernel
theorem d_Code_asideByte_1 : decode prog_3_method_5_code 1 = .ok (.bipush 8, 2) := by decide +kernel
theorem d_Code_asideByte_3 : decode prog_3_method_5_code 3 = .ok (.ishr, 1) := by decide +kernel
theorem d_Code_asideByte_4 : decode prog_3_method_5_code 4 = .ok (.sipush 255, 3) := by decide +kernel
theorem d_Code_asideByte_7 : decode prog_3_method_5_code 7 = .ok (.iand, 1) := by decide +kernel
theorem d_Code_asideByte_8 : decode prog_3_method_5_code 8 = .ok (.ireturn, 1) := by decide +kernel
theorem d_Code_turnByte_0 : decode prog_3_method_6_code 0 = .ok (.iload_n 0, 1) := by decide +kernel
theorem d_Code_turnByte_1 : decode prog_3_method_6_code 1 = .ok (.sipush 255, 3) := by decide +kernel
theorem d_Code_turnByte_4 : decode prog_3_method_6_code 4 = .ok (.iand, 1) := by decide +kernel
theorem d_Code_turnByte_5 : decode prog_3_method_6_code 5 = .ok (.ireturn, 1) := by decide +kernel
theorem d_Code_hasSide_0 : decode prog_3_method_7_code 0 = .ok (.iload_n 0, 1) := by decide +kernel
theorem d_Code_hasSide_1 : decode prog_3_method_7_code 1 = .ok (.invokestatic 12, 3) := by decide +kernel
theorem d_Code_hasSide_4 : decode prog_3_method_7_code 4 = .ok (.bipush 64, 2) := by decide +kernel
theorem d_Code_hasSide_6 : decode prog_3_method_7_code 6 = .ok (.if_icmp .ne 12, 3) := by decide +kernel
theorem d_Code_hasSide_9 : decode prog_3_method_7_code 9 = .ok (.iload_n 0, 1) := by decide +kernel
theorem d_Code_hasSide_10 : decode prog_3_method_7_code 10 = .ok (.invokestatic 16, 3) := by decide +kernel
theorem d_Code_hasSide_13 : decode prog_3_method_7_code 13 = .ok (.bipush 16, 2) := by decide +kernel
theorem d_Code_hasSide_15 : decode prog_3_method_7_code 15 = .ok (.if_icmp .eq 7, 3) := by decide +kernel
theorem d_Code_hasSide_18 : decode prog_3_method_7_code 18 = .ok (.iconst 1, 1) := by decide +kernel
theorem d_Code_hasSide_19 : decode prog_3_method_7_code 19 = .ok (.goto 4, 3) := by decide +kernel
theorem d_Code_hasSide_22 : decode prog_3_method_7_code 22 = .ok (.iconst 0, 1) := by decide +kernel
theorem d_Code_hasSide_23 : decode prog_3_method_7_code 23 = .ok (.ireturn, 1) := by decide +kernel
theorem d_Walk_count_0 : decode prog_5_method_2_code 0 = .ok (.aload_n 0, 1) := by decide +kernel
theorem d_Walk_count_1 : decode prog_5_method_2_code 1 = .ok (.getfield 15, 3) := by decide +kernel
theorem d_Walk_count_4 : decode prog_5_method_2_code 4 = .ok (.ireturn, 1) := by decide +kernel
theorem d_Walk_room_0 : decode prog_5_method_3_code 0 = .ok (.aload_n 0, 1) := by decide +kernel
theorem d_Walk_room_1 : decode prog_5_method_3_code 1 = .ok (.getfield 9, 3) := by decide +kernel
theorem d_Walk_room_4 : decode prog_5_method_3_code 4 = .ok (.arraylength, 1) := by decide +kernel
theorem d_Walk_room_5 : decode prog_5_method_3_code 5 = .ok (.aload_n 0, 1) := by decide +kernel
theorem d_Walk_room_6 : decode prog_5_method_3_code 6 = .ok (.getfield 15, 3) := by decide +kernel
theorem d_Walk_room_9 : decode prog_5_method_3_code 9 = .ok (.isub, 1) := by decide +kernel
theorem d_Walk_room_10 : decode prog_5_method_3_code 10 = .ok (.ireturn, 1) := by decide +kernel
theorem d_Walk_codeAt_0 : decode prog_5_method_4_code 0 = .ok (.iload_n 1, 1) := by decide +kernel
theorem d_Walk_codeAt_1 : decode prog_5_method_4_code 1 = .ok (.ifCond .lt 29, 3) := by decide +kernel
theorem d_Walk_codeAt_4 : decode prog_5_method_4_code 4 = .ok (.iload_n 1, 1) := by decide +kernel
theorem d_Walk_codeAt_5 : decode prog_5_method_4_code 5 = .ok (.aload_n 0, 1) := by decide +kernel
theorem d_Walk_codeAt_6 : decode prog_5_method_4_code 6 = .ok (.getfield 15, 3) := by decide +kernel
theorem d_Walk_codeAt_9 : decode prog_5_method_4_code 9 = .ok (.if_icmp .ge 21, 3) := by decide +kernel
theorem d_Walk_codeAt_12 : decode prog_5_method_4_code 12 = .ok (.iload_n 1, 1) := by decide +kernel
theorem d_Walk_codeAt_13 : decode prog_5_method_4_code 13 = .ok (.aload_n 0, 1) := by decide +kernel
theorem d_Walk_codeAt_14 : decode prog_5_method_4_code 14 = .ok (.getfield 9, 3) := by decide +kernel
theorem d_Walk_codeAt_17 : decode prog_5_method_4_code 17 = .ok (.arraylength, 1) := by decide +kernel
theorem d_Walk_codeAt_18 : decode prog_5_method_4_code 18 = .ok (.if_icmp .ge 12, 3) := by decide +kernel
theorem d_Walk_codeAt_21 : decode prog_5_method_4_code 21 = .ok (.aload_n 0, 1) := by decide +kernel
theorem d_Walk_codeAt_22 : decode prog_5_method_4_code 22 = .ok (.getfield 9, 3) := by decide +kernel
theorem d_Walk_codeAt_25 : decode prog_5_method_4_code 25 = .ok (.iload_n 1, 1) := by decide +kernel
theorem d_Walk_codeAt_26 : decode prog_5_method_4_code 26 = .ok (.iaload, 1) := by decide +kernel
theorem d_Walk_codeAt_27 : decode prog_5_method_4_code 27 = .ok (.goto 4, 3) := by decide +kernel
theorem d_Walk_codeAt_30 : decode prog_5_method_4_code 30 = .ok (.iconst (-1), 1) := by decide +kernel
theorem d_Walk_codeAt_31 : decode prog_5_method_4_code 31 = .ok (.ireturn, 1) := by decide +kernel
theorem d_Walk_setStart_0 : decode prog_5_method_5_code 0 = .ok (.aload_n 0, 1) := by decide +kernel
theorem d_Walk_setStart_1 : decode prog_5_method_5_code 1 = .ok (.iload_n 1, 1) := by decide +kernel
theorem d_Walk_setStart_2 : decode prog_5_method_5_code 2 = .ok (.putfield 19, 3) := by decide +kernel
theorem d_Walk_setStart_5 : decode prog_5_method_5_code 5 = .ok (.aload_n 0, 1) := by decide +kernel
theorem d_Walk_setStart_6 : decode prog_5_method_5_code 6 = .ok (.iload_n 2, 1) := by decide +kernel
theorem d_Walk_setStart_7 : decode prog_5_method_5_code 7 = .ok (.putfield 22, 3) := by decide +kernel
theorem d_Walk_setStart_10 : decode prog_5_method_5_code 10 = .ok (.aload_n 0, 1) := by decide +kernel
theorem d_Walk_setStart_11 : decode prog_5_method_5_code 11 = .ok (.iload_n 3, 1) := by decide +kernel
theorem d_Walk_setStart_12 : decode prog_5_method_5_code 12 = .ok (.putfield 25, 3) := by decide +kernel
theorem d_Walk_setStart_15 : decode prog_5_method_5_code 15 = .ok (.aload_n 0, 1) := by decide +kernel
theorem d_Walk_setStart_16 : decode prog_5_method_5_code 16 = .ok (.iload 4, 2) := by decide +kernel
theorem d_Walk_setStart_18 : decode prog_5_method_5_code 18 = .ok (.putfield 28, 3) := by decide +kernel
theorem d_Walk_setStart_21 : decode prog_5_method_5_code 21 = .ok (.return_, 1) := by decide +kernel
theorem d_Walk_startPart_0 : decode prog_5_method_6_code 0 = .ok (.iload_n 1, 1) := by decide +kernel
theorem d_Walk_startPart_1 : decode prog_5_method_6_code 1 = .ok (.tableswitch 51 0 3 #[31, 36, 41, 46], 31) := by decide +kernel
theorem d_Walk_startPart_32 : decode prog_5_method_6_code 32 = .ok (.aload_n 0, 1) := by decide +kernel
theorem d_Walk_startPart_33 : decode prog_5_method_6_code 33 = .ok (.getfield 19, 3) := by decide +kernel
theorem d_Walk_startPart_36 : decode prog_5_method_6_code 36 = .ok (.ireturn, 1) := by decide +kernel
theorem d_Walk_startPart_37 : decode prog_5_method_6_code 37 = .ok (.aload_n 0, 1) := by decide +kernel
theorem d_Walk_startPart_38 : decode prog_5_method_6_code 38 = .ok (.getfield 22, 3) := by decide +kernel
theorem d_Walk_startPart_41 : decode prog_5_method_6_code 41 = .ok (.ireturn, 1) := by decide +kernel
theorem d_Walk_startPart_42 : decode prog_5_method_6_code 42 = .ok (.aload_n 0, 1) := by decide +kernel
theorem d_Walk_startPart_43 : decode prog_5_method_6_code 43 = .ok (.getfield 25, 3) := by decide +kernel
theorem d_Walk_startPart_46 : decode prog_5_method_6_code 46 = .ok (.ireturn, 1) := by decide +kernel
theorem d_Walk_startPart_47 : decode prog_5_method_6_code 47 = .ok (.aload_n 0, 1) := by decide +kernel
theorem d_Walk_startPart_48 : decode prog_5_method_6_code 48 = .ok (.getfield 28, 3) := by decide +kernel
theorem d_Walk_startPart_51 : decode prog_5_method_6_code 51 = .ok (.ireturn, 1) := by decide +kernel
theorem d_Walk_startPart_52 : decode prog_5_method_6_code 52 = .ok (.ldc 31, 2) := by decide +kernel
theorem d_Walk_startPart_54 : decode prog_5_method_6_code 54 = .ok (.ireturn, 1) := by decide +kernel
theorem d_Walk_append_0 : decode prog_5_method_7_code 0 = .ok (.aload_n 0, 1) := by decide +kernel
theorem d_Walk_append_1 : decode prog_5_method_7_code 1 = .ok (.getfield 15, 3) := by decide +kernel
theorem d_Walk_append_4 : decode prog_5_method_7_code 4 = .ok (.iload_n 2, 1) := by decide +kernel
theorem d_Walk_append_5 : decode prog_5_method_7_code 5 = .ok (.iadd, 1) := by decide +kernel
theorem d_Walk_append_6 : decode prog_5_method_7_code 6 = .ok (.aload_n 0, 1) := by decide +kernel
theorem d_Walk_append_7 : decode prog_5_method_7_code 7 = .ok (.getfield 9, 3) := by decide +kernel
theorem d_Walk_append_10 : decode prog_5_method_7_code 10 = .ok (.arraylength, 1) := by decide +kernel
theorem d_Walk_append_11 : decode prog_5_method_7_code 11 = .ok (.invokestatic 32, 3) := by decide +kernel
theorem d_Walk_append_14 : decode prog_5_method_7_code 14 = .ok (.istore_n 3, 1) := by decide +kernel
theorem d_Walk_append_15 : decode prog_5_method_7_code 15 = .ok (.aload_n 0, 1) := by decide +kernel
theorem d_Walk_append_16 : decode prog_5_method_7_code 16 = .ok (.getfield 15, 3) := by decide +kernel
theorem d_Walk_append_19 : decode prog_5_method_7_code 19 = .ok (.istore 4, 2) := by decide +kernel
theorem d_Walk_append_21 : decode prog_5_method_7_code 21 = .ok (.iload 4, 2) := by decide +kernel
theorem d_Walk_append_23 : decode prog_5_method_7_code 23 = .ok (.iload_n 3, 1) := by decide +kernel
theorem d_Walk_append_24 : decode prog_5_method_7_code 24 = .ok (.if_icmp .ge 17, 3) := by decide +kernel
theorem d_Walk_append_27 : decode prog_5_method_7_code 27 = .ok (.aload_n 0, 1) := by decide +kernel
theorem d_Walk_append_28 : decode prog_5_method_7_code 28 = .ok (.getfield 9, 3) := by decide +kernel
theorem d_Walk_append_31 : decode prog_5_method_7_code 31 = .ok (.iload 4, 2) := by decide +kernel
theorem d_Walk_append_33 : decode prog_5_method_7_code 33 = .ok (.iload_n 1, 1) := by decide +kernel
theorem d_Walk_append_34 : decode prog_5_method_7_code 34 = .ok (.iastore, 1) := by decide +kernel
theorem d_Walk_append_35 : decode prog_5_method_7_code 35 = .ok (.iinc 4 1, 3) := by decide +kernel
theorem d_Walk_append_38 : decode prog_5_method_7_code 38 = .ok (.goto (-17), 3) := by decide +kernel
theorem d_Walk_append_41 : decode prog_5_method_7_code 41 = .ok (.aload_n 0, 1) := by decide +kernel
theorem d_Walk_append_42 : decode prog_5_method_7_code 42 = .ok (.iload_n 3, 1) := by decide +kernel
theorem d_Walk_append_43 : decode prog_5_method_7_code 43 = .ok (.putfield 15, 3) := by decide +kernel
theorem d_Walk_append_46 : decode prog_5_method_7_code 46 = .ok (.return_, 1) := by decide +kernel
theorem d_Walk_repeat_0 : decode prog_5_method_8_code 0 = .ok (.iconst 0, 1) := by decide +kernel
theorem d_Walk_repeat_1 : decode prog_5_method_8_code 1 = .ok (.istore_n 3, 1) := by decide +kernel
theorem d_Walk_repeat_2 : decode prog_5_method_8_code 2 = .ok (.iload_n 3, 1) := by decide +kernel
theorem d_Walk_repeat_3 : decode prog_5_method_8_code 3 = .ok (.iload_n 2, 1) := by decide +kernel
theorem d_Walk_repeat_4 : decode prog_5_method_8_code 4 = .ok (.if_icmp .ge 21, 3) := by decide +kernel
theorem d_Walk_repeat_7 : decode prog_5_method_8_code 7 = .ok (.aload_n 0, 1) := by decide +kernel
theorem d_Walk_repeat_8 : decode prog_5_method_8_code 8 = .ok (.aload_n 0, 1) := by decide +kernel
theorem d_Walk_repeat_9 : decode prog_5_method_8_code 9 = .ok (.iload_n 1, 1) := by decide +kernel
theorem d_Walk_repeat_10 : decode prog_5_method_8_code 10 = .ok (.iload_n 3, 1) := by decide +kernel
theorem d_Walk_repeat_11 : decode prog_5_method_8_code 11 = .ok (.iadd, 1) := by decide +kernel
theorem d_Walk_repeat_12 : decode prog_5_method_8_code 12 = .ok (.invokevirtual 38, 3) := by decide +kernel
theorem d_Walk_repeat_15 : decode prog_5_method_8_code 15 = .ok (.iconst 1, 1) := by decide +kernel
theorem d_Walk_repeat_16 : decode prog_5_method_8_code 16 = .ok (.invokevirtual 42, 3) := by decide +kernel
theorem d_Walk_repeat_19 : decode prog_5_method_8_code 19 = .ok (.iinc 3 1, 3) := by decide +kernel
theorem d_Walk_repeat_22 : decode prog_5_method_8_code 22 = .ok (.goto (-20), 3) := by decide +kernel
theorem d_Walk_repeat_25 : decode prog_5_method_8_code 25 = .ok (.return_, 1) := by decide +kernel
theorem d_Walk_dropLast_0 : decode prog_5_method_9_code 0 = .ok (.aload_n 0, 1) := by decide +kernel
theorem d_Walk_dropLast_1 : decode prog_5_method_9_code 1 = .ok (.aload_n 0, 1) := by decide +kernel
theorem d_Walk_dropLast_2 : decode prog_5_method_9_code 2 = .ok (.getfield 15, 3) := by decide +kernel
theorem d_Walk_dropLast_5 : decode prog_5_method_9_code 5 = .ok (.iload_n 1, 1) := by decide +kernel
theorem d_Walk_dropLast_6 : decode prog_5_method_9_code 6 = .ok (.isub, 1) := by decide +kernel
theorem d_Walk_dropLast_7 : decode prog_5_method_9_code 7 = .ok (.iconst 0, 1) := by decide +kernel
theorem d_Walk_dropLast_8 : decode prog_5_method_9_code 8 = .ok (.invokestatic 46, 3) := by decide +kernel
theorem d_Walk_dropLast_11 : decode prog_5_method_9_code 11 = .ok (.putfield 15, 3) := by decide +kernel
theorem d_Walk_dropLast_14 : decode prog_5_method_9_code 14 = .ok (.return_, 1) := by decide +kernel
theorem d_Walk_clear_0 : decode prog_5_method_10_code 0 = .ok (.aload_n 0, 1) := by decide +kernel
theorem d_Walk_clear_1 : decode prog_5_method_10_code 1 = .ok (.iconst 0, 1) := by decide +kernel
theorem d_Walk_clear_2 : decode prog_5_method_10_code 2 = .ok (.putfield 15, 3) := by decide +kernel
theorem d_Walk_clear_5 : decode prog_5_method_10_code 5 = .ok (.return_, 1) := by decide +kernel
theorem d_Walk_countUses_0 : decode prog_5_method_11_code 0 = .ok (.iconst 0, 1) := by decide +kernel
theorem d_Walk_countUses_1 : decode prog_5_method_11_code 1 = .ok (.istore_n 1, 1) := by decide +kernel
theorem d_Walk_countUses_2 : decode prog_5_method_11_code 2 = .ok (.iconst 0, 1) := by decide +kernel
theorem d_Walk_countUses_3 : decode prog_5_method_11_code 3 = .ok (.istore_n 2, 1) := by decide +kernel
theorem d_Walk_countUses_4 : decode prog_5_method_11_code 4 = .ok (.iload_n 2, 1) := by decide +kernel
theorem d_Walk_countUses_5 : decode prog_5_method_11_code 5 = .ok (.aload_n 0, 1) := by decide +kernel
theorem d_Walk_countUses_6 : decode prog_5_method_11_code 6 = .ok (.getfield 15, 3) := by decide +kernel
theorem d_Walk_countUses_9 : decode prog_5_method_11_code 9 = .ok (.if_icmp .ge 23, 3) := by decide +kernel
theorem d_Walk_countUses_12 : decode prog_5_method_11_code 12 = .ok (.aload_n 0, 1) := by decide +kernel
theorem d_Walk_countUses_13 : decode prog_5_method_11_code 13 = .ok (.iload_n 2, 1) := by decide +kernel
theorem d_Walk_countUses_14 : decode prog_5_method_11_code 14 = .ok (.invokevirtual 38, 3) := by decide +kernel
theorem d_Walk_countUses_17 : decode prog_5_method_11_code 17 = .ok (.invokestatic 49, 3) := by decide +kernel
theorem d_Walk_countUses_20 : decode prog_5_method_11_code 20 = .ok (.ifCond .eq 6, 3) := by decide +kernel
theorem d_Walk_countUses_23 : decode prog_5_method_11_code 23 = .ok (.iinc 1 1, 3) := by decide +kernel
theorem d_Walk_countUses_26 : decode prog_5_method_11_code 26 = .ok (.iinc 2 1, 3) := by decide +kernel
theorem d_Walk_countUses_29 : decode prog_5_method_11_code 29 = .ok (.goto (-25), 3) := by decide +kernel
theorem d_Walk_countUses_32 : decode prog_5_method_11_code 32 = .ok (.iload_n 1, 1) := by decide +kernel
theorem d_Walk_countUses_33 : decode prog_5_method_11_code 33 = .ok (.ireturn, 1) := by decide +kernel
theorem d_Walk_endsGroup_0 : decode prog_5_method_13_code 0 = .ok (.iload_n 2, 1) := by decide +kernel
theorem d_Walk_endsGroup_1 : decode prog_5_method_13_code 1 = .ok (.bipush 63, 2) := by decide +kernel
theorem d_Walk_endsGroup_3 : decode prog_5_method_13_code 3 = .ok (.if_icmp .eq 18, 3) := by decide +kernel
theorem d_Walk_endsGroup_6 : decode prog_5_method_13_code 6 = .ok (.aload_n 0, 1) := by decide +kernel
theorem d_Walk_endsGroup_7 : decode prog_5_method_13_code 7 = .ok (.iload_n 1, 1) := by decide +kernel
theorem d_Walk_endsGroup_8 : decode prog_5_method_13_code 8 = .ok (.iconst 1, 1) := by decide +kernel
theorem d_Walk_endsGroup_9 : decode prog_5_method_13_code 9 = .ok (.iadd, 1) := by decide +kernel
theorem d_Walk_endsGroup_10 : decode prog_5_method_13_code 10 = .ok (.invokevirtual 38, 3) := by decide +kernel
theorem d_Walk_endsGroup_13 : decode prog_5_method_13_code 13 = .ok (.aload_n 0, 1) := by decide +kernel
theorem d_Walk_endsGroup_14 : decode prog_5_method_13_code 14 = .ok (.iload_n 1, 1) := by decide +kernel
theorem d_Walk_endsGroup_15 : decode prog_5_method_13_code 15 = .ok (.invokevirtual 38, 3) := by decide +kernel
theorem d_Walk_endsGroup_18 : decode prog_5_method_13_code 18 = .ok (.if_icmp .eq 7, 3) := by decide +kernel
theorem d_Walk_endsGroup_21 : decode prog_5_method_13_code 21 = .ok (.iconst 1, 1) := by decide +kernel
theorem d_Walk_endsGroup_22 : decode prog_5_method_13_code 22 = .ok (.goto 4, 3) := by decide +kernel
theorem d_Walk_endsGroup_25 : decode prog_5_method_13_code 25 = .ok (.iconst 0, 1) := by decide +kernel
theorem d_Walk_endsGroup_26 : decode prog_5_method_13_code 26 = .ok (.ireturn, 1) := by decide +kernel
theorem d_Walk_countGroups_0 : decode prog_5_method_12_code 0 = .ok (.iconst 0, 1) := by decide +kernel
theorem d_Walk_countGroups_1 : decode prog_5_method_12_code 1 = .ok (.istore_n 1, 1) := by decide +kernel
theorem d_Walk_countGroups_2 : decode prog_5_method_12_code 2 = .ok (.iconst 0, 1) := by decide +kernel
theorem d_Walk_countGroups_3 : decode prog_5_method_12_code 3 = .ok (.istore_n 2, 1) := by decide +kernel
theorem d_Walk_countGroups_4 : decode prog_5_method_12_code 4 = .ok (.iconst 0, 1) := by decide +kernel
theorem d_Walk_countGroups_5 : decode prog_5_method_12_code 5 = .ok (.istore_n 3, 1) := by decide +kernel
theorem d_Walk_countGroups_6 : decode prog_5_method_12_code 6 = .ok (.iload_n 3, 1) := by decide +kernel
theorem d_Walk_countGroups_7 : decode prog_5_method_12_code 7 = .ok (.aload_n 0, 1) := by decide +kernel
theorem d_Walk_countGroups_8 : decode prog_5_method_12_code 8 = .ok (.getfield 15, 3) := by decide +kernel
theorem d_Walk_countGroups_11 : decode prog_5_method_12_code 11 = .ok (.if_icmp .ge 26, 3) := by decide +kernel
theorem d_Walk_countGroups_14 : decode prog_5_method_12_code 14 = .ok (.iinc 2 1, 3) := by decide +kernel
theorem d_Walk_countGroups_17 : decode prog_5_method_12_code 17 = .ok (.aload_n 0, 1) := by decide +kernel
theorem d_Walk_countGroups_18 : decode prog_5_method_12_code 18 = .ok (.iload_n 3, 1) := by decide +kernel
theorem d_Walk_countGroups_19 : decode prog_5_method_12_code 19 = .ok (.iload_n 2, 1) := by decide +kernel
theorem d_Walk_countGroups_20 : decode prog_5_method_12_code 20 = .ok (.invokevirtual 55, 3) := by decide +kernel
theorem d_Walk_countGroups_23 : decode prog_5_method_12_code 23 = .ok (.ifCond .eq 8, 3) := by decide +kernel
theorem d_Walk_countGroups_26 : decode prog_5_method_12_code 26 = .ok (.iinc 1 1, 3) := by decide +kernel
theorem d_Walk_countGroups_29 : decode prog_5_method_12_code 29 = .ok (.iconst 0, 1) := by decide +kernel
theorem d_Walk_countGroups_30 : decode prog_5_method_12_code 30 = .ok (.istore_n 2, 1) := by decide +kernel
theorem d_Walk_countGroups_31 : decode prog_5_method_12_code 31 = .ok (.iinc 3 1, 3) := by decide +kernel
theorem d_Walk_countGroups_34 : decode prog_5_method_12_code 34 = .ok (.goto (-28), 3) := by decide +kernel
theorem d_Walk_countGroups_37 : decode prog_5_method_12_code 37 = .ok (.iload_n 1, 1) := by decide +kernel
theorem d_Walk_countGroups_38 : decode prog_5_method_12_code 38 = .ok (.ireturn, 1) := by decide +kernel
theorem d_Row_size_0 : decode prog_2_method_2_code 0 = .ok (.aload_n 0, 1) := by decide +kernel
theorem d_Row_size_1 : decode prog_2_method_2_code 1 = .ok (.getfield 21, 3) := by decide +kernel
theorem d_Row_size_4 : decode prog_2_method_2_code 4 = .ok (.ireturn, 1) := by decide +kernel
theorem d_Row_room_0 : decode prog_2_method_3_code 0 = .ok (.aload_n 0, 1) := by decide +kernel
theorem d_Row_room_1 : decode prog_2_method_3_code 1 = .ok (.getfield 15, 3) := by decide +kernel
theorem d_Row_room_4 : decode prog_2_method_3_code 4 = .ok (.arraylength, 1) := by decide +kernel
theorem d_Row_room_5 : decode prog_2_method_3_code 5 = .ok (.aload_n 0, 1) := by decide +kernel
theorem d_Row_room_6 : decode prog_2_method_3_code 6 = .ok (.getfield 21, 3) := by decide +kernel
theorem d_Row_room_9 : decode prog_2_method_3_code 9 = .ok (.isub, 1) := by decide +kernel
theorem d_Row_room_10 : decode prog_2_method_3_code 10 = .ok (.ireturn, 1) := by decide +kernel
theorem d_Row_get_0 : decode prog_2_method_4_code 0 = .ok (.iload_n 1, 1) := by decide +kernel
theorem d_Row_get_1 : decode prog_2_method_4_code 1 = .ok (.ifCond .lt 33, 3) := by decide +kernel
theorem d_Row_get_4 : decode prog_2_method_4_code 4 = .ok (.iload_n 1, 1) := by decide +kernel
theorem d_Row_get_5 : decode prog_2_method_4_code 5 = .ok (.aload_n 0, 1) := by decide +kernel
theorem d_Row_get_6 : decode prog_2_method_4_code 6 = .ok (.getfield 21, 3) := by decide +kernel
theorem d_Row_get_9 : decode prog_2_method_4_code 9 = .ok (.if_icmp .ge 25, 3) := by decide +kernel
theorem d_Row_get_12 : decode prog_2_method_4_code 12 = .ok (.iload_n 1, 1) := by decide +kernel
theorem d_Row_get_13 : decode prog_2_method_4_code 13 = .ok (.aload_n 0, 1) := by decide +kernel
theorem d_Row_get_14 : decode prog_2_method_4_code 14 = .ok (.getfield 15, 3) := by decide +kernel
theorem d_Row_get_17 : decode prog_2_method_4_code 17 = .ok (.arraylength, 1) := by decide +kernel
theorem d_Row_get_18 : decode prog_2_method_4_code 18 = .ok (.if_icmp .ge 16, 3) := by decide +kernel
theorem d_Row_get_21 : decode prog_2_method_4_code 21 = .ok (.aload_n 0, 1) := by decide +kernel
theorem d_Row_get_22 : decode prog_2_method_4_code 22 = .ok (.getfield 15, 3) := by decide +kernel
theorem d_Row_get_25 : decode prog_2_method_4_code 25 = .ok (.iload_n 1, 1) := by decide +kernel
theorem d_Row_get_26 : decode prog_2_method_4_code 26 = .ok (.baload, 1) := by decide +kernel
theorem d_Row_get_27 : decode prog_2_method_4_code 27 = .ok (.sipush 255, 3) := by decide +kernel
theorem d_Row_get_30 : decode prog_2_method_4_code 30 = .ok (.iand, 1) := by decide +kernel
theorem d_Row_get_31 : decode prog_2_method_4_code 31 = .ok (.goto 4, 3) := by decide +kernel
theorem d_Row_get_34 : decode prog_2_method_4_code 34 = .ok (.iconst (-1), 1) := by decide +kernel
theorem d_Row_get_35 : decode prog_2_method_4_code 35 = .ok (.ireturn, 1) := by decide +kernel
theorem d_Row_set_0 : decode prog_2_method_5_code 0 = .ok (.iload_n 1, 1) := by decide +kernel
theorem d_Row_set_1 : decode prog_2_method_5_code 1 = .ok (.ifCond .lt 28, 3) := by decide +kernel
theorem d_Row_set_4 : decode prog_2_method_5_code 4 = .ok (.iload_n 1, 1) := by decide +kernel
theorem d_Row_set_5 : decode prog_2_method_5_code 5 = .ok (.aload_n 0, 1) := by decide +kernel
theorem d_Row_set_6 : decode prog_2_method_5_code 6 = .ok (.getfield 21, 3) := by decide +kernel
theorem d_Row_set_9 : decode prog_2_method_5_code 9 = .ok (.if_icmp .ge 20, 3) := by decide +kernel
theorem d_Row_set_12 : decode prog_2_method_5_code 12 = .ok (.iload_n 1, 1) := by decide +kernel
theorem d_Row_set_13 : decode prog_2_method_5_code 13 = .ok (.aload_n 0, 1) := by decide +kernel
theorem d_Row_set_14 : decode prog_2_method_5_code 14 = .ok (.getfield 15, 3) := by decide +kernel
theorem d_Row_set_17 : decode prog_2_method_5_code 17 = .ok (.arraylength, 1) := by decide +kernel
theorem d_Row_set_18 : decode prog_2_method_5_code 18 = .ok (.if_icmp .ge 11, 3) := by decide +kernel
theorem d_Row_set_21 : decode prog_2_method_5_code 21 = .ok (.aload_n 0, 1) := by decide +kernel
theorem d_Row_set_22 : decode prog_2_method_5_code 22 = .ok (.getfield 15, 3) := by decide +kernel
theorem d_Row_set_25 : decode prog_2_method_5_code 25 = .ok (.iload_n 1, 1) := by decide +kernel
theorem d_Row_set_26 : decode prog_2_method_5_code 26 = .ok (.iload_n 2, 1) := by decide +kernel
theorem d_Row_set_27 : decode prog_2_method_5_code 27 = .ok (.i2b, 1) := by decide +kernel
theorem d_Row_set_28 : decode prog_2_method_5_code 28 = .ok (.bastore, 1) := by decide +kernel
theorem d_Row_set_29 : decode prog_2_method_5_code 29 = .ok (.return_, 1) := by decide +kernel
theorem d_Row_addLowest_0 : decode prog_2_method_6_code 0 = .ok (.iload_n 3, 1) := by decide +kernel
theorem d_Row_addLowest_1 : decode prog_2_method_6_code 1 = .ok (.iconst 1, 1) := by decide +kernel
theorem d_Row_addLowest_2 : decode prog_2_method_6_code 2 = .ok (.isub, 1) := by decide +kernel
theorem d_Row_addLowest_3 : decode prog_2_method_6_code 3 = .ok (.istore 4, 2) := by decide +kernel
theorem d_Row_addLowest_5 : decode prog_2_method_6_code 5 = .ok (.iload 4, 2) := by decide +kernel
theorem d_Row_addLowest_7 : decode prog_2_method_6_code 7 = .ok (.ifCond .lt 49, 3) := by decide +kernel
theorem d_Row_addLowest_10 : decode prog_2_method_6_code 10 = .ok (.aload_n 0, 1) := by decide +kernel
theorem d_Row_addLowest_11 : decode prog_2_method_6_code 11 = .ok (.getfield 21, 3) := by decide +kernel
theorem d_Row_addLowest_14 : decode prog_2_method_6_code 14 = .ok (.aload_n 0, 1) := by decide +kernel
theorem d_Row_addLowest_15 : decode prog_2_method_6_code 15 = .ok (.getfield 15, 3) := by decide +kernel
theorem d_Row_addLowest_18 : decode prog_2_method_6_code 18 = .ok (.arraylength, 1) := by decide +kernel
theorem d_Row_addLowest_19 : decode prog_2_method_6_code 19 = .ok (.if_icmp .ge 37, 3) := by decide +kernel
theorem d_Row_addLowest_22 : decode prog_2_method_6_code 22 = .ok (.aload_n 0, 1) := by decide +kernel
theorem d_Row_addLowest_23 : decode prog_2_method_6_code 23 = .ok (.getfield 15, 3) := by decide +kernel
theorem d_Row_addLowest_26 : decode prog_2_method_6_code 26 = .ok (.aload_n 0, 1) := by decide +kernel
theorem d_Row_addLowest_27 : decode prog_2_method_6_code 27 = .ok (.getfield 21, 3) := by decide +kernel
theorem d_Row_addLowest_30 : decode prog_2_method_6_code 30 = .ok (.lload_n 1, 1) := by decide +kernel
theorem d_Row_addLowest_31 : decode prog_2_method_6_code 31 = .ok (.bipush 8, 2) := by decide +kernel
theorem d_Row_addLowest_33 : decode prog_2_method_6_code 33 = .ok (.iload 4, 2) := by decide +kernel
theorem d_Row_addLowest_35 : decode prog_2_method_6_code 35 = .ok (.imul, 1) := by decide +kernel
theorem d_Row_addLowest_36 : decode prog_2_method_6_code 36 = .ok (.lushr, 1) := by decide +kernel
theorem d_Row_addLowest_37 : decode prog_2_method_6_code 37 = .ok (.l2i, 1) := by decide +kernel
theorem d_Row_addLowest_38 : decode prog_2_method_6_code 38 = .ok (.i2b, 1) := by decide +kernel
theorem d_Row_addLowest_39 : decode prog_2_method_6_code 39 = .ok (.bastore, 1) := by decide +kernel
theorem d_Row_addLowest_40 : decode prog_2_method_6_code 40 = .ok (.aload_n 0, 1) := by decide +kernel
theorem d_Row_addLowest_41 : decode prog_2_method_6_code 41 = .ok (.dup, 1) := by decide +kernel
theorem d_Row_addLowest_42 : decode prog_2_method_6_code 42 = .ok (.getfield 21, 3) := by decide +kernel
theorem d_Row_addLowest_45 : decode prog_2_method_6_code 45 = .ok (.iconst 1, 1) := by decide +kernel
theorem d_Row_addLowest_46 : decode prog_2_method_6_code 46 = .ok (.iadd, 1) := by decide +kernel
theorem d_Row_addLowest_47 : decode prog_2_method_6_code 47 = .ok (.putfield 21, 3) := by decide +kernel
theorem d_Row_addLowest_50 : decode prog_2_method_6_code 50 = .ok (.iinc 4 (-1), 3) := by decide +kernel
theorem d_Row_addLowest_53 : decode prog_2_method_6_code 53 = .ok (.goto (-48), 3) := by decide +kernel
theorem d_Row_addLowest_56 : decode prog_2_method_6_code 56 = .ok (.return_, 1) := by decide +kernel
theorem d_Row_keepFirst_0 : decode prog_2_method_7_code 0 = .ok (.aload_n 0, 1) := by decide +kernel
theorem d_Row_keepFirst_1 : decode prog_2_method_7_code 1 = .ok (.iload_n 1, 1) := by decide +kernel
theorem d_Row_keepFirst_2 : decode prog_2_method_7_code 2 = .ok (.aload_n 0, 1) := by decide +kernel
theorem d_Row_keepFirst_3 : decode prog_2_method_7_code 3 = .ok (.getfield 21, 3) := by decide +kernel
theorem d_Row_keepFirst_6 : decode prog_2_method_7_code 6 = .ok (.invokestatic 25, 3) := by decide +kernel
theorem d_Row_keepFirst_9 : decode prog_2_method_7_code 9 = .ok (.iconst 0, 1) := by decide +kernel
theorem d_Row_keepFirst_10 : decode prog_2_method_7_code 10 = .ok (.invokestatic 9, 3) := by decide +kernel
theorem d_Row_keepFirst_13 : decode prog_2_method_7_code 13 = .ok (.putfield 21, 3) := by decide +kernel
theorem d_Row_keepFirst_16 : decode prog_2_method_7_code 16 = .ok (.return_, 1) := by decide +kernel
theorem d_Row_become_0 : decode prog_2_method_8_code 0 = .ok (.aload_n 0, 1) := by decide +kernel
theorem d_Row_become_1 : decode prog_2_method_8_code 1 = .ok (.aload_n 1, 1) := by decide +kernel
theorem d_Row_become_2 : decode prog_2_method_8_code 2 = .ok (.getfield 21, 3) := by decide +kernel
theorem d_Row_become_5 : decode prog_2_method_8_code 5 = .ok (.aload_n 0, 1) := by decide +kernel
theorem d_Row_become_6 : decode prog_2_method_8_code 6 = .ok (.getfield 15, 3) := by decide +kernel
theorem d_Row_become_9 : decode prog_2_method_8_code 9 = .ok (.arraylength, 1) := by decide +kernel
theorem d_Row_become_10 : decode prog_2_method_8_code 10 = .ok (.invokestatic 25, 3) := by decide +kernel
theorem d_Row_become_13 : decode prog_2_method_8_code 13 = .ok (.putfield 21, 3) := by decide +kernel
theorem d_Row_become_16 : decode prog_2_method_8_code 16 = .ok (.aload_n 1, 1) := by decide +kernel
theorem d_Row_become_17 : decode prog_2_method_8_code 17 = .ok (.getfield 15, 3) := by decide +kernel
theorem d_Row_become_20 : decode prog_2_method_8_code 20 = .ok (.iconst 0, 1) := by decide +kernel
theorem d_Row_become_21 : decode prog_2_method_8_code 21 = .ok (.aload_n 0, 1) := by decide +kernel
theorem d_Row_become_22 : decode prog_2_method_8_code 22 = .ok (.getfield 15, 3) := by decide +kernel
theorem d_Row_become_25 : decode prog_2_method_8_code 25 = .ok (.iconst 0, 1) := by decide +kernel
theorem d_Row_become_26 : decode prog_2_method_8_code 26 = .ok (.aload_n 0, 1) := by decide +kernel
theorem d_Row_become_27 : decode prog_2_method_8_code 27 = .ok (.getfield 21, 3) := by decide +kernel
theorem d_Row_become_30 : decode prog_2_method_8_code 30 = .ok (.invokestatic 28, 3) := by decide +kernel
theorem d_Row_become_33 : decode prog_2_method_8_code 33 = .ok (.return_, 1) := by decide +kernel
theorem d_Row_checkOfFirst_0 : decode prog_2_method_9_code 0 = .ok (.iconst 1, 1) := by decide +kernel
theorem d_Row_checkOfFirst_1 : decode prog_2_method_9_code 1 = .ok (.istore_n 2, 1) := by decide +kernel
theorem d_Row_checkOfFirst_2 : decode prog_2_method_9_code 2 = .ok (.iconst 0, 1) := by decide +kernel
theorem d_Row_checkOfFirst_3 : decode prog_2_method_9_code 3 = .ok (.istore_n 3, 1) := by decide +kernel
theorem d_Row_checkOfFirst_4 : decode prog_2_method_9_code 4 = .ok (.iconst 0, 1) := by decide +kernel
theorem d_Row_checkOfFirst_5 : decode prog_2_method_9_code 5 = .ok (.istore 4, 2) := by decide +kernel
theorem d_Row_checkOfFirst_7 : decode prog_2_method_9_code 7 = .ok (.iload 4, 2) := by decide +kernel
theorem d_Row_checkOfFirst_9 : decode prog_2_method_9_code 9 = .ok (.iload_n 1, 1) := by decide +kernel
theorem d_Row_checkOfFirst_10 : decode prog_2_method_9_code 10 = .ok (.if_icmp .ge 37, 3) := by decide +kernel
theorem d_Row_checkOfFirst_13 : decode prog_2_method_9_code 13 = .ok (.iload 4, 2) := by decide +kernel
theorem d_Row_checkOfFirst_15 : decode prog_2_method_9_code 15 = .ok (.aload_n 0, 1) := by decide +kernel
theorem d_Row_checkOfFirst_16 : decode prog_2_method_9_code 16 = .ok (.getfield 21, 3) := by decide +kernel
theorem d_Row_checkOfFirst_19 : decode prog_2_method_9_code 19 = .ok (.if_icmp .ge 28, 3) := by decide +kernel
theorem d_Row_checkOfFirst_22 : decode prog_2_method_9_code 22 = .ok (.iload_n 2, 1) := by decide +kernel
theorem d_Row_checkOfFirst_23 : decode prog_2_method_9_code 23 = .ok (.aload_n 0, 1) := by decide +kernel
theorem d_Row_checkOfFirst_24 : decode prog_2_method_9_code 24 = .ok (.iload 4, 2) := by decide +kernel
theorem d_Row_checkOfFirst_26 : decode prog_2_method_9_code 26 = .ok (.invokevirtual 34, 3) := by decide +kernel
theorem d_Row_checkOfFirst_29 : decode prog_2_method_9_code 29 = .ok (.iadd, 1) := by decide +kernel
theorem d_Row_checkOfFirst_30 : decode prog_2_method_9_code 30 = .ok (.ldc 38, 2) := by decide +kernel
theorem d_Row_checkOfFirst_32 : decode prog_2_method_9_code 32 = .ok (.irem, 1) := by decide +kernel
theorem d_Row_checkOfFirst_33 : decode prog_2_method_9_code 33 = .ok (.istore_n 2, 1) := by decide +kernel
theorem d_Row_checkOfFirst_34 : decode prog_2_method_9_code 34 = .ok (.iload_n 3, 1) := by decide +kernel
theorem d_Row_checkOfFirst_35 : decode prog_2_method_9_code 35 = .ok (.iload_n 2, 1) := by decide +kernel
theorem d_Row_checkOfFirst_36 : decode prog_2_method_9_code 36 = .ok (.iadd, 1) := by decide +kernel
theorem d_Row_checkOfFirst_37 : decode prog_2_method_9_code 37 = .ok (.ldc 38, 2) := by decide +kernel
theorem d_Row_checkOfFirst_39 : decode prog_2_method_9_code 39 = .ok (.irem, 1) := by decide +kernel
theorem d_Row_checkOfFirst_40 : decode prog_2_method_9_code 40 = .ok (.istore_n 3, 1) := by decide +kernel
theorem d_Row_checkOfFirst_41 : decode prog_2_method_9_code 41 = .ok (.iinc 4 1, 3) := by decide +kernel
theorem d_Row_checkOfFirst_44 : decode prog_2_method_9_code 44 = .ok (.goto (-37), 3) := by decide +kernel
theorem d_Row_checkOfFirst_47 : decode prog_2_method_9_code 47 = .ok (.iload_n 3, 1) := by decide +kernel
theorem d_Row_checkOfFirst_48 : decode prog_2_method_9_code 48 = .ok (.bipush 16, 2) := by decide +kernel
theorem d_Row_checkOfFirst_50 : decode prog_2_method_9_code 50 = .ok (.ishl, 1) := by decide +kernel
theorem d_Row_checkOfFirst_51 : decode prog_2_method_9_code 51 = .ok (.iload_n 2, 1) := by decide +kernel
theorem d_Row_checkOfFirst_52 : decode prog_2_method_9_code 52 = .ok (.ior, 1) := by decide +kernel
theorem d_Row_checkOfFirst_53 : decode prog_2_method_9_code 53 = .ok (.ireturn, 1) := by decide +kernel
theorem d_Rd_fault_0 : decode prog_4_method_2_code 0 = .ok (.aload_n 0, 1) := by decide +kernel
theorem d_Rd_fault_1 : decode prog_4_method_2_code 1 = .ok (.getfield 15, 3) := by decide +kernel
theorem d_Rd_fault_4 : decode prog_4_method_2_code 4 = .ok (.ireturn, 1) := by decide +kernel
theorem d_Rd_faultPlace_0 : decode prog_4_method_3_code 0 = .ok (.aload_n 0, 1) := by decide +kernel
theorem d_Rd_faultPlace_1 : decode prog_4_method_3_code 1 = .ok (.getfield 19, 3) := by decide +kernel
theorem d_Rd_faultPlace_4 : decode prog_4_method_3_code 4 = .ok (.ireturn, 1) := by decide +kernel
theorem d_Rd_fail_0 : decode prog_4_method_5_code 0 = .ok (.aload_n 0, 1) := by decide +kernel
theorem d_Rd_fail_1 : decode prog_4_method_5_code 1 = .ok (.getfield 15, 3) := by decide +kernel
theorem d_Rd_fail_4 : decode prog_4_method_5_code 4 = .ok (.ifCond .ne 13, 3) := by decide +kernel
theorem d_Rd_fail_7 : decode prog_4_method_5_code 7 = .ok (.aload_n 0, 1) := by decide +kernel
theorem d_Rd_fail_8 : decode prog_4_method_5_code 8 = .ok (.iload_n 1, 1) := by decide +kernel
theorem d_Rd_fail_9 : decode prog_4_method_5_code 9 = .ok (.putfield 15, 3) := by decide +kernel
theorem d_Rd_fail_12 : decode prog_4_method_5_code 12 = .ok (.aload_n 0, 1) := by decide +kernel
theorem d_Rd_fail_13 : decode prog_4_method_5_code 13 = .ok (.iload_n 2, 1) := by decide +kernel
theorem d_Rd_fail_14 : decode prog_4_method_5_code 14 = .ok (.putfield 19, 3) := by decide +kernel
theorem d_Rd_fail_17 : decode prog_4_method_5_code 17 = .ok (.return_, 1) := by decide +kernel
theorem d_Rd_take_0 : decode prog_4_method_6_code 0 = .ok (.aload_n 0, 1) := by decide +kernel
theorem d_Rd_take_1 : decode prog_4_method_6_code 1 = .ok (.getfield 15, 3) := by decide +kernel
theorem d_Rd_take_4 : decode prog_4_method_6_code 4 = .ok (.ifCond .eq 5, 3) := by decide +kernel
theorem d_Rd_take_7 : decode prog_4_method_6_code 7 = .ok (.iconst (-1), 1) := by decide +kernel
theorem d_Rd_take_8 : decode prog_4_method_6_code 8 = .ok (.ireturn, 1) := by decide +kernel
theorem d_Rd_take_9 : decode prog_4_method_6_code 9 = .ok (.aload_n 0, 1) := by decide +kernel
theorem d_Rd_take_10 : decode prog_4_method_6_code 10 = .ok (.getfield 9, 3) := by decide +kernel
theorem d_Rd_take_13 : decode prog_4_method_6_code 13 = .ok (.aload_n 0, 1) := by decide +kernel
theorem d_Rd_take_14 : decode prog_4_method_6_code 14 = .ok (.getfield 22, 3) := by decide +kernel
theorem d_Rd_take_17 : decode prog_4_method_6_code 17 = .ok (.invokevirtual 56, 3) := by decide +kernel
end
section
theorem d_Rd_take_20 : decode prog_4_method_6_code 20 = .ok (.istore_n 2, 1) := by decide +kernel
theorem d_Rd_take_21 : decode prog_4_method_6_code 21 = .ok (.iload_n 2, 1) := by decide +kernel
theorem d_Rd_take_22 : decode prog_4_method_6_code 22 = .ok (.iconst (-1), 1) := by decide +kernel
theorem d_Rd_take_23 : decode prog_4_method_6_code 23 = .ok (.if_icmp .ne 14, 3) := by decide +kernel
theorem d_Rd_take_26 : decode prog_4_method_6_code 26 = .ok (.aload_n 0, 1) := by decide +kernel
theorem d_Rd_take_27 : decode prog_4_method_6_code 27 = .ok (.iconst 1, 1) := by decide +kernel
theorem d_Rd_take_28 : decode prog_4_method_6_code 28 = .ok (.aload_n 0, 1) := by decide +kernel
theorem d_Rd_take_29 : decode prog_4_method_6_code 29 = .ok (.getfield 22, 3) := by decide +kernel
theorem d_Rd_take_32 : decode prog_4_method_6_code 32 = .ok (.invokevirtual 52, 3) := by decide +kernel
theorem d_Rd_take_35 : decode prog_4_method_6_code 35 = .ok (.iconst (-1), 1) := by decide +kernel
theorem d_Rd_take_36 : decode prog_4_method_6_code 36 = .ok (.ireturn, 1) := by decide +kernel
theorem d_Rd_take_37 : decode prog_4_method_6_code 37 = .ok (.iload_n 2, 1) := by decide +kernel
theorem d_Rd_take_38 : decode prog_4_method_6_code 38 = .ok (.iload_n 1, 1) := by decide +kernel
theorem d_Rd_take_39 : decode prog_4_method_6_code 39 = .ok (.if_icmp .le 14, 3) := by decide +kernel
theorem d_Rd_take_42 : decode prog_4_method_6_code 42 = .ok (.aload_n 0, 1) := by decide +kernel
theorem d_Rd_take_43 : decode prog_4_method_6_code 43 = .ok (.iconst 3, 1) := by decide +kernel
theorem d_Rd_take_44 : decode prog_4_method_6_code 44 = .ok (.aload_n 0, 1) := by decide +kernel
theorem d_Rd_take_45 : decode prog_4_method_6_code 45 = .ok (.getfield 22, 3) := by decide +kernel
theorem d_Rd_take_48 : decode prog_4_method_6_code 48 = .ok (.invokevirtual 52, 3) := by decide +kernel
theorem d_Rd_take_51 : decode prog_4_method_6_code 51 = .ok (.iconst (-1), 1) := by decide +kernel
theorem d_Rd_take_52 : decode prog_4_method_6_code 52 = .ok (.ireturn, 1) := by decide +kernel
theorem d_Rd_take_53 : decode prog_4_method_6_code 53 = .ok (.aload_n 0, 1) := by decide +kernel
theorem d_Rd_take_54 : decode prog_4_method_6_code 54 = .ok (.dup, 1) := by decide +kernel
theorem d_Rd_take_55 : decode prog_4_method_6_code 55 = .ok (.getfield 22, 3) := by decide +kernel
theorem d_Rd_take_58 : decode prog_4_method_6_code 58 = .ok (.iconst 1, 1) := by decide +kernel
theorem d_Rd_take_59 : decode prog_4_method_6_code 59 = .ok (.iadd, 1) := by decide +kernel
theorem d_Rd_take_60 : decode prog_4_method_6_code 60 = .ok (.putfield 22, 3) := by decide +kernel
theorem d_Rd_take_63 : decode prog_4_method_6_code 63 = .ok (.iload_n 2, 1) := by decide +kernel
theorem d_Rd_take_64 : decode prog_4_method_6_code 64 = .ok (.ireturn, 1) := by decide +kernel
theorem d_Rd_takeOnly_0 : decode prog_4_method_7_code 0 = .ok (.aload_n 0, 1) := by decide +kernel
theorem d_Rd_takeOnly_1 : decode prog_4_method_7_code 1 = .ok (.getfield 22, 3) := by decide +kernel
theorem d_Rd_takeOnly_4 : decode prog_4_method_7_code 4 = .ok (.istore_n 3, 1) := by decide +kernel
theorem d_Rd_takeOnly_5 : decode prog_4_method_7_code 5 = .ok (.aload_n 0, 1) := by decide +kernel
theorem d_Rd_takeOnly_6 : decode prog_4_method_7_code 6 = .ok (.sipush 255, 3) := by decide +kernel
theorem d_Rd_takeOnly_9 : decode prog_4_method_7_code 9 = .ok (.invokevirtual 60, 3) := by decide +kernel
theorem d_Rd_takeOnly_12 : decode prog_4_method_7_code 12 = .ok (.iload_n 1, 1) := by decide +kernel
theorem d_Rd_takeOnly_13 : decode prog_4_method_7_code 13 = .ok (.if_icmp .eq 9, 3) := by decide +kernel
theorem d_Rd_takeOnly_16 : decode prog_4_method_7_code 16 = .ok (.aload_n 0, 1) := by decide +kernel
theorem d_Rd_takeOnly_17 : decode prog_4_method_7_code 17 = .ok (.iload_n 2, 1) := by decide +kernel
theorem d_Rd_takeOnly_18 : decode prog_4_method_7_code 18 = .ok (.iload_n 3, 1) := by decide +kernel
theorem d_Rd_takeOnly_19 : decode prog_4_method_7_code 19 = .ok (.invokevirtual 52, 3) := by decide +kernel
theorem d_Rd_takeOnly_22 : decode prog_4_method_7_code 22 = .ok (.return_, 1) := by decide +kernel
theorem d_Rd_takePlace_0 : decode prog_4_method_10_code 0 = .ok (.aload_n 0, 1) := by decide +kernel
theorem d_Rd_takePlace_1 : decode prog_4_method_10_code 1 = .ok (.sipush 255, 3) := by decide +kernel
theorem d_Rd_takePlace_4 : decode prog_4_method_10_code 4 = .ok (.invokevirtual 60, 3) := by decide +kernel
theorem d_Rd_takePlace_7 : decode prog_4_method_10_code 7 = .ok (.istore_n 1, 1) := by decide +kernel
theorem d_Rd_takePlace_8 : decode prog_4_method_10_code 8 = .ok (.aload_n 0, 1) := by decide +kernel
theorem d_Rd_takePlace_9 : decode prog_4_method_10_code 9 = .ok (.sipush 255, 3) := by decide +kernel
theorem d_Rd_takePlace_12 : decode prog_4_method_10_code 12 = .ok (.invokevirtual 60, 3) := by decide +kernel
theorem d_Rd_takePlace_15 : decode prog_4_method_10_code 15 = .ok (.istore_n 2, 1) := by decide +kernel
theorem d_Rd_takePlace_16 : decode prog_4_method_10_code 16 = .ok (.iload_n 1, 1) := by decide +kernel
theorem d_Rd_takePlace_17 : decode prog_4_method_10_code 17 = .ok (.sipush 256, 3) := by decide +kernel
theorem d_Rd_takePlace_20 : decode prog_4_method_10_code 20 = .ok (.imul, 1) := by decide +kernel
theorem d_Rd_takePlace_21 : decode prog_4_method_10_code 21 = .ok (.iload_n 2, 1) := by decide +kernel
theorem d_Rd_takePlace_22 : decode prog_4_method_10_code 22 = .ok (.iadd, 1) := by decide +kernel
theorem d_Rd_takePlace_23 : decode prog_4_method_10_code 23 = .ok (.istore_n 3, 1) := by decide +kernel
theorem d_Rd_takePlace_24 : decode prog_4_method_10_code 24 = .ok (.iload_n 3, 1) := by decide +kernel
theorem d_Rd_takePlace_25 : decode prog_4_method_10_code 25 = .ok (.sipush 32767, 3) := by decide +kernel
theorem d_Rd_takePlace_28 : decode prog_4_method_10_code 28 = .ok (.if_icmp .le 10, 3) := by decide +kernel
theorem d_Rd_takePlace_31 : decode prog_4_method_10_code 31 = .ok (.iload_n 3, 1) := by decide +kernel
theorem d_Rd_takePlace_32 : decode prog_4_method_10_code 32 = .ok (.ldc 77, 2) := by decide +kernel
theorem d_Rd_takePlace_34 : decode prog_4_method_10_code 34 = .ok (.isub, 1) := by decide +kernel
theorem d_Rd_takePlace_35 : decode prog_4_method_10_code 35 = .ok (.goto 4, 3) := by decide +kernel
theorem d_Rd_takePlace_38 : decode prog_4_method_10_code 38 = .ok (.iload_n 3, 1) := by decide +kernel
theorem d_Rd_takePlace_39 : decode prog_4_method_10_code 39 = .ok (.ireturn, 1) := by decide +kernel
theorem d_Rd_takeStart_0 : decode prog_4_method_9_code 0 = .ok (.aload_n 0, 1) := by decide +kernel
theorem d_Rd_takeStart_1 : decode prog_4_method_9_code 1 = .ok (.invokevirtual 70, 3) := by decide +kernel
theorem d_Rd_takeStart_4 : decode prog_4_method_9_code 4 = .ok (.istore_n 2, 1) := by decide +kernel
theorem d_Rd_takeStart_5 : decode prog_4_method_9_code 5 = .ok (.aload_n 0, 1) := by decide +kernel
theorem d_Rd_takeStart_6 : decode prog_4_method_9_code 6 = .ok (.invokevirtual 70, 3) := by decide +kernel
theorem d_Rd_takeStart_9 : decode prog_4_method_9_code 9 = .ok (.istore_n 3, 1) := by decide +kernel
theorem d_Rd_takeStart_10 : decode prog_4_method_9_code 10 = .ok (.aload_n 0, 1) := by decide +kernel
theorem d_Rd_takeStart_11 : decode prog_4_method_9_code 11 = .ok (.bipush 63, 2) := by decide +kernel
theorem d_Rd_takeStart_13 : decode prog_4_method_9_code 13 = .ok (.invokevirtual 60, 3) := by decide +kernel
theorem d_Rd_takeStart_16 : decode prog_4_method_9_code 16 = .ok (.istore 4, 2) := by decide +kernel
theorem d_Rd_takeStart_18 : decode prog_4_method_9_code 18 = .ok (.aload_n 0, 1) := by decide +kernel
theorem d_Rd_takeStart_19 : decode prog_4_method_9_code 19 = .ok (.sipush 255, 3) := by decide +kernel
theorem d_Rd_takeStart_22 : decode prog_4_method_9_code 22 = .ok (.invokevirtual 60, 3) := by decide +kernel
theorem d_Rd_takeStart_25 : decode prog_4_method_9_code 25 = .ok (.istore 5, 2) := by decide +kernel
theorem d_Rd_takeStart_27 : decode prog_4_method_9_code 27 = .ok (.aload_n 1, 1) := by decide +kernel
theorem d_Rd_takeStart_28 : decode prog_4_method_9_code 28 = .ok (.iload_n 2, 1) := by decide +kernel
theorem d_Rd_takeStart_29 : decode prog_4_method_9_code 29 = .ok (.iload_n 3, 1) := by decide +kernel
theorem d_Rd_takeStart_30 : decode prog_4_method_9_code 30 = .ok (.iload 4, 2) := by decide +kernel
theorem d_Rd_takeStart_32 : decode prog_4_method_9_code 32 = .ok (.iload 5, 2) := by decide +kernel
theorem d_Rd_takeStart_34 : decode prog_4_method_9_code 34 = .ok (.invokevirtual 73, 3) := by decide +kernel
theorem d_Rd_takeStart_37 : decode prog_4_method_9_code 37 = .ok (.return_, 1) := by decide +kernel
theorem d_Rd_takeCode_0 : decode prog_4_method_13_code 0 = .ok (.iload_n 1, 1) := by decide +kernel
theorem d_Rd_takeCode_1 : decode prog_4_method_13_code 1 = .ok (.bipush 64, 2) := by decide +kernel
theorem d_Rd_takeCode_3 : decode prog_4_method_13_code 3 = .ok (.iand, 1) := by decide +kernel
theorem d_Rd_takeCode_4 : decode prog_4_method_13_code 4 = .ok (.ifCond .eq 7, 3) := by decide +kernel
theorem d_Rd_takeCode_7 : decode prog_4_method_13_code 7 = .ok (.iconst 1, 1) := by decide +kernel
theorem d_Rd_takeCode_8 : decode prog_4_method_13_code 8 = .ok (.goto 4, 3) := by decide +kernel
theorem d_Rd_takeCode_11 : decode prog_4_method_13_code 11 = .ok (.iconst 0, 1) := by decide +kernel
theorem d_Rd_takeCode_12 : decode prog_4_method_13_code 12 = .ok (.istore_n 2, 1) := by decide +kernel
theorem d_Rd_takeCode_13 : decode prog_4_method_13_code 13 = .ok (.aload_n 0, 1) := by decide +kernel
theorem d_Rd_takeCode_14 : decode prog_4_method_13_code 14 = .ok (.sipush 128, 3) := by decide +kernel
theorem d_Rd_takeCode_17 : decode prog_4_method_13_code 17 = .ok (.invokevirtual 60, 3) := by decide +kernel
theorem d_Rd_takeCode_20 : decode prog_4_method_13_code 20 = .ok (.istore_n 3, 1) := by decide +kernel
theorem d_Rd_takeCode_21 : decode prog_4_method_13_code 21 = .ok (.iload_n 1, 1) := by decide +kernel
theorem d_Rd_takeCode_22 : decode prog_4_method_13_code 22 = .ok (.sipush 128, 3) := by decide +kernel
theorem d_Rd_takeCode_25 : decode prog_4_method_13_code 25 = .ok (.iand, 1) := by decide +kernel
theorem d_Rd_takeCode_26 : decode prog_4_method_13_code 26 = .ok (.ifCond .ne 13, 3) := by decide +kernel
theorem d_Rd_takeCode_29 : decode prog_4_method_13_code 29 = .ok (.iload_n 2, 1) := by decide +kernel
theorem d_Rd_takeCode_30 : decode prog_4_method_13_code 30 = .ok (.iload_n 3, 1) := by decide +kernel
theorem d_Rd_takeCode_31 : decode prog_4_method_13_code 31 = .ok (.bipush 64, 2) := by decide +kernel
theorem d_Rd_takeCode_33 : decode prog_4_method_13_code 33 = .ok (.bipush 16, 2) := by decide +kernel
theorem d_Rd_takeCode_35 : decode prog_4_method_13_code 35 = .ok (.invokestatic 97, 3) := by decide +kernel
theorem d_Rd_takeCode_38 : decode prog_4_method_13_code 38 = .ok (.ireturn, 1) := by decide +kernel
theorem d_Rd_takeCode_39 : decode prog_4_method_13_code 39 = .ok (.aload_n 0, 1) := by decide +kernel
theorem d_Rd_takeCode_40 : decode prog_4_method_13_code 40 = .ok (.sipush 128, 3) := by decide +kernel
theorem d_Rd_takeCode_43 : decode prog_4_method_13_code 43 = .ok (.invokevirtual 60, 3) := by decide +kernel
theorem d_Rd_takeCode_46 : decode prog_4_method_13_code 46 = .ok (.istore 4, 2) := by decide +kernel
theorem d_Rd_takeCode_48 : decode prog_4_method_13_code 48 = .ok (.aload_n 0, 1) := by decide +kernel
theorem d_Rd_takeCode_49 : decode prog_4_method_13_code 49 = .ok (.getfield 22, 3) := by decide +kernel
theorem d_Rd_takeCode_52 : decode prog_4_method_13_code 52 = .ok (.istore 5, 2) := by decide +kernel
theorem d_Rd_takeCode_54 : decode prog_4_method_13_code 54 = .ok (.aload_n 0, 1) := by decide +kernel
theorem d_Rd_takeCode_55 : decode prog_4_method_13_code 55 = .ok (.bipush 32, 2) := by decide +kernel
theorem d_Rd_takeCode_57 : decode prog_4_method_13_code 57 = .ok (.invokevirtual 60, 3) := by decide +kernel
theorem d_Rd_takeCode_60 : decode prog_4_method_13_code 60 = .ok (.istore 6, 2) := by decide +kernel
theorem d_Rd_takeCode_62 : decode prog_4_method_13_code 62 = .ok (.iload 4, 2) := by decide +kernel
theorem d_Rd_takeCode_64 : decode prog_4_method_13_code 64 = .ok (.bipush 64, 2) := by decide +kernel
theorem d_Rd_takeCode_66 : decode prog_4_method_13_code 66 = .ok (.if_icmp .ne 17, 3) := by decide +kernel
theorem d_Rd_takeCode_69 : decode prog_4_method_13_code 69 = .ok (.iload 6, 2) := by decide +kernel
theorem d_Rd_takeCode_71 : decode prog_4_method_13_code 71 = .ok (.bipush 16, 2) := by decide +kernel
theorem d_Rd_takeCode_73 : decode prog_4_method_13_code 73 = .ok (.if_icmp .ne 10, 3) := by decide +kernel
theorem d_Rd_takeCode_76 : decode prog_4_method_13_code 76 = .ok (.aload_n 0, 1) := by decide +kernel
theorem d_Rd_takeCode_77 : decode prog_4_method_13_code 77 = .ok (.iconst 3, 1) := by decide +kernel
theorem d_Rd_takeCode_78 : decode prog_4_method_13_code 78 = .ok (.iload 5, 2) := by decide +kernel
theorem d_Rd_takeCode_80 : decode prog_4_method_13_code 80 = .ok (.invokevirtual 52, 3) := by decide +kernel
theorem d_Rd_takeCode_83 : decode prog_4_method_13_code 83 = .ok (.iload_n 2, 1) := by decide +kernel
theorem d_Rd_takeCode_84 : decode prog_4_method_13_code 84 = .ok (.iload_n 3, 1) := by decide +kernel
theorem d_Rd_takeCode_85 : decode prog_4_method_13_code 85 = .ok (.iload 4, 2) := by decide +kernel
theorem d_Rd_takeCode_87 : decode prog_4_method_13_code 87 = .ok (.iload 6, 2) := by decide +kernel
theorem d_Rd_takeCode_89 : decode prog_4_method_13_code 89 = .ok (.invokestatic 97, 3) := by decide +kernel
theorem d_Rd_takeCode_92 : decode prog_4_method_13_code 92 = .ok (.ireturn, 1) := by decide +kernel
theorem d_Rd_takeMark_0 : decode prog_4_method_8_code 0 = .ok (.iconst 0, 1) := by decide +kernel
theorem d_Rd_takeMark_1 : decode prog_4_method_8_code 1 = .ok (.istore_n 1, 1) := by decide +kernel
theorem d_Rd_takeMark_2 : decode prog_4_method_8_code 2 = .ok (.iload_n 1, 1) := by decide +kernel
theorem d_Rd_takeMark_3 : decode prog_4_method_8_code 3 = .ok (.getstatic 63, 3) := by decide +kernel
theorem d_Rd_takeMark_6 : decode prog_4_method_8_code 6 = .ok (.arraylength, 1) := by decide +kernel
theorem d_Rd_takeMark_7 : decode prog_4_method_8_code 7 = .ok (.if_icmp .ge 19, 3) := by decide +kernel
theorem d_Rd_takeMark_10 : decode prog_4_method_8_code 10 = .ok (.aload_n 0, 1) := by decide +kernel
theorem d_Rd_takeMark_11 : decode prog_4_method_8_code 11 = .ok (.getstatic 63, 3) := by decide +kernel
theorem d_Rd_takeMark_14 : decode prog_4_method_8_code 14 = .ok (.iload_n 1, 1) := by decide +kernel
theorem d_Rd_takeMark_15 : decode prog_4_method_8_code 15 = .ok (.iaload, 1) := by decide +kernel
theorem d_Rd_takeMark_16 : decode prog_4_method_8_code 16 = .ok (.iconst 2, 1) := by decide +kernel
theorem d_Rd_takeMark_17 : decode prog_4_method_8_code 17 = .ok (.invokevirtual 67, 3) := by decide +kernel
theorem d_Rd_takeMark_20 : decode prog_4_method_8_code 20 = .ok (.iinc 1 1, 3) := by decide +kernel
theorem d_Rd_takeMark_23 : decode prog_4_method_8_code 23 = .ok (.goto (-21), 3) := by decide +kernel
theorem d_Rd_takeMark_26 : decode prog_4_method_8_code 26 = .ok (.return_, 1) := by decide +kernel
theorem d_Rd_takeCheck_0 : decode prog_4_method_14_code 0 = .ok (.aload_n 0, 1) := by decide +kernel
theorem d_Rd_takeCheck_1 : decode prog_4_method_14_code 1 = .ok (.getfield 9, 3) := by decide +kernel
theorem d_Rd_takeCheck_4 : decode prog_4_method_14_code 4 = .ok (.aload_n 0, 1) := by decide +kernel
theorem d_Rd_takeCheck_5 : decode prog_4_method_14_code 5 = .ok (.getfield 22, 3) := by decide +kernel
theorem d_Rd_takeCheck_8 : decode prog_4_method_14_code 8 = .ok (.invokevirtual 103, 3) := by decide +kernel
theorem d_Rd_takeCheck_11 : decode prog_4_method_14_code 11 = .ok (.istore_n 1, 1) := by decide +kernel
theorem d_Rd_takeCheck_12 : decode prog_4_method_14_code 12 = .ok (.iconst 3, 1) := by decide +kernel
theorem d_Rd_takeCheck_13 : decode prog_4_method_14_code 13 = .ok (.istore_n 2, 1) := by decide +kernel
theorem d_Rd_takeCheck_14 : decode prog_4_method_14_code 14 = .ok (.iload_n 2, 1) := by decide +kernel
theorem d_Rd_takeCheck_15 : decode prog_4_method_14_code 15 = .ok (.ifCond .lt 25, 3) := by decide +kernel
theorem d_Rd_takeCheck_18 : decode prog_4_method_14_code 18 = .ok (.aload_n 0, 1) := by decide +kernel
theorem d_Rd_takeCheck_19 : decode prog_4_method_14_code 19 = .ok (.iload_n 1, 1) := by decide +kernel
theorem d_Rd_takeCheck_20 : decode prog_4_method_14_code 20 = .ok (.bipush 8, 2) := by decide +kernel
theorem d_Rd_takeCheck_22 : decode prog_4_method_14_code 22 = .ok (.iload_n 2, 1) := by decide +kernel
theorem d_Rd_takeCheck_23 : decode prog_4_method_14_code 23 = .ok (.imul, 1) := by decide +kernel
theorem d_Rd_takeCheck_24 : decode prog_4_method_14_code 24 = .ok (.iushr, 1) := by decide +kernel
theorem d_Rd_takeCheck_25 : decode prog_4_method_14_code 25 = .ok (.sipush 255, 3) := by decide +kernel
theorem d_Rd_takeCheck_28 : decode prog_4_method_14_code 28 = .ok (.iand, 1) := by decide +kernel
theorem d_Rd_takeCheck_29 : decode prog_4_method_14_code 29 = .ok (.bipush 6, 2) := by decide +kernel
theorem d_Rd_takeCheck_31 : decode prog_4_method_14_code 31 = .ok (.invokevirtual 67, 3) := by decide +kernel
theorem d_Rd_takeCheck_34 : decode prog_4_method_14_code 34 = .ok (.iinc 2 (-1), 3) := by decide +kernel
theorem d_Rd_takeCheck_37 : decode prog_4_method_14_code 37 = .ok (.goto (-23), 3) := by decide +kernel
theorem d_Rd_takeCheck_40 : decode prog_4_method_14_code 40 = .ok (.return_, 1) := by decide +kernel
theorem d_Rd_takeGroup_0 : decode prog_4_method_12_code 0 = .ok (.aload_n 0, 1) := by decide +kernel
theorem d_Rd_takeGroup_1 : decode prog_4_method_12_code 1 = .ok (.getfield 22, 3) := by decide +kernel
theorem d_Rd_takeGroup_4 : decode prog_4_method_12_code 4 = .ok (.istore_n 2, 1) := by decide +kernel
theorem d_Rd_takeGroup_5 : decode prog_4_method_12_code 5 = .ok (.aload_n 0, 1) := by decide +kernel
theorem d_Rd_takeGroup_6 : decode prog_4_method_12_code 6 = .ok (.sipush 255, 3) := by decide +kernel
theorem d_Rd_takeGroup_9 : decode prog_4_method_12_code 9 = .ok (.invokevirtual 60, 3) := by decide +kernel
theorem d_Rd_takeGroup_12 : decode prog_4_method_12_code 12 = .ok (.istore_n 3, 1) := by decide +kernel
theorem d_Rd_takeGroup_13 : decode prog_4_method_12_code 13 = .ok (.iload_n 3, 1) := by decide +kernel
theorem d_Rd_takeGroup_14 : decode prog_4_method_12_code 14 = .ok (.iconst (-1), 1) := by decide +kernel
theorem d_Rd_takeGroup_15 : decode prog_4_method_12_code 15 = .ok (.if_icmp .eq 7, 3) := by decide +kernel
theorem d_Rd_takeGroup_18 : decode prog_4_method_12_code 18 = .ok (.iload_n 3, 1) := by decide +kernel
theorem d_Rd_takeGroup_19 : decode prog_4_method_12_code 19 = .ok (.ifCond .ne 5, 3) := by decide +kernel
theorem d_Rd_takeGroup_22 : decode prog_4_method_12_code 22 = .ok (.iconst 0, 1) := by decide +kernel
theorem d_Rd_takeGroup_23 : decode prog_4_method_12_code 23 = .ok (.ireturn, 1) := by decide +kernel
theorem d_Rd_takeGroup_24 : decode prog_4_method_12_code 24 = .ok (.iload_n 3, 1) := by decide +kernel
theorem d_Rd_takeGroup_25 : decode prog_4_method_12_code 25 = .ok (.bipush 63, 2) := by decide +kernel
theorem d_Rd_takeGroup_27 : decode prog_4_method_12_code 27 = .ok (.iand, 1) := by decide +kernel
theorem d_Rd_takeGroup_28 : decode prog_4_method_12_code 28 = .ok (.istore 4, 2) := by decide +kernel
theorem d_Rd_takeGroup_30 : decode prog_4_method_12_code 30 = .ok (.iload 4, 2) := by decide +kernel
theorem d_Rd_takeGroup_32 : decode prog_4_method_12_code 32 = .ok (.ifCond .ne 9, 3) := by decide +kernel
theorem d_Rd_takeGroup_35 : decode prog_4_method_12_code 35 = .ok (.aload_n 0, 1) := by decide +kernel
theorem d_Rd_takeGroup_36 : decode prog_4_method_12_code 36 = .ok (.iconst 3, 1) := by decide +kernel
theorem d_Rd_takeGroup_37 : decode prog_4_method_12_code 37 = .ok (.iload_n 2, 1) := by decide +kernel
theorem d_Rd_takeGroup_38 : decode prog_4_method_12_code 38 = .ok (.invokevirtual 52, 3) := by decide +kernel
theorem d_Rd_takeGroup_41 : decode prog_4_method_12_code 41 = .ok (.iload 4, 2) := by decide +kernel
theorem d_Rd_takeGroup_43 : decode prog_4_method_12_code 43 = .ok (.aload_n 1, 1) := by decide +kernel
theorem d_Rd_takeGroup_44 : decode prog_4_method_12_code 44 = .ok (.invokevirtual 82, 3) := by decide +kernel
theorem d_Rd_takeGroup_47 : decode prog_4_method_12_code 47 = .ok (.if_icmp .le 9, 3) := by decide +kernel
theorem d_Rd_takeGroup_50 : decode prog_4_method_12_code 50 = .ok (.aload_n 0, 1) := by decide +kernel
theorem d_Rd_takeGroup_51 : decode prog_4_method_12_code 51 = .ok (.iconst 5, 1) := by decide +kernel
theorem d_Rd_takeGroup_52 : decode prog_4_method_12_code 52 = .ok (.iload_n 2, 1) := by decide +kernel
theorem d_Rd_takeGroup_53 : decode prog_4_method_12_code 53 = .ok (.invokevirtual 52, 3) := by decide +kernel
theorem d_Rd_takeGroup_56 : decode prog_4_method_12_code 56 = .ok (.aload_n 0, 1) := by decide +kernel
theorem d_Rd_takeGroup_57 : decode prog_4_method_12_code 57 = .ok (.iload_n 3, 1) := by decide +kernel
theorem d_Rd_takeGroup_58 : decode prog_4_method_12_code 58 = .ok (.invokevirtual 85, 3) := by decide +kernel
theorem d_Rd_takeGroup_61 : decode prog_4_method_12_code 61 = .ok (.istore 5, 2) := by decide +kernel
theorem d_Rd_takeGroup_63 : decode prog_4_method_12_code 63 = .ok (.aload_n 0, 1) := by decide +kernel
theorem d_Rd_takeGroup_64 : decode prog_4_method_12_code 64 = .ok (.getfield 25, 3) := by decide +kernel
theorem d_Rd_takeGroup_67 : decode prog_4_method_12_code 67 = .ok (.bipush 63, 2) := by decide +kernel
theorem d_Rd_takeGroup_69 : decode prog_4_method_12_code 69 = .ok (.if_icmp .ge 24, 3) := by decide +kernel
theorem d_Rd_takeGroup_72 : decode prog_4_method_12_code 72 = .ok (.aload_n 1, 1) := by decide +kernel
theorem d_Rd_takeGroup_73 : decode prog_4_method_12_code 73 = .ok (.aload_n 1, 1) := by decide +kernel
theorem d_Rd_takeGroup_74 : decode prog_4_method_12_code 74 = .ok (.invokevirtual 88, 3) := by decide +kernel
theorem d_Rd_takeGroup_77 : decode prog_4_method_12_code 77 = .ok (.iconst 1, 1) := by decide +kernel
theorem d_Rd_takeGroup_78 : decode prog_4_method_12_code 78 = .ok (.isub, 1) := by decide +kernel
theorem d_Rd_takeGroup_79 : decode prog_4_method_12_code 79 = .ok (.invokevirtual 91, 3) := by decide +kernel
theorem d_Rd_takeGroup_82 : decode prog_4_method_12_code 82 = .ok (.iload 5, 2) := by decide +kernel
theorem d_Rd_takeGroup_84 : decode prog_4_method_12_code 84 = .ok (.if_icmp .ne 9, 3) := by decide +kernel
theorem d_Rd_takeGroup_87 : decode prog_4_method_12_code 87 = .ok (.aload_n 0, 1) := by decide +kernel
theorem d_Rd_takeGroup_88 : decode prog_4_method_12_code 88 = .ok (.iconst 4, 1) := by decide +kernel
theorem d_Rd_takeGroup_89 : decode prog_4_method_12_code 89 = .ok (.iload_n 2, 1) := by decide +kernel
theorem d_Rd_takeGroup_90 : decode prog_4_method_12_code 90 = .ok (.invokevirtual 52, 3) := by decide +kernel
theorem d_Rd_takeGroup_93 : decode prog_4_method_12_code 93 = .ok (.aload_n 0, 1) := by decide +kernel
theorem d_Rd_takeGroup_94 : decode prog_4_method_12_code 94 = .ok (.getfield 15, 3) := by decide +kernel
theorem d_Rd_takeGroup_97 : decode prog_4_method_12_code 97 = .ok (.ifCond .eq 5, 3) := by decide +kernel
theorem d_Rd_takeGroup_100 : decode prog_4_method_12_code 100 = .ok (.iconst 0, 1) := by decide +kernel
theorem d_Rd_takeGroup_101 : decode prog_4_method_12_code 101 = .ok (.ireturn, 1) := by decide +kernel
theorem d_Rd_takeGroup_102 : decode prog_4_method_12_code 102 = .ok (.aload_n 1, 1) := by decide +kernel
theorem d_Rd_takeGroup_103 : decode prog_4_method_12_code 103 = .ok (.iload 5, 2) := by decide +kernel
theorem d_Rd_takeGroup_105 : decode prog_4_method_12_code 105 = .ok (.iload 4, 2) := by decide +kernel
theorem d_Rd_takeGroup_107 : decode prog_4_method_12_code 107 = .ok (.invokevirtual 94, 3) := by decide +kernel
theorem d_Rd_takeGroup_110 : decode prog_4_method_12_code 110 = .ok (.aload_n 0, 1) := by decide +kernel
theorem d_Rd_takeGroup_111 : decode prog_4_method_12_code 111 = .ok (.iload 4, 2) := by decide +kernel
theorem d_Rd_takeGroup_113 : decode prog_4_method_12_code 113 = .ok (.putfield 25, 3) := by decide +kernel
theorem d_Rd_takeGroup_116 : decode prog_4_method_12_code 116 = .ok (.iconst 1, 1) := by decide +kernel
theorem d_Rd_takeGroup_117 : decode prog_4_method_12_code 117 = .ok (.ireturn, 1) := by decide +kernel
theorem d_Rd_takeGroups_0 : decode prog_4_method_11_code 0 = .ok (.iconst 1, 1) := by decide +kernel
theorem d_Rd_takeGroups_1 : decode prog_4_method_11_code 1 = .ok (.istore_n 2, 1) := by decide +kernel
theorem d_Rd_takeGroups_2 : decode prog_4_method_11_code 2 = .ok (.iconst 0, 1) := by decide +kernel
theorem d_Rd_takeGroups_3 : decode prog_4_method_11_code 3 = .ok (.istore_n 3, 1) := by decide +kernel
theorem d_Rd_takeGroups_4 : decode prog_4_method_11_code 4 = .ok (.iload_n 2, 1) := by decide +kernel
theorem d_Rd_takeGroups_5 : decode prog_4_method_11_code 5 = .ok (.ifCond .eq 22, 3) := by decide +kernel
theorem d_Rd_takeGroups_8 : decode prog_4_method_11_code 8 = .ok (.iload_n 3, 1) := by decide +kernel
theorem d_Rd_takeGroups_9 : decode prog_4_method_11_code 9 = .ok (.sipush 1024, 3) := by decide +kernel
theorem d_Rd_takeGroups_12 : decode prog_4_method_11_code 12 = .ok (.if_icmp .gt 15, 3) := by decide +kernel
theorem d_Rd_takeGroups_15 : decode prog_4_method_11_code 15 = .ok (.aload_n 0, 1) := by decide +kernel
theorem d_Rd_takeGroups_16 : decode prog_4_method_11_code 16 = .ok (.aload_n 1, 1) := by decide +kernel
theorem d_Rd_takeGroups_17 : decode prog_4_method_11_code 17 = .ok (.invokevirtual 78, 3) := by decide +kernel
theorem d_Rd_takeGroups_20 : decode prog_4_method_11_code 20 = .ok (.istore_n 2, 1) := by decide +kernel
theorem d_Rd_takeGroups_21 : decode prog_4_method_11_code 21 = .ok (.iinc 3 1, 3) := by decide +kernel
theorem d_Rd_takeGroups_24 : decode prog_4_method_11_code 24 = .ok (.goto (-20), 3) := by decide +kernel
theorem d_Rd_takeGroups_27 : decode prog_4_method_11_code 27 = .ok (.return_, 1) := by decide +kernel
theorem d_Rd_readInto_0 : decode prog_4_method_4_code 0 = .ok (.aload_n 0, 1) := by decide +kernel
theorem d_Rd_readInto_1 : decode prog_4_method_4_code 1 = .ok (.iconst 0, 1) := by decide +kernel
theorem d_Rd_readInto_2 : decode prog_4_method_4_code 2 = .ok (.putfield 22, 3) := by decide +kernel
theorem d_Rd_readInto_5 : decode prog_4_method_4_code 5 = .ok (.aload_n 0, 1) := by decide +kernel
theorem d_Rd_readInto_6 : decode prog_4_method_4_code 6 = .ok (.iconst 0, 1) := by decide +kernel
theorem d_Rd_readInto_7 : decode prog_4_method_4_code 7 = .ok (.putfield 25, 3) := by decide +kernel
theorem d_Rd_readInto_10 : decode prog_4_method_4_code 10 = .ok (.aload_n 0, 1) := by decide +kernel
theorem d_Rd_readInto_11 : decode prog_4_method_4_code 11 = .ok (.iconst 0, 1) := by decide +kernel
theorem d_Rd_readInto_12 : decode prog_4_method_4_code 12 = .ok (.putfield 15, 3) := by decide +kernel
theorem d_Rd_readInto_15 : decode prog_4_method_4_code 15 = .ok (.aload_n 0, 1) := by decide +kernel
theorem d_Rd_readInto_16 : decode prog_4_method_4_code 16 = .ok (.iconst (-1), 1) := by decide +kernel
theorem d_Rd_readInto_17 : decode prog_4_method_4_code 17 = .ok (.putfield 19, 3) := by decide +kernel
theorem d_Rd_readInto_20 : decode prog_4_method_4_code 20 = .ok (.aload_n 1, 1) := by decide +kernel
theorem d_Rd_readInto_21 : decode prog_4_method_4_code 21 = .ok (.invokevirtual 28, 3) := by decide +kernel
theorem d_Rd_readInto_24 : decode prog_4_method_4_code 24 = .ok (.aload_n 0, 1) := by decide +kernel
theorem d_Rd_readInto_25 : decode prog_4_method_4_code 25 = .ok (.invokevirtual 33, 3) := by decide +kernel
theorem d_Rd_readInto_28 : decode prog_4_method_4_code 28 = .ok (.aload_n 0, 1) := by decide +kernel
theorem d_Rd_readInto_29 : decode prog_4_method_4_code 29 = .ok (.aload_n 1, 1) := by decide +kernel
theorem d_Rd_readInto_30 : decode prog_4_method_4_code 30 = .ok (.invokevirtual 36, 3) := by decide +kernel
theorem d_Rd_readInto_33 : decode prog_4_method_4_code 33 = .ok (.aload_n 0, 1) := by decide +kernel
theorem d_Rd_readInto_34 : decode prog_4_method_4_code 34 = .ok (.aload_n 1, 1) := by decide +kernel
theorem d_Rd_readInto_35 : decode prog_4_method_4_code 35 = .ok (.invokevirtual 40, 3) := by decide +kernel
theorem d_Rd_readInto_38 : decode prog_4_method_4_code 38 = .ok (.aload_n 0, 1) := by decide +kernel
theorem d_Rd_readInto_39 : decode prog_4_method_4_code 39 = .ok (.invokevirtual 43, 3) := by decide +kernel
theorem d_Rd_readInto_42 : decode prog_4_method_4_code 42 = .ok (.aload_n 0, 1) := by decide +kernel
theorem d_Rd_readInto_43 : decode prog_4_method_4_code 43 = .ok (.getfield 22, 3) := by decide +kernel
theorem d_Rd_readInto_46 : decode prog_4_method_4_code 46 = .ok (.aload_n 0, 1) := by decide +kernel
theorem d_Rd_readInto_47 : decode prog_4_method_4_code 47 = .ok (.getfield 9, 3) := by decide +kernel
theorem d_Rd_readInto_50 : decode prog_4_method_4_code 50 = .ok (.invokevirtual 46, 3) := by decide +kernel
theorem d_Rd_readInto_53 : decode prog_4_method_4_code 53 = .ok (.if_icmp .ge 13, 3) := by decide +kernel
theorem d_Rd_readInto_56 : decode prog_4_method_4_code 56 = .ok (.aload_n 0, 1) := by decide +kernel
theorem d_Rd_readInto_57 : decode prog_4_method_4_code 57 = .ok (.bipush 7, 2) := by decide +kernel
theorem d_Rd_readInto_59 : decode prog_4_method_4_code 59 = .ok (.aload_n 0, 1) := by decide +kernel
theorem d_Rd_readInto_60 : decode prog_4_method_4_code 60 = .ok (.getfield 22, 3) := by decide +kernel
theorem d_Rd_readInto_63 : decode prog_4_method_4_code 63 = .ok (.invokevirtual 52, 3) := by decide +kernel
theorem d_Rd_readInto_66 : decode prog_4_method_4_code 66 = .ok (.return_, 1) := by decide +kernel
theorem d_Walk_putGroup_0 : decode prog_5_method_16_code 0 = .ok (.iload_n 1, 1) := by decide +kernel
theorem d_Walk_putGroup_1 : decode prog_5_method_16_code 1 = .ok (.invokestatic 83, 3) := by decide +kernel
theorem d_Walk_putGroup_4 : decode prog_5_method_16_code 4 = .ok (.istore_n 3, 1) := by decide +kernel
theorem d_Walk_putGroup_5 : decode prog_5_method_16_code 5 = .ok (.aload_n 0, 1) := by decide +kernel
theorem d_Walk_putGroup_6 : decode prog_5_method_16_code 6 = .ok (.iload_n 2, 1) := by decide +kernel
theorem d_Walk_putGroup_7 : decode prog_5_method_16_code 7 = .ok (.iload_n 1, 1) := by decide +kernel
theorem d_Walk_putGroup_8 : decode prog_5_method_16_code 8 = .ok (.invokestatic 49, 3) := by decide +kernel
theorem d_Walk_putGroup_11 : decode prog_5_method_16_code 11 = .ok (.ifCond .eq 8, 3) := by decide +kernel
theorem d_Walk_putGroup_14 : decode prog_5_method_16_code 14 = .ok (.bipush 64, 2) := by decide +kernel
theorem d_Walk_putGroup_16 : decode prog_5_method_16_code 16 = .ok (.goto 4, 3) := by decide +kernel
theorem d_Walk_putGroup_19 : decode prog_5_method_16_code 19 = .ok (.iconst 0, 1) := by decide +kernel
theorem d_Walk_putGroup_20 : decode prog_5_method_16_code 20 = .ok (.iadd, 1) := by decide +kernel
theorem d_Walk_putGroup_21 : decode prog_5_method_16_code 21 = .ok (.iload_n 3, 1) := by decide +kernel
theorem d_Walk_putGroup_22 : decode prog_5_method_16_code 22 = .ok (.ifCond .eq 9, 3) := by decide +kernel
theorem d_Walk_putGroup_25 : decode prog_5_method_16_code 25 = .ok (.sipush 128, 3) := by decide +kernel
theorem d_Walk_putGroup_28 : decode prog_5_method_16_code 28 = .ok (.goto 4, 3) := by decide +kernel
theorem d_Walk_putGroup_31 : decode prog_5_method_16_code 31 = .ok (.iconst 0, 1) := by decide +kernel
theorem d_Walk_putGroup_32 : decode prog_5_method_16_code 32 = .ok (.iadd, 1) := by decide +kernel
theorem d_Walk_putGroup_33 : decode prog_5_method_16_code 33 = .ok (.i2l, 1) := by decide +kernel
theorem d_Walk_putGroup_34 : decode prog_5_method_16_code 34 = .ok (.iconst 1, 1) := by decide +kernel
theorem d_Walk_putGroup_35 : decode prog_5_method_16_code 35 = .ok (.invokevirtual 62, 3) := by decide +kernel
theorem d_Walk_putGroup_38 : decode prog_5_method_16_code 38 = .ok (.aload_n 0, 1) := by decide +kernel
theorem d_Walk_putGroup_39 : decode prog_5_method_16_code 39 = .ok (.iload_n 1, 1) := by decide +kernel
theorem d_Walk_putGroup_40 : decode prog_5_method_16_code 40 = .ok (.invokestatic 86, 3) := by decide +kernel
theorem d_Walk_putGroup_43 : decode prog_5_method_16_code 43 = .ok (.i2l, 1) := by decide +kernel
theorem d_Walk_putGroup_44 : decode prog_5_method_16_code 44 = .ok (.iconst 1, 1) := by decide +kernel
theorem d_Walk_putGroup_45 : decode prog_5_method_16_code 45 = .ok (.invokevirtual 62, 3) := by decide +kernel
theorem d_Walk_putGroup_48 : decode prog_5_method_16_code 48 = .ok (.iload_n 3, 1) := by decide +kernel
theorem d_Walk_putGroup_49 : decode prog_5_method_16_code 49 = .ok (.ifCond .eq 23, 3) := by decide +kernel
theorem d_Walk_putGroup_52 : decode prog_5_method_16_code 52 = .ok (.aload_n 0, 1) := by decide +kernel
theorem d_Walk_putGroup_53 : decode prog_5_method_16_code 53 = .ok (.iload_n 1, 1) := by decide +kernel
theorem d_Walk_putGroup_54 : decode prog_5_method_16_code 54 = .ok (.invokestatic 89, 3) := by decide +kernel
theorem d_Walk_putGroup_57 : decode prog_5_method_16_code 57 = .ok (.i2l, 1) := by decide +kernel
theorem d_Walk_putGroup_58 : decode prog_5_method_16_code 58 = .ok (.iconst 1, 1) := by decide +kernel
theorem d_Walk_putGroup_59 : decode prog_5_method_16_code 59 = .ok (.invokevirtual 62, 3) := by decide +kernel
theorem d_Walk_putGroup_62 : decode prog_5_method_16_code 62 = .ok (.aload_n 0, 1) := by decide +kernel
theorem d_Walk_putGroup_63 : decode prog_5_method_16_code 63 = .ok (.iload_n 1, 1) := by decide +kernel
theorem d_Walk_putGroup_64 : decode prog_5_method_16_code 64 = .ok (.invokestatic 92, 3) := by decide +kernel
theorem d_Walk_putGroup_67 : decode prog_5_method_16_code 67 = .ok (.i2l, 1) := by decide +kernel
theorem d_Walk_putGroup_68 : decode prog_5_method_16_code 68 = .ok (.iconst 1, 1) := by decide +kernel
theorem d_Walk_putGroup_69 : decode prog_5_method_16_code 69 = .ok (.invokevirtual 62, 3) := by decide +kernel
theorem d_Walk_putGroup_72 : decode prog_5_method_16_code 72 = .ok (.return_, 1) := by decide +kernel
theorem d_Walk_putGroups_0 : decode prog_5_method_15_code 0 = .ok (.iconst 0, 1) := by decide +kernel
theorem d_Walk_putGroups_1 : decode prog_5_method_15_code 1 = .ok (.istore_n 2, 1) := by decide +kernel
theorem d_Walk_putGroups_2 : decode prog_5_method_15_code 2 = .ok (.iconst 0, 1) := by decide +kernel
theorem d_Walk_putGroups_3 : decode prog_5_method_15_code 3 = .ok (.istore_n 3, 1) := by decide +kernel
theorem d_Walk_putGroups_4 : decode prog_5_method_15_code 4 = .ok (.iload_n 3, 1) := by decide +kernel
theorem d_Walk_putGroups_5 : decode prog_5_method_15_code 5 = .ok (.aload_n 0, 1) := by decide +kernel
theorem d_Walk_putGroups_6 : decode prog_5_method_15_code 6 = .ok (.getfield 15, 3) := by decide +kernel
theorem d_Walk_putGroups_9 : decode prog_5_method_15_code 9 = .ok (.if_icmp .ge 33, 3) := by decide +kernel
theorem d_Walk_putGroups_12 : decode prog_5_method_15_code 12 = .ok (.iinc 2 1, 3) := by decide +kernel
theorem d_Walk_putGroups_15 : decode prog_5_method_15_code 15 = .ok (.aload_n 0, 1) := by decide +kernel
theorem d_Walk_putGroups_16 : decode prog_5_method_15_code 16 = .ok (.iload_n 3, 1) := by decide +kernel
theorem d_Walk_putGroups_17 : decode prog_5_method_15_code 17 = .ok (.iload_n 2, 1) := by decide +kernel
theorem d_Walk_putGroups_18 : decode prog_5_method_15_code 18 = .ok (.invokevirtual 55, 3) := by decide +kernel
theorem d_Walk_putGroups_21 : decode prog_5_method_15_code 21 = .ok (.ifCond .eq 15, 3) := by decide +kernel
theorem d_Walk_putGroups_24 : decode prog_5_method_15_code 24 = .ok (.aload_n 1, 1) := by decide +kernel
theorem d_Walk_putGroups_25 : decode prog_5_method_15_code 25 = .ok (.aload_n 0, 1) := by decide +kernel
theorem d_Walk_putGroups_26 : decode prog_5_method_15_code 26 = .ok (.iload_n 3, 1) := by decide +kernel
theorem d_Walk_putGroups_27 : decode prog_5_method_15_code 27 = .ok (.invokevirtual 38, 3) := by decide +kernel
theorem d_Walk_putGroups_30 : decode prog_5_method_15_code 30 = .ok (.iload_n 2, 1) := by decide +kernel
theorem d_Walk_putGroups_31 : decode prog_5_method_15_code 31 = .ok (.invokestatic 79, 3) := by decide +kernel
theorem d_Walk_putGroups_34 : decode prog_5_method_15_code 34 = .ok (.iconst 0, 1) := by decide +kernel
theorem d_Walk_putGroups_35 : decode prog_5_method_15_code 35 = .ok (.istore_n 2, 1) := by decide +kernel
theorem d_Walk_putGroups_36 : decode prog_5_method_15_code 36 = .ok (.iinc 3 1, 3) := by decide +kernel
theorem d_Walk_putGroups_39 : decode prog_5_method_15_code 39 = .ok (.goto (-35), 3) := by decide +kernel
theorem d_Walk_putGroups_42 : decode prog_5_method_15_code 42 = .ok (.return_, 1) := by decide +kernel
theorem d_Walk_putInto_0 : decode prog_5_method_14_code 0 = .ok (.iconst 0, 1) := by decide +kernel
theorem d_Walk_putInto_1 : decode prog_5_method_14_code 1 = .ok (.istore_n 2, 1) := by decide +kernel
theorem d_Walk_putInto_2 : decode prog_5_method_14_code 2 = .ok (.iload_n 2, 1) := by decide +kernel
theorem d_Walk_putInto_3 : decode prog_5_method_14_code 3 = .ok (.getstatic 59, 3) := by decide +kernel
theorem d_Walk_putInto_6 : decode prog_5_method_14_code 6 = .ok (.arraylength, 1) := by decide +kernel
theorem d_Walk_putInto_7 : decode prog_5_method_14_code 7 = .ok (.if_icmp .ge 20, 3) := by decide +kernel
theorem d_Walk_putInto_10 : decode prog_5_method_14_code 10 = .ok (.aload_n 1, 1) := by decide +kernel
theorem d_Walk_putInto_11 : decode prog_5_method_14_code 11 = .ok (.getstatic 59, 3) := by decide +kernel
theorem d_Walk_putInto_14 : decode prog_5_method_14_code 14 = .ok (.iload_n 2, 1) := by decide +kernel
theorem d_Walk_putInto_15 : decode prog_5_method_14_code 15 = .ok (.iaload, 1) := by decide +kernel
theorem d_Walk_putInto_16 : decode prog_5_method_14_code 16 = .ok (.i2l, 1) := by decide +kernel
theorem d_Walk_putInto_17 : decode prog_5_method_14_code 17 = .ok (.iconst 1, 1) := by decide +kernel
theorem d_Walk_putInto_18 : decode prog_5_method_14_code 18 = .ok (.invokevirtual 62, 3) := by decide +kernel
theorem d_Walk_putInto_21 : decode prog_5_method_14_code 21 = .ok (.iinc 2 1, 3) := by decide +kernel
theorem d_Walk_putInto_24 : decode prog_5_method_14_code 24 = .ok (.goto (-22), 3) := by decide +kernel
theorem d_Walk_putInto_27 : decode prog_5_method_14_code 27 = .ok (.aload_n 1, 1) := by decide +kernel
theorem d_Walk_putInto_28 : decode prog_5_method_14_code 28 = .ok (.aload_n 0, 1) := by decide +kernel
theorem d_Walk_putInto_29 : decode prog_5_method_14_code 29 = .ok (.getfield 19, 3) := by decide +kernel
theorem d_Walk_putInto_32 : decode prog_5_method_14_code 32 = .ok (.i2l, 1) := by decide +kernel
theorem d_Walk_putInto_33 : decode prog_5_method_14_code 33 = .ok (.iconst 2, 1) := by decide +kernel
theorem d_Walk_putInto_34 : decode prog_5_method_14_code 34 = .ok (.invokevirtual 62, 3) := by decide +kernel
theorem d_Walk_putInto_37 : decode prog_5_method_14_code 37 = .ok (.aload_n 1, 1) := by decide +kernel
theorem d_Walk_putInto_38 : decode prog_5_method_14_code 38 = .ok (.aload_n 0, 1) := by decide +kernel
theorem d_Walk_putInto_39 : decode prog_5_method_14_code 39 = .ok (.getfield 22, 3) := by decide +kernel
theorem d_Walk_putInto_42 : decode prog_5_method_14_code 42 = .ok (.i2l, 1) := by decide +kernel
theorem d_Walk_putInto_43 : decode prog_5_method_14_code 43 = .ok (.iconst 2, 1) := by decide +kernel
theorem d_Walk_putInto_44 : decode prog_5_method_14_code 44 = .ok (.invokevirtual 62, 3) := by decide +kernel
theorem d_Walk_putInto_47 : decode prog_5_method_14_code 47 = .ok (.aload_n 1, 1) := by decide +kernel
theorem d_Walk_putInto_48 : decode prog_5_method_14_code 48 = .ok (.aload_n 0, 1) := by decide +kernel
theorem d_Walk_putInto_49 : decode prog_5_method_14_code 49 = .ok (.getfield 25, 3) := by decide +kernel
theorem d_Walk_putInto_52 : decode prog_5_method_14_code 52 = .ok (.i2l, 1) := by decide +kernel
theorem d_Walk_putInto_53 : decode prog_5_method_14_code 53 = .ok (.iconst 1, 1) := by decide +kernel
theorem d_Walk_putInto_54 : decode prog_5_method_14_code 54 = .ok (.invokevirtual 62, 3) := by decide +kernel
theorem d_Walk_putInto_57 : decode prog_5_method_14_code 57 = .ok (.aload_n 1, 1) := by decide +kernel
theorem d_Walk_putInto_58 : decode prog_5_method_14_code 58 = .ok (.aload_n 0, 1) := by decide +kernel
theorem d_Walk_putInto_59 : decode prog_5_method_14_code 59 = .ok (.getfield 28, 3) := by decide +kernel
theorem d_Walk_putInto_62 : decode prog_5_method_14_code 62 = .ok (.i2l, 1) := by decide +kernel
theorem d_Walk_putInto_63 : decode prog_5_method_14_code 63 = .ok (.iconst 1, 1) := by decide +kernel
theorem d_Walk_putInto_64 : decode prog_5_method_14_code 64 = .ok (.invokevirtual 62, 3) := by decide +kernel
theorem d_Walk_putInto_67 : decode prog_5_method_14_code 67 = .ok (.aload_n 0, 1) := by decide +kernel
theorem d_Walk_putInto_68 : decode prog_5_method_14_code 68 = .ok (.aload_n 1, 1) := by decide +kernel
theorem d_Walk_putInto_69 : decode prog_5_method_14_code 69 = .ok (.invokevirtual 68, 3) := by decide +kernel
end
section
theorem d_Walk_putInto_72 : decode prog_5_method_14_code 72 = .ok (.aload_n 1, 1) := by decide +kernel
theorem d_Walk_putInto_73 : decode prog_5_method_14_code 73 = .ok (.lconst 0, 1) := by decide +kernel
theorem d_Walk_putInto_74 : decode prog_5_method_14_code 74 = .ok (.iconst 1, 1) := by decide +kernel
theorem d_Walk_putInto_75 : decode prog_5_method_14_code 75 = .ok (.invokevirtual 62, 3) := by decide +kernel
theorem d_Walk_putInto_78 : decode prog_5_method_14_code 78 = .ok (.aload_n 1, 1) := by decide +kernel
theorem d_Walk_putInto_79 : decode prog_5_method_14_code 79 = .ok (.aload_n 1, 1) := by decide +kernel
theorem d_Walk_putInto_80 : decode prog_5_method_14_code 80 = .ok (.aload_n 1, 1) := by decide +kernel
theorem d_Walk_putInto_81 : decode prog_5_method_14_code 81 = .ok (.invokevirtual 72, 3) := by decide +kernel
theorem d_Walk_putInto_84 : decode prog_5_method_14_code 84 = .ok (.invokevirtual 76, 3) := by decide +kernel
theorem d_Walk_putInto_87 : decode prog_5_method_14_code 87 = .ok (.i2l, 1) := by decide +kernel
theorem d_Walk_putInto_88 : decode prog_5_method_14_code 88 = .ok (.iconst 4, 1) := by decide +kernel
theorem d_Walk_putInto_89 : decode prog_5_method_14_code 89 = .ok (.invokevirtual 62, 3) := by decide +kernel
theorem d_Walk_putInto_92 : decode prog_5_method_14_code 92 = .ok (.return_, 1) := by decide +kernel
theorem d_Walk_init_0 : decode prog_5_method_1_code 0 = .ok (.aload_n 0, 1) := by decide +kernel
theorem d_Walk_init_1 : decode prog_5_method_1_code 1 = .ok (.invokespecial 3, 3) := by decide +kernel
theorem d_Walk_init_4 : decode prog_5_method_1_code 4 = .ok (.aload_n 0, 1) := by decide +kernel
theorem d_Walk_init_5 : decode prog_5_method_1_code 5 = .ok (.sipush 1024, 3) := by decide +kernel
theorem d_Walk_init_8 : decode prog_5_method_1_code 8 = .ok (.newarray .int, 2) := by decide +kernel
theorem d_Walk_init_10 : decode prog_5_method_1_code 10 = .ok (.putfield 9, 3) := by decide +kernel
theorem d_Walk_init_13 : decode prog_5_method_1_code 13 = .ok (.return_, 1) := by decide +kernel
theorem d_Row_init_0 : decode prog_2_method_1_code 0 = .ok (.aload_n 0, 1) := by decide +kernel
theorem d_Row_init_1 : decode prog_2_method_1_code 1 = .ok (.invokespecial 3, 3) := by decide +kernel
theorem d_Row_init_4 : decode prog_2_method_1_code 4 = .ok (.aload_n 0, 1) := by decide +kernel
theorem d_Row_init_5 : decode prog_2_method_1_code 5 = .ok (.iload_n 1, 1) := by decide +kernel
theorem d_Row_init_6 : decode prog_2_method_1_code 6 = .ok (.iconst 0, 1) := by decide +kernel
theorem d_Row_init_7 : decode prog_2_method_1_code 7 = .ok (.invokestatic 9, 3) := by decide +kernel
theorem d_Row_init_10 : decode prog_2_method_1_code 10 = .ok (.newarray .byte, 2) := by decide +kernel
theorem d_Row_init_12 : decode prog_2_method_1_code 12 = .ok (.putfield 15, 3) := by decide +kernel
theorem d_Row_init_15 : decode prog_2_method_1_code 15 = .ok (.return_, 1) := by decide +kernel
theorem d_Rd_init_0 : decode prog_4_method_1_code 0 = .ok (.aload_n 0, 1) := by decide +kernel
theorem d_Rd_init_1 : decode prog_4_method_1_code 1 = .ok (.invokespecial 3, 3) := by decide +kernel
theorem d_Rd_init_4 : decode prog_4_method_1_code 4 = .ok (.aload_n 0, 1) := by decide +kernel
theorem d_Rd_init_5 : decode prog_4_method_1_code 5 = .ok (.aload_n 1, 1) := by decide +kernel
theorem d_Rd_init_6 : decode prog_4_method_1_code 6 = .ok (.putfield 9, 3) := by decide +kernel
theorem d_Rd_init_9 : decode prog_4_method_1_code 9 = .ok (.aload_n 0, 1) := by decide +kernel
theorem d_Rd_init_10 : decode prog_4_method_1_code 10 = .ok (.iconst 0, 1) := by decide +kernel
theorem d_Rd_init_11 : decode prog_4_method_1_code 11 = .ok (.putfield 15, 3) := by decide +kernel
theorem d_Rd_init_14 : decode prog_4_method_1_code 14 = .ok (.aload_n 0, 1) := by decide +kernel
theorem d_Rd_init_15 : decode prog_4_method_1_code 15 = .ok (.iconst (-1), 1) := by decide +kernel
theorem d_Rd_init_16 : decode prog_4_method_1_code 16 = .ok (.putfield 19, 3) := by decide +kernel
theorem d_Rd_init_19 : decode prog_4_method_1_code 19 = .ok (.return_, 1) := by decide +kernel
theorem d_Tape_start_0 : decode prog_1_method_2_code 0 = .ok (.iload_n 1, 1) := by decide +kernel
theorem d_Tape_start_1 : decode prog_1_method_2_code 1 = .ok (.sipush (-32768), 3) := by decide +kernel
theorem d_Tape_start_4 : decode prog_1_method_2_code 4 = .ok (.sipush 32767, 3) := by decide +kernel
theorem d_Tape_start_7 : decode prog_1_method_2_code 7 = .ok (.invokestatic 40, 3) := by decide +kernel
theorem d_Tape_start_10 : decode prog_1_method_2_code 10 = .ok (.ifCond .eq 38, 3) := by decide +kernel
theorem d_Tape_start_13 : decode prog_1_method_2_code 13 = .ok (.iload_n 2, 1) := by decide +kernel
theorem d_Tape_start_14 : decode prog_1_method_2_code 14 = .ok (.sipush (-32768), 3) := by decide +kernel
theorem d_Tape_start_17 : decode prog_1_method_2_code 17 = .ok (.sipush 32767, 3) := by decide +kernel
theorem d_Tape_start_20 : decode prog_1_method_2_code 20 = .ok (.invokestatic 40, 3) := by decide +kernel
theorem d_Tape_start_23 : decode prog_1_method_2_code 23 = .ok (.ifCond .eq 25, 3) := by decide +kernel
theorem d_Tape_start_26 : decode prog_1_method_2_code 26 = .ok (.iload_n 3, 1) := by decide +kernel
theorem d_Tape_start_27 : decode prog_1_method_2_code 27 = .ok (.iconst 0, 1) := by decide +kernel
theorem d_Tape_start_28 : decode prog_1_method_2_code 28 = .ok (.bipush 63, 2) := by decide +kernel
theorem d_Tape_start_30 : decode prog_1_method_2_code 30 = .ok (.invokestatic 40, 3) := by decide +kernel
theorem d_Tape_start_33 : decode prog_1_method_2_code 33 = .ok (.ifCond .eq 15, 3) := by decide +kernel
theorem d_Tape_start_36 : decode prog_1_method_2_code 36 = .ok (.iload 4, 2) := by decide +kernel
theorem d_Tape_start_38 : decode prog_1_method_2_code 38 = .ok (.iconst 0, 1) := by decide +kernel
theorem d_Tape_start_39 : decode prog_1_method_2_code 39 = .ok (.sipush 255, 3) := by decide +kernel
theorem d_Tape_start_42 : decode prog_1_method_2_code 42 = .ok (.invokestatic 40, 3) := by decide +kernel
theorem d_Tape_start_45 : decode prog_1_method_2_code 45 = .ok (.ifCond .ne 5, 3) := by decide +kernel
theorem d_Tape_start_48 : decode prog_1_method_2_code 48 = .ok (.iconst 0, 1) := by decide +kernel
theorem d_Tape_start_49 : decode prog_1_method_2_code 49 = .ok (.ireturn, 1) := by decide +kernel
theorem d_Tape_start_50 : decode prog_1_method_2_code 50 = .ok (.aload_n 0, 1) := by decide +kernel
theorem d_Tape_start_51 : decode prog_1_method_2_code 51 = .ok (.getfield 12, 3) := by decide +kernel
theorem d_Tape_start_54 : decode prog_1_method_2_code 54 = .ok (.iload_n 1, 1) := by decide +kernel
theorem d_Tape_start_55 : decode prog_1_method_2_code 55 = .ok (.iload_n 2, 1) := by decide +kernel
theorem d_Tape_start_56 : decode prog_1_method_2_code 56 = .ok (.iload_n 3, 1) := by decide +kernel
theorem d_Tape_start_57 : decode prog_1_method_2_code 57 = .ok (.iload 4, 2) := by decide +kernel
theorem d_Tape_start_59 : decode prog_1_method_2_code 59 = .ok (.invokevirtual 44, 3) := by decide +kernel
theorem d_Tape_start_62 : decode prog_1_method_2_code 62 = .ok (.iconst 1, 1) := by decide +kernel
theorem d_Tape_start_63 : decode prog_1_method_2_code 63 = .ok (.ireturn, 1) := by decide +kernel
theorem d_Tape_record_0 : decode prog_1_method_3_code 0 = .ok (.iload_n 1, 1) := by decide +kernel
theorem d_Tape_record_1 : decode prog_1_method_3_code 1 = .ok (.bipush (-64), 2) := by decide +kernel
theorem d_Tape_record_3 : decode prog_1_method_3_code 3 = .ok (.bipush 64, 2) := by decide +kernel
theorem d_Tape_record_5 : decode prog_1_method_3_code 5 = .ok (.invokestatic 40, 3) := by decide +kernel
theorem d_Tape_record_8 : decode prog_1_method_3_code 8 = .ok (.ifCond .eq 41, 3) := by decide +kernel
theorem d_Tape_record_11 : decode prog_1_method_3_code 11 = .ok (.iload_n 2, 1) := by decide +kernel
theorem d_Tape_record_12 : decode prog_1_method_3_code 12 = .ok (.bipush (-64), 2) := by decide +kernel
theorem d_Tape_record_14 : decode prog_1_method_3_code 14 = .ok (.bipush 64, 2) := by decide +kernel
theorem d_Tape_record_16 : decode prog_1_method_3_code 16 = .ok (.invokestatic 40, 3) := by decide +kernel
theorem d_Tape_record_19 : decode prog_1_method_3_code 19 = .ok (.ifCond .eq 30, 3) := by decide +kernel
theorem d_Tape_record_22 : decode prog_1_method_3_code 22 = .ok (.iload_n 3, 1) := by decide +kernel
theorem d_Tape_record_23 : decode prog_1_method_3_code 23 = .ok (.bipush (-16), 2) := by decide +kernel
theorem d_Tape_record_25 : decode prog_1_method_3_code 25 = .ok (.bipush 16, 2) := by decide +kernel
theorem d_Tape_record_27 : decode prog_1_method_3_code 27 = .ok (.invokestatic 40, 3) := by decide +kernel
theorem d_Tape_record_30 : decode prog_1_method_3_code 30 = .ok (.ifCond .eq 19, 3) := by decide +kernel
theorem d_Tape_record_33 : decode prog_1_method_3_code 33 = .ok (.iload 5, 2) := by decide +kernel
theorem d_Tape_record_35 : decode prog_1_method_3_code 35 = .ok (.iconst 1, 1) := by decide +kernel
theorem d_Tape_record_36 : decode prog_1_method_3_code 36 = .ok (.aload_n 0, 1) := by decide +kernel
theorem d_Tape_record_37 : decode prog_1_method_3_code 37 = .ok (.getfield 12, 3) := by decide +kernel
theorem d_Tape_record_40 : decode prog_1_method_3_code 40 = .ok (.invokevirtual 48, 3) := by decide +kernel
theorem d_Tape_record_43 : decode prog_1_method_3_code 43 = .ok (.invokestatic 40, 3) := by decide +kernel
theorem d_Tape_record_46 : decode prog_1_method_3_code 46 = .ok (.ifCond .ne 5, 3) := by decide +kernel
theorem d_Tape_record_49 : decode prog_1_method_3_code 49 = .ok (.iconst (-1), 1) := by decide +kernel
theorem d_Tape_record_50 : decode prog_1_method_3_code 50 = .ok (.ireturn, 1) := by decide +kernel
theorem d_Tape_record_51 : decode prog_1_method_3_code 51 = .ok (.aload_n 0, 1) := by decide +kernel
theorem d_Tape_record_52 : decode prog_1_method_3_code 52 = .ok (.getfield 12, 3) := by decide +kernel
theorem d_Tape_record_55 : decode prog_1_method_3_code 55 = .ok (.iload 4, 2) := by decide +kernel
theorem d_Tape_record_57 : decode prog_1_method_3_code 57 = .ok (.iload_n 1, 1) := by decide +kernel
theorem d_Tape_record_58 : decode prog_1_method_3_code 58 = .ok (.bipush 64, 2) := by decide +kernel
theorem d_Tape_record_60 : decode prog_1_method_3_code 60 = .ok (.iadd, 1) := by decide +kernel
theorem d_Tape_record_61 : decode prog_1_method_3_code 61 = .ok (.iload_n 2, 1) := by decide +kernel
theorem d_Tape_record_62 : decode prog_1_method_3_code 62 = .ok (.bipush 64, 2) := by decide +kernel
theorem d_Tape_record_64 : decode prog_1_method_3_code 64 = .ok (.iadd, 1) := by decide +kernel
theorem d_Tape_record_65 : decode prog_1_method_3_code 65 = .ok (.iload_n 3, 1) := by decide +kernel
theorem d_Tape_record_66 : decode prog_1_method_3_code 66 = .ok (.bipush 16, 2) := by decide +kernel
theorem d_Tape_record_68 : decode prog_1_method_3_code 68 = .ok (.iadd, 1) := by decide +kernel
theorem d_Tape_record_69 : decode prog_1_method_3_code 69 = .ok (.invokestatic 52, 3) := by decide +kernel
theorem d_Tape_record_72 : decode prog_1_method_3_code 72 = .ok (.iload 5, 2) := by decide +kernel
theorem d_Tape_record_74 : decode prog_1_method_3_code 74 = .ok (.invokevirtual 58, 3) := by decide +kernel
theorem d_Tape_record_77 : decode prog_1_method_3_code 77 = .ok (.aload_n 0, 1) := by decide +kernel
theorem d_Tape_record_78 : decode prog_1_method_3_code 78 = .ok (.getfield 12, 3) := by decide +kernel
theorem d_Tape_record_81 : decode prog_1_method_3_code 81 = .ok (.invokevirtual 62, 3) := by decide +kernel
theorem d_Tape_record_84 : decode prog_1_method_3_code 84 = .ok (.ireturn, 1) := by decide +kernel
theorem d_Tape_undo_0 : decode prog_1_method_4_code 0 = .ok (.iload_n 1, 1) := by decide +kernel
theorem d_Tape_undo_1 : decode prog_1_method_4_code 1 = .ok (.iconst 0, 1) := by decide +kernel
theorem d_Tape_undo_2 : decode prog_1_method_4_code 2 = .ok (.aload_n 0, 1) := by decide +kernel
theorem d_Tape_undo_3 : decode prog_1_method_4_code 3 = .ok (.getfield 12, 3) := by decide +kernel
theorem d_Tape_undo_6 : decode prog_1_method_4_code 6 = .ok (.invokevirtual 62, 3) := by decide +kernel
theorem d_Tape_undo_9 : decode prog_1_method_4_code 9 = .ok (.invokestatic 40, 3) := by decide +kernel
theorem d_Tape_undo_12 : decode prog_1_method_4_code 12 = .ok (.ifCond .ne 5, 3) := by decide +kernel
theorem d_Tape_undo_15 : decode prog_1_method_4_code 15 = .ok (.iconst 0, 1) := by decide +kernel
theorem d_Tape_undo_16 : decode prog_1_method_4_code 16 = .ok (.ireturn, 1) := by decide +kernel
theorem d_Tape_undo_17 : decode prog_1_method_4_code 17 = .ok (.aload_n 0, 1) := by decide +kernel
theorem d_Tape_undo_18 : decode prog_1_method_4_code 18 = .ok (.getfield 12, 3) := by decide +kernel
theorem d_Tape_undo_21 : decode prog_1_method_4_code 21 = .ok (.iload_n 1, 1) := by decide +kernel
theorem d_Tape_undo_22 : decode prog_1_method_4_code 22 = .ok (.invokevirtual 65, 3) := by decide +kernel
theorem d_Tape_undo_25 : decode prog_1_method_4_code 25 = .ok (.iconst 1, 1) := by decide +kernel
theorem d_Tape_undo_26 : decode prog_1_method_4_code 26 = .ok (.ireturn, 1) := by decide +kernel
theorem d_Tape_again_0 : decode prog_1_method_5_code 0 = .ok (.iload_n 1, 1) := by decide +kernel
theorem d_Tape_again_1 : decode prog_1_method_5_code 1 = .ok (.iconst 0, 1) := by decide +kernel
theorem d_Tape_again_2 : decode prog_1_method_5_code 2 = .ok (.aload_n 0, 1) := by decide +kernel
theorem d_Tape_again_3 : decode prog_1_method_5_code 3 = .ok (.getfield 12, 3) := by decide +kernel
theorem d_Tape_again_6 : decode prog_1_method_5_code 6 = .ok (.invokevirtual 62, 3) := by decide +kernel
theorem d_Tape_again_9 : decode prog_1_method_5_code 9 = .ok (.iconst 1, 1) := by decide +kernel
theorem d_Tape_again_10 : decode prog_1_method_5_code 10 = .ok (.isub, 1) := by decide +kernel
theorem d_Tape_again_11 : decode prog_1_method_5_code 11 = .ok (.invokestatic 40, 3) := by decide +kernel
theorem d_Tape_again_14 : decode prog_1_method_5_code 14 = .ok (.ifCond .eq 31, 3) := by decide +kernel
theorem d_Tape_again_17 : decode prog_1_method_5_code 17 = .ok (.iload_n 2, 1) := by decide +kernel
theorem d_Tape_again_18 : decode prog_1_method_5_code 18 = .ok (.iconst 1, 1) := by decide +kernel
theorem d_Tape_again_19 : decode prog_1_method_5_code 19 = .ok (.aload_n 0, 1) := by decide +kernel
theorem d_Tape_again_20 : decode prog_1_method_5_code 20 = .ok (.getfield 12, 3) := by decide +kernel
theorem d_Tape_again_23 : decode prog_1_method_5_code 23 = .ok (.invokevirtual 62, 3) := by decide +kernel
theorem d_Tape_again_26 : decode prog_1_method_5_code 26 = .ok (.iload_n 1, 1) := by decide +kernel
theorem d_Tape_again_27 : decode prog_1_method_5_code 27 = .ok (.isub, 1) := by decide +kernel
theorem d_Tape_again_28 : decode prog_1_method_5_code 28 = .ok (.invokestatic 40, 3) := by decide +kernel
theorem d_Tape_again_31 : decode prog_1_method_5_code 31 = .ok (.ifCond .eq 14, 3) := by decide +kernel
theorem d_Tape_again_34 : decode prog_1_method_5_code 34 = .ok (.iload_n 2, 1) := by decide +kernel
theorem d_Tape_again_35 : decode prog_1_method_5_code 35 = .ok (.aload_n 0, 1) := by decide +kernel
theorem d_Tape_again_36 : decode prog_1_method_5_code 36 = .ok (.getfield 12, 3) := by decide +kernel
theorem d_Tape_again_39 : decode prog_1_method_5_code 39 = .ok (.invokevirtual 48, 3) := by decide +kernel
theorem d_Tape_again_42 : decode prog_1_method_5_code 42 = .ok (.if_icmp .le 5, 3) := by decide +kernel
theorem d_Tape_again_45 : decode prog_1_method_5_code 45 = .ok (.iconst (-1), 1) := by decide +kernel
theorem d_Tape_again_46 : decode prog_1_method_5_code 46 = .ok (.ireturn, 1) := by decide +kernel
theorem d_Tape_again_47 : decode prog_1_method_5_code 47 = .ok (.aload_n 0, 1) := by decide +kernel
theorem d_Tape_again_48 : decode prog_1_method_5_code 48 = .ok (.getfield 12, 3) := by decide +kernel
theorem d_Tape_again_51 : decode prog_1_method_5_code 51 = .ok (.iload_n 1, 1) := by decide +kernel
theorem d_Tape_again_52 : decode prog_1_method_5_code 52 = .ok (.iload_n 2, 1) := by decide +kernel
theorem d_Tape_again_53 : decode prog_1_method_5_code 53 = .ok (.invokevirtual 68, 3) := by decide +kernel
theorem d_Tape_again_56 : decode prog_1_method_5_code 56 = .ok (.aload_n 0, 1) := by decide +kernel
theorem d_Tape_again_57 : decode prog_1_method_5_code 57 = .ok (.getfield 12, 3) := by decide +kernel
theorem d_Tape_again_60 : decode prog_1_method_5_code 60 = .ok (.invokevirtual 62, 3) := by decide +kernel
theorem d_Tape_again_63 : decode prog_1_method_5_code 63 = .ok (.ireturn, 1) := by decide +kernel
theorem d_Tape_write_0 : decode prog_1_method_6_code 0 = .ok (.aload_n 0, 1) := by decide +kernel
theorem d_Tape_write_1 : decode prog_1_method_6_code 1 = .ok (.getfield 24, 3) := by decide +kernel
theorem d_Tape_write_4 : decode prog_1_method_6_code 4 = .ok (.iconst 0, 1) := by decide +kernel
theorem d_Tape_write_5 : decode prog_1_method_6_code 5 = .ok (.invokevirtual 71, 3) := by decide +kernel
theorem d_Tape_write_8 : decode prog_1_method_6_code 8 = .ok (.aload_n 0, 1) := by decide +kernel
theorem d_Tape_write_9 : decode prog_1_method_6_code 9 = .ok (.getfield 12, 3) := by decide +kernel
theorem d_Tape_write_12 : decode prog_1_method_6_code 12 = .ok (.aload_n 0, 1) := by decide +kernel
theorem d_Tape_write_13 : decode prog_1_method_6_code 13 = .ok (.getfield 24, 3) := by decide +kernel
theorem d_Tape_write_16 : decode prog_1_method_6_code 16 = .ok (.invokevirtual 74, 3) := by decide +kernel
theorem d_Tape_write_19 : decode prog_1_method_6_code 19 = .ok (.aload_n 0, 1) := by decide +kernel
theorem d_Tape_write_20 : decode prog_1_method_6_code 20 = .ok (.getfield 24, 3) := by decide +kernel
theorem d_Tape_write_23 : decode prog_1_method_6_code 23 = .ok (.invokevirtual 77, 3) := by decide +kernel
theorem d_Tape_write_26 : decode prog_1_method_6_code 26 = .ok (.ireturn, 1) := by decide +kernel
theorem d_Tape_give_0 : decode prog_1_method_7_code 0 = .ok (.iload_n 3, 1) := by decide +kernel
theorem d_Tape_give_1 : decode prog_1_method_7_code 1 = .ok (.iconst 1, 1) := by decide +kernel
theorem d_Tape_give_2 : decode prog_1_method_7_code 2 = .ok (.bipush 8, 2) := by decide +kernel
theorem d_Tape_give_4 : decode prog_1_method_7_code 4 = .ok (.invokestatic 40, 3) := by decide +kernel
theorem d_Tape_give_7 : decode prog_1_method_7_code 7 = .ok (.ifCond .eq 14, 3) := by decide +kernel
theorem d_Tape_give_10 : decode prog_1_method_7_code 10 = .ok (.iload_n 3, 1) := by decide +kernel
theorem d_Tape_give_11 : decode prog_1_method_7_code 11 = .ok (.aload_n 0, 1) := by decide +kernel
theorem d_Tape_give_12 : decode prog_1_method_7_code 12 = .ok (.getfield 28, 3) := by decide +kernel
theorem d_Tape_give_15 : decode prog_1_method_7_code 15 = .ok (.invokevirtual 80, 3) := by decide +kernel
theorem d_Tape_give_18 : decode prog_1_method_7_code 18 = .ok (.if_icmp .le 5, 3) := by decide +kernel
theorem d_Tape_give_21 : decode prog_1_method_7_code 21 = .ok (.iconst 0, 1) := by decide +kernel
theorem d_Tape_give_22 : decode prog_1_method_7_code 22 = .ok (.ireturn, 1) := by decide +kernel
theorem d_Tape_give_23 : decode prog_1_method_7_code 23 = .ok (.aload_n 0, 1) := by decide +kernel
theorem d_Tape_give_24 : decode prog_1_method_7_code 24 = .ok (.getfield 28, 3) := by decide +kernel
theorem d_Tape_give_27 : decode prog_1_method_7_code 27 = .ok (.lload_n 1, 1) := by decide +kernel
theorem d_Tape_give_28 : decode prog_1_method_7_code 28 = .ok (.iload_n 3, 1) := by decide +kernel
theorem d_Tape_give_29 : decode prog_1_method_7_code 29 = .ok (.invokevirtual 81, 3) := by decide +kernel
theorem d_Tape_give_32 : decode prog_1_method_7_code 32 = .ok (.iconst 1, 1) := by decide +kernel
theorem d_Tape_give_33 : decode prog_1_method_7_code 33 = .ok (.ireturn, 1) := by decide +kernel
theorem d_Tape_turnOver_0 : decode prog_1_method_8_code 0 = .ok (.aload_n 0, 1) := by decide +kernel
theorem d_Tape_turnOver_1 : decode prog_1_method_8_code 1 = .ok (.getfield 28, 3) := by decide +kernel
theorem d_Tape_turnOver_4 : decode prog_1_method_8_code 4 = .ok (.aload_n 0, 1) := by decide +kernel
theorem d_Tape_turnOver_5 : decode prog_1_method_8_code 5 = .ok (.getfield 24, 3) := by decide +kernel
theorem d_Tape_turnOver_8 : decode prog_1_method_8_code 8 = .ok (.invokevirtual 85, 3) := by decide +kernel
theorem d_Tape_turnOver_11 : decode prog_1_method_8_code 11 = .ok (.return_, 1) := by decide +kernel
theorem d_Tape_cut_0 : decode prog_1_method_9_code 0 = .ok (.iload_n 1, 1) := by decide +kernel
theorem d_Tape_cut_1 : decode prog_1_method_9_code 1 = .ok (.iconst 0, 1) := by decide +kernel
theorem d_Tape_cut_2 : decode prog_1_method_9_code 2 = .ok (.aload_n 0, 1) := by decide +kernel
theorem d_Tape_cut_3 : decode prog_1_method_9_code 3 = .ok (.getfield 28, 3) := by decide +kernel
theorem d_Tape_cut_6 : decode prog_1_method_9_code 6 = .ok (.invokevirtual 77, 3) := by decide +kernel
theorem d_Tape_cut_9 : decode prog_1_method_9_code 9 = .ok (.invokestatic 40, 3) := by decide +kernel
theorem d_Tape_cut_12 : decode prog_1_method_9_code 12 = .ok (.ifCond .ne 5, 3) := by decide +kernel
theorem d_Tape_cut_15 : decode prog_1_method_9_code 15 = .ok (.iconst 0, 1) := by decide +kernel
theorem d_Tape_cut_16 : decode prog_1_method_9_code 16 = .ok (.ireturn, 1) := by decide +kernel
theorem d_Tape_cut_17 : decode prog_1_method_9_code 17 = .ok (.aload_n 0, 1) := by decide +kernel
theorem d_Tape_cut_18 : decode prog_1_method_9_code 18 = .ok (.getfield 28, 3) := by decide +kernel
theorem d_Tape_cut_21 : decode prog_1_method_9_code 21 = .ok (.iload_n 1, 1) := by decide +kernel
theorem d_Tape_cut_22 : decode prog_1_method_9_code 22 = .ok (.invokevirtual 71, 3) := by decide +kernel
theorem d_Tape_cut_25 : decode prog_1_method_9_code 25 = .ok (.iconst 1, 1) := by decide +kernel
theorem d_Tape_cut_26 : decode prog_1_method_9_code 26 = .ok (.ireturn, 1) := by decide +kernel
theorem d_Tape_poke_0 : decode prog_1_method_10_code 0 = .ok (.iload_n 1, 1) := by decide +kernel
theorem d_Tape_poke_1 : decode prog_1_method_10_code 1 = .ok (.iconst 0, 1) := by decide +kernel
theorem d_Tape_poke_2 : decode prog_1_method_10_code 2 = .ok (.aload_n 0, 1) := by decide +kernel
theorem d_Tape_poke_3 : decode prog_1_method_10_code 3 = .ok (.getfield 28, 3) := by decide +kernel
theorem d_Tape_poke_6 : decode prog_1_method_10_code 6 = .ok (.invokevirtual 77, 3) := by decide +kernel
theorem d_Tape_poke_9 : decode prog_1_method_10_code 9 = .ok (.iconst 1, 1) := by decide +kernel
theorem d_Tape_poke_10 : decode prog_1_method_10_code 10 = .ok (.isub, 1) := by decide +kernel
theorem d_Tape_poke_11 : decode prog_1_method_10_code 11 = .ok (.invokestatic 40, 3) := by decide +kernel
theorem d_Tape_poke_14 : decode prog_1_method_10_code 14 = .ok (.ifCond .ne 5, 3) := by decide +kernel
theorem d_Tape_poke_17 : decode prog_1_method_10_code 17 = .ok (.iconst 0, 1) := by decide +kernel
theorem d_Tape_poke_18 : decode prog_1_method_10_code 18 = .ok (.ireturn, 1) := by decide +kernel
theorem d_Tape_poke_19 : decode prog_1_method_10_code 19 = .ok (.aload_n 0, 1) := by decide +kernel
theorem d_Tape_poke_20 : decode prog_1_method_10_code 20 = .ok (.getfield 28, 3) := by decide +kernel
theorem d_Tape_poke_23 : decode prog_1_method_10_code 23 = .ok (.iload_n 1, 1) := by decide +kernel
theorem d_Tape_poke_24 : decode prog_1_method_10_code 24 = .ok (.iload_n 2, 1) := by decide +kernel
theorem d_Tape_poke_25 : decode prog_1_method_10_code 25 = .ok (.invokevirtual 88, 3) := by decide +kernel
theorem d_Tape_poke_28 : decode prog_1_method_10_code 28 = .ok (.iconst 1, 1) := by decide +kernel
theorem d_Tape_poke_29 : decode prog_1_method_10_code 29 = .ok (.ireturn, 1) := by decide +kernel
theorem d_Tape_read_0 : decode prog_1_method_11_code 0 = .ok (.aload_n 0, 1) := by decide +kernel
theorem d_Tape_read_1 : decode prog_1_method_11_code 1 = .ok (.getfield 36, 3) := by decide +kernel
theorem d_Tape_read_4 : decode prog_1_method_11_code 4 = .ok (.aload_n 0, 1) := by decide +kernel
theorem d_Tape_read_5 : decode prog_1_method_11_code 5 = .ok (.getfield 16, 3) := by decide +kernel
theorem d_Tape_read_8 : decode prog_1_method_11_code 8 = .ok (.invokevirtual 91, 3) := by decide +kernel
theorem d_Tape_read_11 : decode prog_1_method_11_code 11 = .ok (.aload_n 0, 1) := by decide +kernel
theorem d_Tape_read_12 : decode prog_1_method_11_code 12 = .ok (.getfield 36, 3) := by decide +kernel
theorem d_Tape_read_15 : decode prog_1_method_11_code 15 = .ok (.invokevirtual 95, 3) := by decide +kernel
theorem d_Tape_read_18 : decode prog_1_method_11_code 18 = .ok (.ifCond .ne 21, 3) := by decide +kernel
theorem d_Tape_read_21 : decode prog_1_method_11_code 21 = .ok (.aload_n 0, 1) := by decide +kernel
theorem d_Tape_read_22 : decode prog_1_method_11_code 22 = .ok (.getfield 12, 3) := by decide +kernel
theorem d_Tape_read_25 : decode prog_1_method_11_code 25 = .ok (.astore_n 1, 1) := by decide +kernel
theorem d_Tape_read_26 : decode prog_1_method_11_code 26 = .ok (.aload_n 0, 1) := by decide +kernel
theorem d_Tape_read_27 : decode prog_1_method_11_code 27 = .ok (.aload_n 0, 1) := by decide +kernel
theorem d_Tape_read_28 : decode prog_1_method_11_code 28 = .ok (.getfield 16, 3) := by decide +kernel
theorem d_Tape_read_31 : decode prog_1_method_11_code 31 = .ok (.putfield 12, 3) := by decide +kernel
theorem d_Tape_read_34 : decode prog_1_method_11_code 34 = .ok (.aload_n 0, 1) := by decide +kernel
theorem d_Tape_read_35 : decode prog_1_method_11_code 35 = .ok (.aload_n 1, 1) := by decide +kernel
theorem d_Tape_read_36 : decode prog_1_method_11_code 36 = .ok (.putfield 16, 3) := by decide +kernel
theorem d_Tape_read_39 : decode prog_1_method_11_code 39 = .ok (.aload_n 0, 1) := by decide +kernel
theorem d_Tape_read_40 : decode prog_1_method_11_code 40 = .ok (.getfield 36, 3) := by decide +kernel
theorem d_Tape_read_43 : decode prog_1_method_11_code 43 = .ok (.invokevirtual 95, 3) := by decide +kernel
theorem d_Tape_read_46 : decode prog_1_method_11_code 46 = .ok (.ireturn, 1) := by decide +kernel
theorem d_Tape_input_0 : decode prog_1_method_12_code 0 = .ok (.aload_n 0, 1) := by decide +kernel
theorem d_Tape_input_1 : decode prog_1_method_12_code 1 = .ok (.getfield 12, 3) := by decide +kernel
theorem d_Tape_input_4 : decode prog_1_method_12_code 4 = .ok (.iload_n 1, 1) := by decide +kernel
theorem d_Tape_input_5 : decode prog_1_method_12_code 5 = .ok (.invokevirtual 98, 3) := by decide +kernel
theorem d_Tape_input_8 : decode prog_1_method_12_code 8 = .ok (.istore_n 3, 1) := by decide +kernel
theorem d_Tape_input_9 : decode prog_1_method_12_code 9 = .ok (.iload_n 3, 1) := by decide +kernel
theorem d_Tape_input_10 : decode prog_1_method_12_code 10 = .ok (.iconst (-1), 1) := by decide +kernel
theorem d_Tape_input_11 : decode prog_1_method_12_code 11 = .ok (.if_icmp .ne 6, 3) := by decide +kernel
theorem d_Tape_input_14 : decode prog_1_method_12_code 14 = .ok (.ldc 102, 2) := by decide +kernel
theorem d_Tape_input_16 : decode prog_1_method_12_code 16 = .ok (.ireturn, 1) := by decide +kernel
theorem d_Tape_input_17 : decode prog_1_method_12_code 17 = .ok (.iload_n 2, 1) := by decide +kernel
theorem d_Tape_input_18 : decode prog_1_method_12_code 18 = .ok (.tableswitch 67 0 3 #[30, 38, 46, 54], 30) := by decide +kernel
theorem d_Tape_input_48 : decode prog_1_method_12_code 48 = .ok (.iload_n 3, 1) := by decide +kernel
theorem d_Tape_input_49 : decode prog_1_method_12_code 49 = .ok (.invokestatic 103, 3) := by decide +kernel
theorem d_Tape_input_52 : decode prog_1_method_12_code 52 = .ok (.bipush 64, 2) := by decide +kernel
theorem d_Tape_input_54 : decode prog_1_method_12_code 54 = .ok (.isub, 1) := by decide +kernel
theorem d_Tape_input_55 : decode prog_1_method_12_code 55 = .ok (.ireturn, 1) := by decide +kernel
theorem d_Tape_input_56 : decode prog_1_method_12_code 56 = .ok (.iload_n 3, 1) := by decide +kernel
theorem d_Tape_input_57 : decode prog_1_method_12_code 57 = .ok (.invokestatic 106, 3) := by decide +kernel
theorem d_Tape_input_60 : decode prog_1_method_12_code 60 = .ok (.bipush 64, 2) := by decide +kernel
theorem d_Tape_input_62 : decode prog_1_method_12_code 62 = .ok (.isub, 1) := by decide +kernel
theorem d_Tape_input_63 : decode prog_1_method_12_code 63 = .ok (.ireturn, 1) := by decide +kernel
theorem d_Tape_input_64 : decode prog_1_method_12_code 64 = .ok (.iload_n 3, 1) := by decide +kernel
theorem d_Tape_input_65 : decode prog_1_method_12_code 65 = .ok (.invokestatic 109, 3) := by decide +kernel
theorem d_Tape_input_68 : decode prog_1_method_12_code 68 = .ok (.bipush 16, 2) := by decide +kernel
theorem d_Tape_input_70 : decode prog_1_method_12_code 70 = .ok (.isub, 1) := by decide +kernel
theorem d_Tape_input_71 : decode prog_1_method_12_code 71 = .ok (.ireturn, 1) := by decide +kernel
theorem d_Tape_input_72 : decode prog_1_method_12_code 72 = .ok (.iload_n 3, 1) := by decide +kernel
theorem d_Tape_input_73 : decode prog_1_method_12_code 73 = .ok (.invokestatic 112, 3) := by decide +kernel
theorem d_Tape_input_76 : decode prog_1_method_12_code 76 = .ok (.ifCond .eq 7, 3) := by decide +kernel
theorem d_Tape_input_79 : decode prog_1_method_12_code 79 = .ok (.iconst 1, 1) := by decide +kernel
theorem d_Tape_input_80 : decode prog_1_method_12_code 80 = .ok (.goto 4, 3) := by decide +kernel
theorem d_Tape_input_83 : decode prog_1_method_12_code 83 = .ok (.iconst 0, 1) := by decide +kernel
theorem d_Tape_input_84 : decode prog_1_method_12_code 84 = .ok (.ireturn, 1) := by decide +kernel
theorem d_Tape_input_85 : decode prog_1_method_12_code 85 = .ok (.ldc 102, 2) := by decide +kernel
theorem d_Tape_input_87 : decode prog_1_method_12_code 87 = .ok (.ireturn, 1) := by decide +kernel
theorem d_Tape_begin_0 : decode prog_1_method_13_code 0 = .ok (.aload_n 0, 1) := by decide +kernel
theorem d_Tape_begin_1 : decode prog_1_method_13_code 1 = .ok (.getfield 12, 3) := by decide +kernel
theorem d_Tape_begin_4 : decode prog_1_method_13_code 4 = .ok (.iload_n 1, 1) := by decide +kernel
theorem d_Tape_begin_5 : decode prog_1_method_13_code 5 = .ok (.invokevirtual 116, 3) := by decide +kernel
theorem d_Tape_begin_8 : decode prog_1_method_13_code 8 = .ok (.ireturn, 1) := by decide +kernel
theorem d_Tape_byteAt_0 : decode prog_1_method_14_code 0 = .ok (.iload_n 2, 1) := by decide +kernel
theorem d_Tape_byteAt_1 : decode prog_1_method_14_code 1 = .ok (.ifCond .eq 14, 3) := by decide +kernel
theorem d_Tape_byteAt_4 : decode prog_1_method_14_code 4 = .ok (.aload_n 0, 1) := by decide +kernel
theorem d_Tape_byteAt_5 : decode prog_1_method_14_code 5 = .ok (.getfield 28, 3) := by decide +kernel
theorem d_Tape_byteAt_8 : decode prog_1_method_14_code 8 = .ok (.iload_n 1, 1) := by decide +kernel
theorem d_Tape_byteAt_9 : decode prog_1_method_14_code 9 = .ok (.invokevirtual 119, 3) := by decide +kernel
theorem d_Tape_byteAt_12 : decode prog_1_method_14_code 12 = .ok (.goto 11, 3) := by decide +kernel
theorem d_Tape_byteAt_15 : decode prog_1_method_14_code 15 = .ok (.aload_n 0, 1) := by decide +kernel
theorem d_Tape_byteAt_16 : decode prog_1_method_14_code 16 = .ok (.getfield 24, 3) := by decide +kernel
theorem d_Tape_byteAt_19 : decode prog_1_method_14_code 19 = .ok (.iload_n 1, 1) := by decide +kernel
theorem d_Tape_byteAt_20 : decode prog_1_method_14_code 20 = .ok (.invokevirtual 119, 3) := by decide +kernel
theorem d_Tape_byteAt_23 : decode prog_1_method_14_code 23 = .ok (.ireturn, 1) := by decide +kernel
theorem d_Tape_look_0 : decode prog_1_method_15_code 0 = .ok (.iload_n 1, 1) := by decide +kernel
theorem d_Tape_look_1 : decode prog_1_method_15_code 1 = .ok (.tableswitch 99 0 6 #[43, 51, 59, 67, 75, 83, 91], 43) := by decide +kernel
theorem d_Tape_look_44 : decode prog_1_method_15_code 44 = .ok (.aload_n 0, 1) := by decide +kernel
theorem d_Tape_look_45 : decode prog_1_method_15_code 45 = .ok (.getfield 12, 3) := by decide +kernel
theorem d_Tape_look_48 : decode prog_1_method_15_code 48 = .ok (.invokevirtual 62, 3) := by decide +kernel
theorem d_Tape_look_51 : decode prog_1_method_15_code 51 = .ok (.ireturn, 1) := by decide +kernel
theorem d_Tape_look_52 : decode prog_1_method_15_code 52 = .ok (.aload_n 0, 1) := by decide +kernel
theorem d_Tape_look_53 : decode prog_1_method_15_code 53 = .ok (.getfield 12, 3) := by decide +kernel
theorem d_Tape_look_56 : decode prog_1_method_15_code 56 = .ok (.invokevirtual 122, 3) := by decide +kernel
theorem d_Tape_look_59 : decode prog_1_method_15_code 59 = .ok (.ireturn, 1) := by decide +kernel
theorem d_Tape_look_60 : decode prog_1_method_15_code 60 = .ok (.aload_n 0, 1) := by decide +kernel
theorem d_Tape_look_61 : decode prog_1_method_15_code 61 = .ok (.getfield 24, 3) := by decide +kernel
theorem d_Tape_look_64 : decode prog_1_method_15_code 64 = .ok (.invokevirtual 77, 3) := by decide +kernel
theorem d_Tape_look_67 : decode prog_1_method_15_code 67 = .ok (.ireturn, 1) := by decide +kernel
theorem d_Tape_look_68 : decode prog_1_method_15_code 68 = .ok (.aload_n 0, 1) := by decide +kernel
theorem d_Tape_look_69 : decode prog_1_method_15_code 69 = .ok (.getfield 28, 3) := by decide +kernel
theorem d_Tape_look_72 : decode prog_1_method_15_code 72 = .ok (.invokevirtual 77, 3) := by decide +kernel
theorem d_Tape_look_75 : decode prog_1_method_15_code 75 = .ok (.ireturn, 1) := by decide +kernel
theorem d_Tape_look_76 : decode prog_1_method_15_code 76 = .ok (.aload_n 0, 1) := by decide +kernel
theorem d_Tape_look_77 : decode prog_1_method_15_code 77 = .ok (.getfield 36, 3) := by decide +kernel
theorem d_Tape_look_80 : decode prog_1_method_15_code 80 = .ok (.invokevirtual 95, 3) := by decide +kernel
theorem d_Tape_look_83 : decode prog_1_method_15_code 83 = .ok (.ireturn, 1) := by decide +kernel
theorem d_Tape_look_84 : decode prog_1_method_15_code 84 = .ok (.aload_n 0, 1) := by decide +kernel
theorem d_Tape_look_85 : decode prog_1_method_15_code 85 = .ok (.getfield 36, 3) := by decide +kernel
theorem d_Tape_look_88 : decode prog_1_method_15_code 88 = .ok (.invokevirtual 125, 3) := by decide +kernel
theorem d_Tape_look_91 : decode prog_1_method_15_code 91 = .ok (.ireturn, 1) := by decide +kernel
theorem d_Tape_look_92 : decode prog_1_method_15_code 92 = .ok (.aload_n 0, 1) := by decide +kernel
theorem d_Tape_look_93 : decode prog_1_method_15_code 93 = .ok (.getfield 12, 3) := by decide +kernel
theorem d_Tape_look_96 : decode prog_1_method_15_code 96 = .ok (.invokevirtual 128, 3) := by decide +kernel
theorem d_Tape_look_99 : decode prog_1_method_15_code 99 = .ok (.ireturn, 1) := by decide +kernel
theorem d_Tape_look_100 : decode prog_1_method_15_code 100 = .ok (.iconst (-1), 1) := by decide +kernel
theorem d_Tape_look_101 : decode prog_1_method_15_code 101 = .ok (.ireturn, 1) := by decide +kernel
theorem d_Tape_init_0 : decode prog_1_method_1_code 0 = .ok (.aload_n 0, 1) := by decide +kernel
theorem d_Tape_init_1 : decode prog_1_method_1_code 1 = .ok (.invokespecial 3, 3) := by decide +kernel
theorem d_Tape_init_4 : decode prog_1_method_1_code 4 = .ok (.aload_n 0, 1) := by decide +kernel
theorem d_Tape_init_5 : decode prog_1_method_1_code 5 = .ok (.new 9, 3) := by decide +kernel
theorem d_Tape_init_8 : decode prog_1_method_1_code 8 = .ok (.dup, 1) := by decide +kernel
theorem d_Tape_init_9 : decode prog_1_method_1_code 9 = .ok (.invokespecial 11, 3) := by decide +kernel
theorem d_Tape_init_12 : decode prog_1_method_1_code 12 = .ok (.putfield 12, 3) := by decide +kernel
theorem d_Tape_init_15 : decode prog_1_method_1_code 15 = .ok (.aload_n 0, 1) := by decide +kernel
theorem d_Tape_init_16 : decode prog_1_method_1_code 16 = .ok (.new 9, 3) := by decide +kernel
theorem d_Tape_init_19 : decode prog_1_method_1_code 19 = .ok (.dup, 1) := by decide +kernel
theorem d_Tape_init_20 : decode prog_1_method_1_code 20 = .ok (.invokespecial 11, 3) := by decide +kernel
theorem d_Tape_init_23 : decode prog_1_method_1_code 23 = .ok (.putfield 16, 3) := by decide +kernel
theorem d_Tape_init_26 : decode prog_1_method_1_code 26 = .ok (.aload_n 0, 1) := by decide +kernel
theorem d_Tape_init_27 : decode prog_1_method_1_code 27 = .ok (.new 19, 3) := by decide +kernel
theorem d_Tape_init_30 : decode prog_1_method_1_code 30 = .ok (.dup, 1) := by decide +kernel
theorem d_Tape_init_31 : decode prog_1_method_1_code 31 = .ok (.sipush 4110, 3) := by decide +kernel
theorem d_Tape_init_34 : decode prog_1_method_1_code 34 = .ok (.invokespecial 21, 3) := by decide +kernel
theorem d_Tape_init_37 : decode prog_1_method_1_code 37 = .ok (.putfield 24, 3) := by decide +kernel
theorem d_Tape_init_40 : decode prog_1_method_1_code 40 = .ok (.aload_n 0, 1) := by decide +kernel
theorem d_Tape_init_41 : decode prog_1_method_1_code 41 = .ok (.new 19, 3) := by decide +kernel
theorem d_Tape_init_44 : decode prog_1_method_1_code 44 = .ok (.dup, 1) := by decide +kernel
theorem d_Tape_init_45 : decode prog_1_method_1_code 45 = .ok (.sipush 8192, 3) := by decide +kernel
theorem d_Tape_init_48 : decode prog_1_method_1_code 48 = .ok (.invokespecial 21, 3) := by decide +kernel
theorem d_Tape_init_51 : decode prog_1_method_1_code 51 = .ok (.putfield 28, 3) := by decide +kernel
theorem d_Tape_init_54 : decode prog_1_method_1_code 54 = .ok (.aload_n 0, 1) := by decide +kernel
theorem d_Tape_init_55 : decode prog_1_method_1_code 55 = .ok (.new 31, 3) := by decide +kernel
theorem d_Tape_init_58 : decode prog_1_method_1_code 58 = .ok (.dup, 1) := by decide +kernel
theorem d_Tape_init_59 : decode prog_1_method_1_code 59 = .ok (.aload_n 0, 1) := by decide +kernel
theorem d_Tape_init_60 : decode prog_1_method_1_code 60 = .ok (.getfield 28, 3) := by decide +kernel
theorem d_Tape_init_63 : decode prog_1_method_1_code 63 = .ok (.invokespecial 33, 3) := by decide +kernel
theorem d_Tape_init_66 : decode prog_1_method_1_code 66 = .ok (.putfield 36, 3) := by decide +kernel
theorem d_Tape_init_69 : decode prog_1_method_1_code 69 = .ok (.return_, 1) := by decide +kernel
end
section
-- rows of the kit's laws/BITS.to-paste, pasted (bits of an Int32; a byte read unsigned; Int64 as an unsigned number)
/-! ===== Int32 by its bits: bt x i ===== -/
def bt (x : Int32) (i : Nat) : Bool := x.toBitVec.getLsbD i
theorem b_ext {x y : Int32} (h : ∀ i, i < 32 → bt x i = bt y i) : x = y := Int32.toBitVec_inj.mp (BitVec.eq_of_getLsbD_eq (fun i hi => h i hi))
theorem b_or (x y : Int32) (i : Nat) : bt (x ||| y) i = (bt x i || bt y i) := by unfold bt; rw [Int32.toBitVec_or, BitVec.getLsbD_or]
theorem b_and (x y : Int32) (i : Nat) : bt (x &&& y) i = (bt x i && bt y i) := by unfold bt; rw [Int32.toBitVec_and, BitVec.getLsbD_and]
theorem b_xor (x y : Int32) (i : Nat) : bt (x ^^^ y) i = (bt x i ^^ bt y i) := by unfold bt; rw [Int32.toBitVec_xor, BitVec.getLsbD_xor]
theorem b_big {x : Int32} {i : Nat} (h : 32 ≤ i) : bt x i = false := BitVec.getLsbD_of_ge _ _ h
theorem b_255 (i : Nat) : bt 255 i = decide (i < 8) := by
  rcases Nat.lt_or_ge i 32 with h | h
  · exact (by decide +kernel : ∀ i, i < 32 → bt 255 i = decide (i < 8)) i h
  · rw [b_big h, decide_eq_false (by omega)]
theorem b_65535 (i : Nat) : bt 65535 i = decide (i < 16) := by
  rcases Nat.lt_or_ge i 32 with h | h
  · exact (by decide +kernel : ∀ i, i < 32 → bt 65535 i = decide (i < 16)) i h
  · rw [b_big h, decide_eq_false (by omega)]
theorem b_m1 : ∀ i, i < 32 → bt (-1) i = true := by decide +kernel
theorem b_0 (i : Nat) : bt 0 i = false := BitVec.getLsbD_zero
theorem s_l : ∀ n, n < 32 → ((nI n &&& 31).toBitVec.smod 32).toNat = n := by decide +kernel
theorem s_u : ∀ n, n < 32 → (((nI n).toUInt32 &&& Int32.toUInt32 31).toBitVec % 32).toNat = n := by decide +kernel
theorem b_shl (n : Nat) (hn : n < 32) (x : Int32) {i : Nat} (hi : i < 32) : bt (x <<< (nI n &&& 31)) i = (decide (n ≤ i) && bt x (i - n)) := by
  unfold bt
  rw [Int32.toBitVec_shiftLeft]
  show (x.toBitVec <<< ((nI n &&& 31).toBitVec.smod 32).toNat).getLsbD i = _
  rw [s_l n hn, BitVec.getLsbD_shiftLeft]
  rcases Nat.lt_or_ge i n with h | h
  · simp [h, Nat.not_le.mpr h]
  · simp [hi, h, Nat.not_lt.mpr h]
theorem b_ushr (n : Nat) (hn : n < 32) (x : Int32) (i : Nat) : bt ((x.toUInt32 >>> ((nI n).toUInt32 &&& Int32.toUInt32 31)).toInt32) i = bt x (n + i) := by
  show (x.toUInt32 >>> ((nI n).toUInt32 &&& Int32.toUInt32 31)).toBitVec.getLsbD i = x.toUInt32.toBitVec.getLsbD (n + i)
  rw [UInt32.toBitVec_shiftRight]
  show (x.toUInt32.toBitVec >>> (((nI n).toUInt32 &&& Int32.toUInt32 31).toBitVec % 32).toNat).getLsbD i = _
  rw [s_u n hn, BitVec.getLsbD_ushiftRight]
theorem b_sshr (n : Nat) (hn : n < 32) (x : Int32) {i : Nat} (hi : i < 32) : bt (x >>> (nI n &&& 31)) i = if n + i < 32 then bt x (n + i) else bt x 31 := by
  unfold bt
  rw [Int32.toBitVec_shiftRight]
  show (x.toBitVec.sshiftRight ((nI n &&& 31).toBitVec.smod 32).toNat).getLsbD i = _
  rw [s_l n hn, BitVec.getLsbD_sshiftRight, BitVec.msb_eq_getLsbD_last]
  simp [hi]
theorem b_shl8 (x : Int32) {i : Nat} (hi : i < 32) : bt (x <<< ((8 : Int32) &&& 31)) i = (decide (8 ≤ i) && bt x (i - 8)) := b_shl 8 (by omega) x hi
theorem b_shl16 (x : Int32) {i : Nat} (hi : i < 32) : bt (x <<< ((16 : Int32) &&& 31)) i = (decide (16 ≤ i) && bt x (i - 16)) := b_shl 16 (by omega) x hi
theorem b_shl24 (x : Int32) {i : Nat} (hi : i < 32) : bt (x <<< ((24 : Int32) &&& 31)) i = (decide (24 ≤ i) && bt x (i - 24)) := b_shl 24 (by omega) x hi
theorem b_sshr8 (x : Int32) {i : Nat} (hi : i < 32) : bt (x >>> ((8 : Int32) &&& 31)) i = if 8 + i < 32 then bt x (8 + i) else bt x 31 := b_sshr 8 (by omega) x hi
/-! ===== a byte read unsigned ===== -/
theorem bp_b (x : Int32) : x.toInt8.toInt32 &&& 255 = x &&& 255 := by
  apply Int32.toBitVec_inj.mp
  rw [Int32.toBitVec_and, Int32.toBitVec_and, Int8.toBitVec_toInt32, Int32.toBitVec_toInt8]
  apply BitVec.eq_of_getLsbD_eq
  intro i hi
  rw [BitVec.getLsbD_and, BitVec.getLsbD_and]
  have hm : ∀ i < 32, 8 ≤ i → (255 : Int32).toBitVec.getLsbD i = false := by decide
  rcases Nat.lt_or_ge i 8 with z | z
  · rw [BitVec.getLsbD_signExtend, BitVec.getLsbD_signExtend, if_pos z, if_pos hi]
    simp only [z, hi, decide_true, Bool.true_and]
  · rw [hm i hi z]; simp
/-! ===== Int64 as an unsigned number: uN x ===== -/
def uN (x : Int64) : Nat := x.toUInt64.toNat
theorem uN_lt (x : Int64) : uN x < 18446744073709551616 := x.toUInt64.toNat_lt
theorem uN_inj {x y : Int64} (h : uN x = uN y) : x = y := congrArg UInt64.toInt64 (UInt64.toNat_inj.mp h)
theorem uN_shr (x : Int64) (s : UInt64) : uN (x.toUInt64 >>> s).toInt64 = uN x / 2 ^ (s.toNat % 64) := by
  show (x.toUInt64 >>> s).toNat = _
  rw [UInt64.toNat_shiftRight, Nat.shiftRight_eq_div_pow]
  rfl
theorem uN_sk (x : Int64) {k : Nat} (hk : k < 64) : uN (x.toUInt64 >>> ((nI k).toInt64.toUInt64 &&& Int64.toUInt64 63)).toInt64 = uN x / 2 ^ k := by
  have h : ((nI k).toInt64.toUInt64 &&& Int64.toUInt64 63).toNat % 64 = k := by
    rw [nI_l (by omega), UInt64.toNat_and]
    have e : (lN k).toUInt64.toNat = k % 2 ^ 64 := rfl
    have e2 : (Int64.toUInt64 63).toNat = 2 ^ 6 - 1 := by decide
    rw [e, e2, Nat.and_two_pow_sub_one_eq_mod]
    omega
  rw [uN_shr, h]
end
section
/-! Tools: the shapes of all contracts, calls joined with the frame, ends, numbers. -/
section KT
variable {p : Program} {l : Launch} {e : Env} {R : Room} {s : State} {m : MethodId} {args : Array Value} {below : List Frame} {meth : Method} {c : Code} {H H0 : Heap} {locs : List Loc} {cells slots pc : Nat} {Q : State → Prop} {ls : Array Slot} {rest st0 : List Value} {cc : ByteArray} {D : va_G} {cl : List vw_C} {tys : List (ClassId × FieldType)} {ws wc wr : va_W} {A : Nat → Prop} {mc ms : Nat} {a : Array Value}
/-- a contract's start: the cells ws, apart, the heap's size -/
def kp (D : va_G) (cl : List vw_C) (tys : List (ClassId × FieldType)) (ws : va_W) (sz : Nat) : State → Prop := fun U => U.heap.size = sz ∧ va_P D cl ws U.heap ∧ va_K D cl tys U ∧ va_D (fun _ => True) ws
/-- a contract's end: the cells w1 u -/
def ka {S : Type} (D : va_G) (cl : List vw_C) (tys : List (ClassId × FieldType)) (w1 : S → va_W) (A : Nat → Prop) : S → State → Prop := fun u t => va_P D cl (w1 u) t.heap ∧ va_K D cl tys t ∧ va_D A (w1 u)
theorem kp_blind {As : List Value} {sz : Nat} : FrameBlind (va_Pc As (kp D cl tys ws sz)) := by
  intro a U g mk q
  obtain ⟨q0, q1, qP, qK, qD⟩ := q
  exact ⟨q0, q1, qP, va_K.moved (u := U) (U := U.calling g mk a) (Vm.Alike.refl U.vm) qK, qD⟩
theorem kp_of {As : List Value} (hK : va_K D cl tys s) (hP : va_P D cl ws H) (hD : va_D A ws) : ∀ U : State, U.heap = H → s.WarmedH U.vm → va_Pc As (kp D cl tys ws H.size) As.toArray U := by
  intro U hU hW
  exact ⟨rfl, by rw [hU], by rw [hU]; exact hP, va_K.moved hW.alike hK, hD.weaken (fun _ _ _ _ => trivial)⟩
theorem kpS {As : List Value} (hK : va_K D cl tys s) (hP : va_P D cl ws H) (hD : va_D A ws) (isC : List Nat) (h1 : isC.filterMap (fun i => ws[i]?) = wc) (hn : va_nd isC = true) (h2 : isC.map (fun i => ws[i]?) = wc.map some) : PreS s H (va_Pc As (kp D cl tys wc H.size)) As :=
  ⟨kp_blind, kp_of hK (hP.sub isC h1) (hD.sub isC hn h2)⟩
theorem kpV {As : List Value} {b q0 ci : Nat} {q : vw_C} {fs : List Value} (hK : va_K D cl tys s) (hP : va_P D cl ws H) (hD : va_D A ws) (isC : List Nat) (h1 : isC.filterMap (fun i => ws[i]?) = wc) (hn : va_nd isC = true) (h2 : isC.map (fun i => ws[i]?) = wc.map some) (hc : cl[ci]? = some q) (he : ws[q0]? = some (b, .inr (ci, fs))) : PreV s H q.1 b (va_Pc (.ref b :: As) (kp D cl tys wc H.size)) As :=
  ⟨kp_blind, va_recv hK hP hc he, kp_of hK (hP.sub isC h1) (hD.sub isC hn h2)⟩
/-- behind a call that answers an int -/
theorem kc_i {S : Type} {post : Int32 → S → Prop} {w1 w2 : S → va_W} (hr : va_Run p l e R s m args below meth c H locs cells slots mc ms (F0 m pc ls st0) rest (va_Qi post (ka D cl tys w1 (va_A wc H.size)) (va_A wc H.size) a) (va_A wc H.size)) (hP : va_P D cl ws H) (hD : va_D A ws) (hS : va_S A H0 H locs) (hA : ∀ q, H0.size ≤ q → A q) (isC isR perm : List Nat) (hC : isC.map (fun i => ws[i]?) = wc.map some) (hR : isR.map (fun i => ws[i]?) = wr.map some) (hn : va_nd isR = true) (hdis : ∀ i ∈ isR, i ∉ isC) (hp1 : ∀ u, perm.filterMap (fun i => (wr ++ w1 u)[i]?) = w2 u) (hp2 : va_nd perm = true) (hp3 : ∀ u, perm.map (fun i => (wr ++ w1 u)[i]?) = (w2 u).map some)
    (kk : ∀ (r : Int32) (u : S) (H1 : Heap) (locs1 : List Loc), post r u → va_P D cl (w2 u) H1 → va_D A (w2 u) → va_S A H0 H1 locs1 → W p l e R s m args below meth c H1 locs1 (cells + mc) (slots + ms) Q (F0 m (pc + 3) ls (.int r :: rest))) : W p l e R s m args below meth c H locs cells slots Q (F0 m pc ls st0) := by
  have hFc := va_free hD hS hA isC hC
  refine va_calli hr hS (fun q _ h => hFc q h) hFc (fun r u t H1 locs1 ht hvm hw hB hz1 hk1 hS1 => ?_)
  obtain ⟨hP1, -, hD1⟩ := hB
  rw [ht] at hP1
  obtain ⟨hP2, hD2⟩ := va_join hP hD isC isR hC hR hn hdis hk1 hFc hP1 hD1
  exact kk r u H1 locs1 hw (hP2.sub perm (hp1 u)) (hD2.sub perm hp2 (hp3 u)) hS1
theorem kc_v {S : Type} {post : S → Prop} {w1 w2 : S → va_W} (hr : va_Run p l e R s m args below meth c H locs cells slots mc ms (F0 m pc ls st0) rest (va_Qv post (ka D cl tys w1 (va_A wc H.size)) (va_A wc H.size) a) (va_A wc H.size)) (hP : va_P D cl ws H) (hD : va_D A ws) (hS : va_S A H0 H locs) (hA : ∀ q, H0.size ≤ q → A q) (isC isR perm : List Nat) (hC : isC.map (fun i => ws[i]?) = wc.map some) (hR : isR.map (fun i => ws[i]?) = wr.map some) (hn : va_nd isR = true) (hdis : ∀ i ∈ isR, i ∉ isC) (hp1 : ∀ u, perm.filterMap (fun i => (wr ++ w1 u)[i]?) = w2 u) (hp2 : va_nd perm = true) (hp3 : ∀ u, perm.map (fun i => (wr ++ w1 u)[i]?) = (w2 u).map some)
    (kk : ∀ (u : S) (H1 : Heap) (locs1 : List Loc), post u → va_P D cl (w2 u) H1 → va_D A (w2 u) → va_S A H0 H1 locs1 → W p l e R s m args below meth c H1 locs1 (cells + mc) (slots + ms) Q (F0 m (pc + 3) ls rest)) : W p l e R s m args below meth c H locs cells slots Q (F0 m pc ls st0) := by
  have hFc := va_free hD hS hA isC hC
  refine va_callv hr hS (fun q _ h => hFc q h) hFc (fun u t H1 locs1 ht hvm hw hB hz1 hk1 hS1 => ?_)
  obtain ⟨hP1, -, hD1⟩ := hB
  rw [ht] at hP1
  obtain ⟨hP2, hD2⟩ := va_join hP hD isC isR hC hR hn hdis hk1 hFc hP1 hD1
  exact kk u H1 locs1 hw (hP2.sub perm (hp1 u)) (hD2.sub perm hp2 (hp3 u)) hS1
/-- a call that answers an int and changes nothing that the caller sees: its cells come back as they were -/
theorem kq_i {post : Int32 → Unit → Prop} (hr : va_Run p l e R s m args below meth c H locs cells slots 0 0 (F0 m pc ls st0) rest (va_Qi post (ka D cl tys (fun _ => wc) (va_A wc H.size)) (va_A wc H.size) a) (va_A wc H.size)) (hP : va_P D cl ws H) (hD : va_D A ws) (hS : va_S A H0 H locs) (hA : ∀ q, H0.size ≤ q → A q) (isC isR perm : List Nat) (hC : isC.map (fun i => ws[i]?) = wc.map some) (hR : isR.map (fun i => ws[i]?) = wr.map some) (hn : va_nd isR = true) (hdis : ∀ i ∈ isR, i ∉ isC) (hp1 : perm.filterMap (fun i => (wr ++ wc)[i]?) = ws)
    (kk : ∀ (r : Int32) (H1 : Heap) (locs1 : List Loc), post r () → va_P D cl ws H1 → va_S A H0 H1 locs1 → W p l e R s m args below meth c H1 locs1 cells slots Q (F0 m (pc + 3) ls (.int r :: rest))) : W p l e R s m args below meth c H locs cells slots Q (F0 m pc ls st0) := by
  have hFc := va_free hD hS hA isC hC
  refine va_calli hr hS (fun q _ h => hFc q h) hFc (fun r u t H1 locs1 ht hvm hw hB hz1 hk1 hS1 => ?_)
  obtain ⟨hP1, -, hD1⟩ := hB
  rw [ht] at hP1
  obtain ⟨hP2, hD2⟩ := va_join hP hD isC isR hC hR hn hdis hk1 hFc hP1 hD1
  exact kk r H1 locs1 hw (hP2.sub perm hp1) hS1
/-- ends -/
theorem kr_i {S : Type} {post : Int32 → S → Prop} {w1 : S → va_W} {v : Int32} {rt : FieldType} (u : S) (hexec : p.tables.exec = Jvm.exec) (hb : c.code = cc) (hr : meth.sig.returnType = some rt) (hn : narrow rt (.int v) = .int v) (hK : va_K D cl tys s) (hP : va_P D cl (w1 u) H) (hD : va_D A (w1 u)) (hS : va_S A s.heap H locs) (hpost : post v u) (hdg : decode cc pc = .ok (.ireturn, 1)) (hlocks : meth.locks = false) : W p l e R s m args below meth c H locs cells slots (MQ below (va_Qi post (ka D cl tys w1 A) A) args s cells slots A) (F0 m pc ls [.int v]) :=
  W.zret hexec hb hr hn (fun t ht hW => ⟨⟨v, u, rfl, hpost, by rw [ht]; exact hP, va_K.moved hW.alike hK, hD⟩, hS.F ht⟩) hS.2.2 hdg hlocks
theorem kr_v {S : Type} {post : S → Prop} {w1 : S → va_W} (u : S) (hexec : p.tables.exec = Jvm.exec) (hb : c.code = cc) (hr : meth.sig.returnType = none) (hK : va_K D cl tys s) (hP : va_P D cl (w1 u) H) (hD : va_D A (w1 u)) (hS : va_S A s.heap H locs) (hpost : post u) (hdg : decode cc pc = .ok (.return_, 1)) (hlocks : meth.locks = false) : W p l e R s m args below meth c H locs cells slots (MQ below (va_Qv post (ka D cl tys w1 A) A) args s cells slots A) (F0 m pc ls []) :=
  W.vret hexec hb hr (fun t ht hW => ⟨⟨u, rfl, hpost, by rw [ht]; exact hP, va_K.moved hW.alike hK, hD⟩, hS.F ht⟩) hS.2.2 hdg hlocks
theorem kt_i {x y : Int32} (h : x = y) (k : W p l e R s m args below meth c H locs cells slots Q (F0 m pc ls (.int y :: rest))) : W p l e R s m args below meth c H locs cells slots Q (F0 m pc ls (.int x :: rest)) := by rw [h]; exact k
theorem kt_l {x y : Int64} (h : x = y) (k : W p l e R s m args below meth c H locs cells slots Q (F0 m pc ls (.long y :: rest))) : W p l e R s m args below meth c H locs cells slots Q (F0 m pc ls (.long x :: rest)) := by rw [h]; exact k
/-- arrays at a place that is known as a number -/
theorem kt_iald {ad : Nat} (hexec : p.tables.exec = Jvm.exec) (hb : c.code = cc) (hK : va_K D cl tys s) (hP : va_P D cl ws H) (q0 t0 : Nat) {cA : ClassId} {n : Nat} {f : Nat → Int32} (ha : ws[q0]? = some (ad, .inl (cA, n, .inl f))) (ht : tys[t0]? = some (cA, .int)) {j : Nat} (hj : j < n) (hn : n < 2 ^ 31) (hdg : decode cc pc = .ok (.iaload, 1))
    (kk : W p l e R s m args below meth c H locs cells slots Q (F0 m (pc + 1) ls (.int (f j) :: rest))) : W p l e R s m args below meth c H locs cells slots Q (F0 m pc ls (.int (nI j) :: .ref ad :: rest)) :=
  va_iald hexec hb hK hP q0 t0 ha ht (vp_in_nI hj hn) hdg (by rw [nI_clamp (by omega)]; exact kk)
theorem kt_bald {ad : Nat} (hexec : p.tables.exec = Jvm.exec) (hb : c.code = cc) (hK : va_K D cl tys s) (hP : va_P D cl ws H) (q0 t0 : Nat) {cA : ClassId} {n : Nat} {f : Nat → Int32} (ha : ws[q0]? = some (ad, .inl (cA, n, .inl f))) (ht : tys[t0]? = some (cA, .byte)) {j : Nat} (hj : j < n) (hn : n < 2 ^ 31) (hdg : decode cc pc = .ok (.baload, 1))
    (kk : W p l e R s m args below meth c H locs cells slots Q (F0 m (pc + 1) ls (.int (f j) :: rest))) : W p l e R s m args below meth c H locs cells slots Q (F0 m pc ls (.int (nI j) :: .ref ad :: rest)) :=
  va_bald hexec hb hK hP q0 t0 ha ht (vp_in_nI hj hn) hdg (by rw [nI_clamp (by omega)]; exact kk)
theorem kt_iast {ad : Nat} (hexec : p.tables.exec = Jvm.exec) (hb : c.code = cc) (hK : va_K D cl tys s) (hP : va_P D cl ws H) (hD : va_D A ws) (hS : va_S A H0 H locs) (q0 t0 : Nat) {cA : ClassId} {n : Nat} {f : Nat → Int32} (ha : ws[q0]? = some (ad, .inl (cA, n, .inl f))) (ht : tys[t0]? = some (cA, .int)) {j : Nat} {x : Int32} (hj : j < n) (hn : n < 2 ^ 31) (hdg : decode cc pc = .ok (.iastore, 1))
    (kk : ∀ (H1 : Heap) (locs1 : List Loc), va_P D cl (ws.set q0 (ad, .inl (cA, n, .inl (upd f j x)))) H1 → va_D A (ws.set q0 (ad, .inl (cA, n, .inl (upd f j x)))) → va_S A H0 H1 locs1 → W p l e R s m args below meth c H1 locs1 cells slots Q (F0 m (pc + 1) ls rest)) : W p l e R s m args below meth c H locs cells slots Q (F0 m pc ls (.int x :: .int (nI j) :: .ref ad :: rest)) :=
  va_iast hexec hb hK hP hD hS q0 t0 ha ht (vp_in_nI hj hn) hdg (by rw [nI_clamp (by omega)]; exact kk)
theorem kt_bast {ad : Nat} (hexec : p.tables.exec = Jvm.exec) (hb : c.code = cc) (hK : va_K D cl tys s) (hP : va_P D cl ws H) (hD : va_D A ws) (hS : va_S A H0 H locs) (q0 t0 : Nat) {cA : ClassId} {n : Nat} {f : Nat → Int32} (ha : ws[q0]? = some (ad, .inl (cA, n, .inl f))) (ht : tys[t0]? = some (cA, .byte)) {j : Nat} {x : Int32} (hj : j < n) (hn : n < 2 ^ 31) (hdg : decode cc pc = .ok (.bastore, 1))
    (kk : ∀ (H1 : Heap) (locs1 : List Loc), va_P D cl (ws.set q0 (ad, .inl (cA, n, .inl (upd f j x.toInt8.toInt32)))) H1 → va_D A (ws.set q0 (ad, .inl (cA, n, .inl (upd f j x.toInt8.toInt32)))) → va_S A H0 H1 locs1 → W p l e R s m args below meth c H1 locs1 cells slots Q (F0 m (pc + 1) ls rest)) : W p l e R s m args below meth c H locs cells slots Q (F0 m pc ls (.int x :: .int (nI j) :: .ref ad :: rest)) :=
  va_bast hexec hb hK hP hD hS q0 t0 ha ht (vp_in_nI hj hn) hdg (by rw [nI_clamp (by omega), vp_nar_byte]; exact kk)
end KT
/-! compares of numbers -/
theorem kn_le {a b : Nat} {x y : Int32} (h : x ≤ y) (hx : x = nI a) (hy : y = nI b) (ha : a < 2 ^ 31) (hb : b < 2 ^ 31) : a ≤ b := by subst hx hy; exact (nI_leI ha hb).mp h
theorem kn_nle {a b : Nat} {x y : Int32} (h : ¬ x ≤ y) (hx : x = nI a) (hy : y = nI b) (ha : a < 2 ^ 31) (hb : b < 2 ^ 31) : b < a := by subst hx hy; exact Nat.lt_of_not_le (fun q => h ((nI_leI ha hb).mpr q))
theorem kn_lt {a b : Nat} {x y : Int32} (h : x < y) (hx : x = nI a) (hy : y = nI b) (ha : a < 2 ^ 31) (hb : b < 2 ^ 31) : a < b := by subst hx hy; exact (nI_ltI ha hb).mp h
theorem kn_nlt {a b : Nat} {x y : Int32} (h : ¬ x < y) (hx : x = nI a) (hy : y = nI b) (ha : a < 2 ^ 31) (hb : b < 2 ^ 31) : b ≤ a := by subst hx hy; exact Nat.le_of_not_lt (fun q => h ((nI_ltI ha hb).mpr q))
theorem kn_eq {a b : Nat} {x y : Int32} (h : x = y) (hx : x = nI a) (hy : y = nI b) (ha : a < 2 ^ 31) (hb : b < 2 ^ 31) : a = b := by subst hx hy; exact (nI_eq ha hb).mp h
theorem kn_ne {a b : Nat} {x y : Int32} (h : ¬ x = y) (hx : x = nI a) (hy : y = nI b) (ha : a < 2 ^ 31) (hb : b < 2 ^ 31) : a ≠ b := by subst hx hy; exact fun q => h ((nI_eq ha hb).mpr q)
theorem k32_le (x y : Int32) : x ≤ y ↔ x.toInt ≤ y.toInt := Int32.le_iff_toInt_le
theorem k32_lt (x y : Int32) : x < y ↔ x.toInt < y.toInt := Int32.lt_iff_toInt_lt
theorem ks_int {D : va_G} {cl : List vw_C} {cI cB cZ cA : ClassId} {s : State} (h : va_K D cl ([(cI, .int), (cB, .byte), (cZ, .boolean)] ++ [(cA, .int)]) s) : cI = cA := by
  have h0 := (h.2 0 _ rfl).2
  have h2 := (h.2 3 _ rfl).2
  exact Option.some.inj (h0.symm.trans h2)
theorem ks_byte {D : va_G} {cl : List vw_C} {cI cB cZ cA : ClassId} {s : State} (h : va_K D cl ([(cI, .int), (cB, .byte), (cZ, .boolean)] ++ [(cA, .byte)]) s) : cB = cA := by
  have h0 := (h.2 1 _ rfl).2
  have h2 := (h.2 3 _ rfl).2
  exact Option.some.inj (h0.symm.trans h2)
theorem ks_bool {D : va_G} {cl : List vw_C} {cI cB cZ cA : ClassId} {s : State} (h : va_K D cl ([(cI, .int), (cB, .byte), (cZ, .boolean)] ++ [(cA, .boolean)]) s) : cZ = cA := by
  have h0 := (h.2 2 _ rfl).2
  have h2 := (h.2 3 _ rfl).2
  exact Option.some.inj (h0.symm.trans h2)
/-! the static row MARK -/
def kMk : Nat → Value := fun j => match j with
  | 0 => .int 77
  | 1 => .int 68
  | _ => .int 1
def kM (tM : Nat) (A : Nat → Prop) (U : State) (H : Heap) : Prop := va_Z "DemoTape" "MARK" "[I" (.ref tM) A U H ∧ va_T .int tM 3 kMk A U H ∧ va_Nw nwW U ∧ va_Nw nwR U ∧ va_Nw nwI U
def kps (D : va_G) (cl : List vw_C) (tys : List (ClassId × FieldType)) (ws : va_W) (sz tM : Nat) : State → Prop := fun U => kp D cl tys ws sz U ∧ kM tM (va_A ws sz) U U.heap
section KS
variable {s : State} {H : Heap} {locs : List Loc} {D : va_G} {cl : List vw_C} {tys : List (ClassId × FieldType)} {ws wc : va_W} {A : Nat → Prop} {tM : Nat}
theorem kps_blind {As : List Value} {sz : Nat} : FrameBlind (va_Pc As (kps D cl tys ws sz tM)) := by
  intro a U g mk q
  obtain ⟨q0, ⟨q1, qP, qK, qD⟩, qZ, qT, q1n, q2n, q3n⟩ := q
  exact ⟨q0, ⟨q1, qP, va_K.moved (u := U) (U := U.calling g mk a) (Vm.Alike.refl U.vm) qK, qD⟩, va_Z.moved (u := U) (U := U.calling g mk a) (Vm.Alike.refl U.vm) qZ, va_T.moved (u := U) (U := U.calling g mk a) (Vm.Alike.refl U.vm) qT, va_Nw.same rfl (U := U.calling g mk a) rfl q1n, va_Nw.same rfl (U := U.calling g mk a) rfl q2n, va_Nw.same rfl (U := U.calling g mk a) rfl q3n⟩
theorem kM.pass {U : State} (h : kM tM A s s.heap) (hS : va_S A s.heap H locs) (hF : ∀ q, va_A wc H.size q → A q) (hW : s.WarmedH U.vm) (hU : U.heap = H) : kM tM (va_A wc H.size) U U.heap := by
  rw [hU]
  exact ⟨((h.1.kept (fun a ha hn => hS.2.1 a ha hn)).narrow hF).moved hW.alike, ((h.2.1.kept (fun a ha hn => hS.2.1 a ha hn)).narrow hF).moved hW.alike, va_Nw.warmF hW h.2.2.1, va_Nw.warmF hW h.2.2.2.1, va_Nw.warmM hW h.2.2.2.2⟩
theorem kps_of {As : List Value} (hK : va_K D cl tys s) (hP : va_P D cl wc H) (hD : va_D A wc) (hMk : kM tM A s s.heap) (hS : va_S A s.heap H locs) (hF : ∀ q, va_A wc H.size q → A q) : ∀ U : State, U.heap = H → s.WarmedH U.vm → va_Pc As (kps D cl tys wc H.size tM) As.toArray U := by
  intro U hU hW
  exact ⟨rfl, (kp_of (As := As) hK hP hD U hU hW).2, hMk.pass hS hF hW hU⟩
theorem kpsS {As : List Value} (hK : va_K D cl tys s) (hP : va_P D cl ws H) (hD : va_D A ws) (hMk : kM tM A s s.heap) (hS : va_S A s.heap H locs) (hA : ∀ q, s.heap.size ≤ q → A q) (isC : List Nat) (h1 : isC.filterMap (fun i => ws[i]?) = wc) (hn : va_nd isC = true) (h2 : isC.map (fun i => ws[i]?) = wc.map some) : PreS s H (va_Pc As (kps D cl tys wc H.size tM)) As :=
  ⟨kps_blind, kps_of hK (hP.sub isC h1) (hD.sub isC hn h2) hMk hS (va_free hD hS hA isC h2)⟩
theorem kpsV {As : List Value} {b q0 ci : Nat} {q : vw_C} {fs : List Value} (hK : va_K D cl tys s) (hP : va_P D cl ws H) (hD : va_D A ws) (hMk : kM tM A s s.heap) (hS : va_S A s.heap H locs) (hA : ∀ q, s.heap.size ≤ q → A q) (isC : List Nat) (h1 : isC.filterMap (fun i => ws[i]?) = wc) (hn : va_nd isC = true) (h2 : isC.map (fun i => ws[i]?) = wc.map some) (hc : cl[ci]? = some q) (he : ws[q0]? = some (b, .inr (ci, fs))) : PreV s H q.1 b (va_Pc (.ref b :: As) (kps D cl tys wc H.size tM)) As :=
  ⟨kps_blind, va_recv hK hP hc he, kps_of hK (hP.sub isC h1) (hD.sub isC hn h2) hMk hS (va_free hD hS hA isC h2)⟩
end KS
end
section
/-! Pure words: rows of ints and of bytes as lists, an INPUT's code, groups, check. -/
def Hold (f : Nat → Int32) (L : List Int32) : Prop := ∀ (i : Nat) (h : i < L.length), f i = L[i]
theorem Hold.nil {f : Nat → Int32} : Hold f [] := fun i h => absurd h (Nat.not_lt_zero i)
theorem Hold.push {f : Nat → Int32} {L : List Int32} (h : Hold f L) (c : Int32) : Hold (upd f L.length c) (L ++ [c]) := by
  intro i hi
  simp only [List.length_append, List.length_cons, List.length_nil] at hi
  by_cases hc : i = L.length
  · subst hc; simp [upd]
  · have h2 : i < L.length := by omega
    rw [List.getElem_append_left h2]
    simp only [upd, if_neg hc]
    exact h i h2
theorem Hold.take {f : Nat → Int32} {L : List Int32} (h : Hold f L) (n : Nat) : Hold f (L.take n) := by
  intro i hi
  rw [List.getElem_take]
  exact h i _
theorem Hold.at {f : Nat → Int32} {L : List Int32} (h : Hold f L) {j : Nat} (hj : j < L.length) : f j = (L[j]?).getD (-1) := by
  rw [List.getElem?_eq_getElem hj]; exact h j hj
/-- the row's place i, -1 where there is none -/
def kGet (L : List Int32) (i : Int32) : Int32 := if i < 0 then -1 else (L[i.toNatClampNeg]?).getD (-1)
theorem kGet_nI {L : List Int32} {j : Nat} (hj : j < 2 ^ 31) : kGet L (nI j) = (L[j]?).getD (-1) := by
  unfold kGet; rw [if_neg (nI_pos hj), nI_clamp hj]
theorem kGet_neg {L : List Int32} {i : Int32} (h : i < 0) : kGet L i = -1 := by unfold kGet; rw [if_pos h]
/-- bytes -/
def HoldB (f : Nat → Int32) (L : List Nat) : Prop := ∀ (i : Nat) (h : i < L.length), f i = sb_b L[i]
def Byt (L : List Nat) : Prop := ∀ b ∈ L, b < 256
theorem HoldB.nil {f : Nat → Int32} : HoldB f [] := fun i h => absurd h (Nat.not_lt_zero i)
theorem HoldB.push {f : Nat → Int32} {L : List Nat} (h : HoldB f L) {b : Nat} {x : Int32} (hx : x = sb_b b) : HoldB (upd f L.length x) (L ++ [b]) := by
  intro i hi
  simp only [List.length_append, List.length_cons, List.length_nil] at hi
  by_cases hc : i = L.length
  · subst hc; simp [upd, hx]
  · have h2 : i < L.length := by omega
    rw [List.getElem_append_left h2]
    simp only [upd, if_neg hc]
    exact h i h2
theorem HoldB.take {f : Nat → Int32} {L : List Nat} (h : HoldB f L) (n : Nat) : HoldB f (L.take n) := by
  intro i hi
  rw [List.getElem_take]
  exact h i _
theorem HoldB.set {f : Nat → Int32} {L : List Nat} (h : HoldB f L) {k b : Nat} {x : Int32} (hx : x = sb_b b) : HoldB (upd f k x) (L.set k b) := by
  intro i hi
  simp only [List.length_set] at hi
  rw [List.getElem_set]
  by_cases hc : i = k
  · subst hc; simp [upd, hx]
  · rw [if_neg (fun q => hc q.symm)]
    simp only [upd, if_neg hc]
    exact h i hi
theorem HoldB.cpy {f g : Nat → Int32} {L : List Nat} (h : HoldB f L) : HoldB (va_cpy f g 0 0 L.length) L := by
  intro i hi
  rw [sb_cpy0 hi]
  exact h i hi
theorem Byt.nil : Byt [] := fun b h => absurd h List.not_mem_nil
theorem Byt.app {L M : List Nat} (h : Byt L) (h2 : Byt M) : Byt (L ++ M) := by
  intro b hb
  rcases List.mem_append.mp hb with q | q
  · exact h b q
  · exact h2 b q
theorem Byt.take {L : List Nat} (h : Byt L) (n : Nat) : Byt (L.take n) := fun b hb => h b (List.mem_of_mem_take hb)
theorem Byt.set {L : List Nat} (h : Byt L) {k b : Nat} (hb : b < 256) : Byt (L.set k b) := by
  intro x hx
  rcases List.mem_or_eq_of_mem_set hx with q | q
  · exact h x q
  · rw [q]; exact hb
def kGetB (L : List Nat) (i : Int32) : Int32 := if i < 0 then -1 else ((L[i.toNatClampNeg]?).map nI).getD (-1)
theorem kGetB_nI {L : List Nat} {j : Nat} (hj : j < 2 ^ 31) : kGetB L (nI j) = ((L[j]?).map nI).getD (-1) := by
  unfold kGetB; rw [if_neg (nI_pos hj), nI_clamp hj]
theorem kGetB_neg {L : List Nat} {i : Int32} (h : i < 0) : kGetB L i = -1 := by unfold kGetB; rw [if_pos h]
theorem HoldB.at {f : Nat → Int32} {L : List Nat} (h : HoldB f L) (hb : Byt L) {j : Nat} (hj : j < L.length) : f j &&& 255 = ((L[j]?).map nI).getD (-1) := by
  rw [List.getElem?_eq_getElem hj, h j hj]
  exact (sb_byte _ (hb _ (List.getElem_mem hj))).1
/-- the lowest n bytes of V, the highest of them first -/
def lowB (V : Nat) : Nat → List Nat
  | 0 => []
  | k + 1 => (V / 2 ^ (8 * k) % 256) :: lowB V k
theorem lowB_len (V n : Nat) : (lowB V n).length = n := by
  induction n with
  | zero => rfl
  | succ n ih => simp [lowB, ih]
theorem lowB_byt (V n : Nat) : Byt (lowB V n) := by
  induction n with
  | zero => exact Byt.nil
  | succ n ih =>
    intro b hb
    rcases List.mem_cons.mp hb with q | q
    · rw [q]; exact Nat.mod_lt _ (by decide)
    · exact ih b q
def lNat (v : Int64) : Nat := uN v
/-- codes -/
def kCode (u a b t : Int32) : Int32 := (((if u = 0 then 0 else 16777216) ||| a <<< ((16 : Int32) &&& 31)) ||| b <<< ((8 : Int32) &&& 31)) ||| t
def kUse (c : Int32) : Int32 := if c &&& 16777216 = 0 then 0 else 1
def kAhead (c : Int32) : Int32 := c >>> ((16 : Int32) &&& 31) &&& 255
def kAside (c : Int32) : Int32 := c >>> ((8 : Int32) &&& 31) &&& 255
def kTurn (c : Int32) : Int32 := c &&& 255
def kSide (c : Int32) : Int32 := if kAside c = 64 ∧ kTurn c = 16 then 0 else 1
def kStart (x y g t w : Int32) : Int32 := if w = 0 then x else if w = 1 then y else if w = 2 then g else if w = 3 then t else 100000
/-- how many of them use -/
def kUses (L : List Int32) : Nat := L.countP (fun c => decide (kUse c ≠ 0))
/-- the groups, from a run of n of the first one's like on -/
def kGr : Nat → List Int32 → List (Int32 × Nat)
  | _, [] => []
  | n, c :: cs => if n + 1 = 63 ∨ (cs[0]?).getD (-1) ≠ c then (c, n + 1) :: kGr 0 cs else kGr (n + 1) cs
/-- a group's bytes -/
def kGB (q : Int32 × Nat) : List Nat := lowB (lNat ((nI q.2 + (if kUse q.1 = 0 then 0 else 64)) + (if kSide q.1 = 0 then 0 else 128)).toInt64) 1 ++ lowB (lNat (kAhead q.1).toInt64) 1 ++ (if kSide q.1 = 0 then [] else lowB (lNat (kAside q.1).toInt64) 1 ++ lowB (lNat (kTurn q.1).toInt64) 1)
/-- the check's two numbers -/
def kCk : List Nat → Nat × Nat → Nat × Nat
  | [], q => q
  | b :: bs, q => kCk bs ((q.1 + b) % 65521, (q.2 + (q.1 + b) % 65521) % 65521)
def kChk (L : List Nat) : Int32 := nI (kCk L (1, 0)).2 <<< ((16 : Int32) &&& 31) ||| nI (kCk L (1, 0)).1
theorem kCk_snoc (L : List Nat) (b : Nat) : ∀ q, kCk (L ++ [b]) q = (((kCk L q).1 + b) % 65521, ((kCk L q).2 + ((kCk L q).1 + b) % 65521) % 65521) := by
  induction L with
  | nil => intro q; rfl
  | cons x xs ih => intro q; simp only [List.cons_append, kCk]; exact ih _
theorem kCk_lt (L : List Nat) : ∀ q : Nat × Nat, q.1 < 65521 → q.2 < 65521 → (kCk L q).1 < 65521 ∧ (kCk L q).2 < 65521 := by
  induction L with
  | nil => intro q h1 h2; exact ⟨h1, h2⟩
  | cons x xs ih => intro q h1 h2; exact ih _ (Nat.mod_lt _ (by decide)) (Nat.mod_lt _ (by decide))
def kIn (v lo hi : Int32) : Int32 := if lo ≤ v ∧ v ≤ hi then 1 else 0
def WRow (f : Nat → Int32) (L : List Int32) : Prop := Hold f L ∧ L.length ≤ 1024
def BRow (cap : Nat) (f : Nat → Int32) (L : List Nat) : Prop := HoldB f L ∧ Byt L ∧ L.length ≤ cap ∧ cap ≤ 8192
theorem BRow.push {cap : Nat} {f : Nat → Int32} {L : List Nat} (h : BRow cap f L) {b : Nat} {x : Int32} (hx : x = sb_b b) (hb : b < 256) (hl : L.length + 1 ≤ cap) : BRow cap (upd f L.length x) (L ++ [b]) :=
  ⟨h.1.push hx, h.2.1.app (fun z hz => by rw [List.mem_singleton.mp hz]; exact hb), by rw [List.length_append]; exact hl, h.2.2.2⟩
theorem kStart_out {x y g t w : Int32} (h : w.toInt < 0 ∨ 3 < w.toInt) : kStart x y g t w = 100000 := by
  unfold kStart
  have k : ∀ n : Int32, 0 ≤ n.toInt → n.toInt ≤ 3 → w ≠ n := fun n h1 h2 q => by rw [q] at h; omega
  rw [if_neg (k 0 (by decide) (by decide)), if_neg (k 1 (by decide) (by decide)), if_neg (k 2 (by decide) (by decide)), if_neg (k 3 (by decide) (by decide))]
theorem kTake_0 {L : List Int32} {ia : Nat} : L ++ (L.drop ia).take 0 = L := by rw [List.take_zero, List.append_nil]
theorem kTake_succ {L : List Int32} {ia j : Nat} (h : ia + j < L.length) : (L ++ (L.drop ia).take j) ++ List.replicate 1 ((L[ia + j]?).getD (-1)) = (L ++ (L.drop ia).take (j + 1)) := by
  rw [List.append_assoc]
  congr 1
  have h2 : j < (L.drop ia).length := by rw [List.length_drop]; omega
  rw [List.take_succ_eq_append_getElem h2, List.getElem?_eq_getElem h]
  simp
theorem drop_cons {L : List Int32} {j : Nat} (h : j < L.length) : L.drop j = (L[j]?).getD (-1) :: L.drop (j + 1) := by
  rw [List.getElem?_eq_getElem h]; exact List.drop_eq_getElem_cons h
theorem take_snoc {L : List Int32} {j : Nat} (h : j < L.length) : L.take (j + 1) = L.take j ++ [(L[j]?).getD (-1)] := by
  rw [List.getElem?_eq_getElem h]; exact List.take_succ_eq_append_getElem h
theorem kUses_n {L : List Int32} {j : Nat} (h : j < L.length) (h0 : kUse ((L[j]?).getD (-1)) = 0) : kUses (L.take (j + 1)) = kUses (L.take j) := by
  rw [take_snoc h]; unfold kUses; rw [List.countP_append]; simp [List.countP_cons, h0]
theorem kUses_y {L : List Int32} {j : Nat} (h : j < L.length) (h0 : ¬ kUse ((L[j]?).getD (-1)) = 0) : kUses (L.take (j + 1)) = kUses (L.take j) + 1 := by
  rw [take_snoc h]; unfold kUses; rw [List.countP_append]; simp [List.countP_cons, h0]
def kEnd (L : List Int32) (j k : Nat) : Int32 := if k = 63 ∨ (L[j + 1]?).getD (-1) ≠ (L[j]?).getD (-1) then 1 else 0
theorem kGr_n {L : List Int32} {j n : Nat} (h : j < L.length) (h0 : kEnd L j (n + 1) = 0) : kGr n (L.drop j) = kGr (n + 1) (L.drop (j + 1)) := by
  rw [drop_cons h]
  unfold kEnd at h0
  have hc : ¬ (n + 1 = 63 ∨ (L[j + 1]?).getD (-1) ≠ (L[j]?).getD (-1)) := fun q => by rw [if_pos q] at h0; exact absurd h0 (by decide)
  rw [kGr]
  rw [if_neg]
  rw [List.getElem?_drop]
  exact hc
theorem kGr_y {L : List Int32} {j n : Nat} (h : j < L.length) (h0 : ¬ kEnd L j (n + 1) = 0) : kGr n (L.drop j) = ((L[j]?).getD (-1), n + 1) :: kGr 0 (L.drop (j + 1)) := by
  rw [drop_cons h]
  unfold kEnd at h0
  have hc : (n + 1 = 63 ∨ (L[j + 1]?).getD (-1) ≠ (L[j]?).getD (-1)) := Decidable.byContradiction (fun q => h0 (if_neg q))
  rw [kGr]
  rw [if_pos]
  rw [List.getElem?_drop]
  exact hc
def iByte (b : Int32) : Nat := b.toBitVec.toNat % 256
theorem sb8 (n : Nat) : (sb_b n).toInt8.toInt32 = sb_b n := by
  have := pk_vb (nI n); rw [vp_nar_byte] at this; exact this
theorem i8_mod (x : Int32) : x.toInt8.toInt32 = sb_b (iByte x) :=
  (sc_eq (by have := pk_vb x; rwa [vp_nar_byte] at this) (Nat.mod_lt _ (by decide))).mpr ((bp_b x).trans (pk_and x 8 (by decide)))
theorem l2i_mod (y : Int64) : y.toInt32.toBitVec.toNat = uN y % 2 ^ 32 := by
  rw [Int64.toBitVec_toInt32]
  rw [BitVec.signExtend_eq_setWidth_of_le _ (by decide), BitVec.toNat_setWidth]
  rfl
theorem lNat_byte (v : Int64) (k : Nat) (hk : k < 8) : (v.toUInt64 >>> ((nI (8 * k)).toInt64.toUInt64 &&& Int64.toUInt64 63)).toInt64.toInt32.toInt8.toInt32 = sb_b (lNat v / 2 ^ (8 * k) % 256) := by
  rw [i8_mod]
  congr 1
  unfold iByte
  rw [l2i_mod, uN_sk v (by omega)]
  unfold lNat
  omega
theorem iByte_sb (v : Int32) : v.toInt8.toInt32.toInt8.toInt32 = sb_b (iByte v) := by rw [i8_mod v, sb8]
theorem kq0 {q : Nat} (h : nI q - 1 < 0) (hq : q < 2 ^ 31) : q = 0 := by
  rcases Nat.eq_zero_or_pos q with h0 | h0
  · exact h0
  · exfalso
    obtain ⟨z, rfl⟩ : ∃ z, q = z + 1 := ⟨q - 1, by omega⟩
    rw [nI_pred] at h
    exact nI_pos (by omega) h
theorem kq1 {q : Nat} (h : ¬ nI q - 1 < 0) : ∃ z, q = z + 1 := by
  rcases Nat.eq_zero_or_pos q with h0 | h0
  · subst h0; exact absurd (by decide) h
  · exact ⟨q - 1, by omega⟩
theorem kGetB_at {L : List Nat} {j : Nat} (h : j < L.length) (hj : j < 2 ^ 31) : kGetB L (nI j) = nI (L.getD j 0) := by
  rw [kGetB_nI hj, List.getElem?_eq_getElem h, List.getD_eq_getElem?_getD, List.getElem?_eq_getElem h]; rfl
theorem Byt.getD {L : List Nat} (h : Byt L) (j : Nat) : L.getD j 0 < 256 := by
  rw [List.getD_eq_getElem?_getD]
  by_cases hj : j < L.length
  · rw [List.getElem?_eq_getElem hj]; exact h _ (List.getElem_mem hj)
  · rw [List.getElem?_eq_none (by omega)]; exact (by decide : (0 : Nat) < 256)
theorem kCk_step {L : List Nat} {j a b : Nat} (he : kCk (L.take j) (1, 0) = (a, b)) (hj : j < L.length) : kCk (L.take (j + 1)) (1, 0) = ((a + L.getD j 0) % 65521, (b + (a + L.getD j 0) % 65521) % 65521) := by
  rw [List.take_succ_eq_append_getElem hj, kCk_snoc, he, List.getD_eq_getElem?_getD, List.getElem?_eq_getElem hj]; rfl
/-! READING, as the class does it: (next, n of the group ahead, fault, place) -/
abbrev RS : Type := Nat × Nat × Int32 × Int32
def rNx (q : RS) : Nat := q.1
def rAn (q : RS) : Nat := q.2.1
def rFt (q : RS) : Int32 := q.2.2.1
def rPl (q : RS) : Int32 := q.2.2.2
def rFail (nf p0 : Int32) (q : RS) : RS := if rFt q = 0 then (rNx q, rAn q, nf, p0) else q
theorem rFail_y {nf p0 : Int32} {q : RS} (h : rFt q = 0) : rFail nf p0 q = (rNx q, rAn q, nf, p0) := if_pos h
theorem rFail_n {nf p0 : Int32} {q : RS} (h : ¬ rFt q = 0) : rFail nf p0 q = q := if_neg h
theorem rFail_nx (nf p0 : Int32) (q : RS) : rNx (rFail nf p0 q) = rNx q := by unfold rFail; split <;> rfl
theorem rFail_an (nf p0 : Int32) (q : RS) : rAn (rFail nf p0 q) = rAn q := by unfold rFail; split <;> rfl
def tTake (L : List Nat) (mo : Int32) (q : RS) : Int32 × RS := if rFt q = 0 then (if kGetB L (nI (rNx q)) = -1 then (-1, rFail 1 (nI (rNx q)) q) else if kGetB L (nI (rNx q)) ≤ mo then (kGetB L (nI (rNx q)), (rNx q + 1, rAn q, rFt q, rPl q)) else (-1, rFail 3 (nI (rNx q)) q)) else (-1, q)
theorem tTake_f {L : List Nat} {mo : Int32} {q : RS} (h : ¬ rFt q = 0) : tTake L mo q = (-1, q) := if_neg h
theorem tTake_e {L : List Nat} {mo : Int32} {q : RS} (h : rFt q = 0) (h1 : kGetB L (nI (rNx q)) = -1) : tTake L mo q = (-1, rFail 1 (nI (rNx q)) q) := by unfold tTake; rw [if_pos h, if_pos h1]
theorem tTake_b {L : List Nat} {mo : Int32} {q : RS} (h : rFt q = 0) (h1 : ¬ kGetB L (nI (rNx q)) = -1) (h2 : ¬ kGetB L (nI (rNx q)) ≤ mo) : tTake L mo q = (-1, rFail 3 (nI (rNx q)) q) := by unfold tTake; rw [if_pos h, if_neg h1, if_neg h2]
theorem tTake_k {L : List Nat} {mo : Int32} {q : RS} (h : rFt q = 0) (h1 : ¬ kGetB L (nI (rNx q)) = -1) (h2 : kGetB L (nI (rNx q)) ≤ mo) : tTake L mo q = (kGetB L (nI (rNx q)), (rNx q + 1, rAn q, rFt q, rPl q)) := by unfold tTake; rw [if_pos h, if_neg h1, if_pos h2]
theorem tTake_nx {L : List Nat} {q : RS} (mo : Int32) (hq : rNx q ≤ L.length) (hL : L.length ≤ 8192) : rNx (tTake L mo q).2 ≤ L.length := by
  by_cases h : rFt q = 0
  · by_cases h1 : kGetB L (nI (rNx q)) = -1
    · rw [tTake_e h h1]; show rNx (rFail 1 _ q) ≤ _; rw [rFail_nx]; exact hq
    · by_cases h2 : kGetB L (nI (rNx q)) ≤ mo
      · rw [tTake_k h h1 h2]
        show rNx q + 1 ≤ _
        rcases Nat.lt_or_ge (rNx q) L.length with q2 | q2
        · exact q2
        · exact absurd (by rw [kGetB_nI (by omega), List.getElem?_eq_none q2]; rfl) h1
      · rw [tTake_b h h1 h2]; show rNx (rFail 3 _ q) ≤ _; rw [rFail_nx]; exact hq
  · rw [tTake_f h]; exact hq
theorem tTake_an (L : List Nat) (mo : Int32) (q : RS) : rAn (tTake L mo q).2 = rAn q := by
  by_cases h : rFt q = 0
  · by_cases h1 : kGetB L (nI (rNx q)) = -1
    · rw [tTake_e h h1]; exact rFail_an _ _ _
    · by_cases h2 : kGetB L (nI (rNx q)) ≤ mo
      · rw [tTake_k h h1 h2]; rfl
      · rw [tTake_b h h1 h2]; exact rFail_an _ _ _
  · rw [tTake_f h]
def tOnly (L : List Nat) (due nf : Int32) (q : RS) : RS := if (tTake L 255 q).1 = due then (tTake L 255 q).2 else rFail nf (nI (rNx q)) (tTake L 255 q).2
theorem tOnly_y {L : List Nat} {due nf : Int32} {q : RS} (h : (tTake L 255 q).1 = due) : tOnly L due nf q = (tTake L 255 q).2 := if_pos h
theorem tOnly_n {L : List Nat} {due nf : Int32} {q : RS} (h : ¬ (tTake L 255 q).1 = due) : tOnly L due nf q = rFail nf (nI (rNx q)) (tTake L 255 q).2 := if_neg h
theorem tOnly_nx {L : List Nat} {q : RS} (due nf : Int32) (hq : rNx q ≤ L.length) (hL : L.length ≤ 8192) : rNx (tOnly L due nf q) ≤ L.length := by
  unfold tOnly; split
  · exact tTake_nx _ hq hL
  · rw [rFail_nx]; exact tTake_nx _ hq hL
def tMark (L : List Nat) (q : RS) : RS := tOnly L 1 2 (tOnly L 68 2 (tOnly L 77 2 q))
theorem tMark_nx {L : List Nat} {q : RS} (hq : rNx q ≤ L.length) (hL : L.length ≤ 8192) : rNx (tMark L q) ≤ L.length := tOnly_nx _ _ (tOnly_nx _ _ (tOnly_nx _ _ hq hL) hL) hL
def kPlace (h l0 : Int32) : Int32 := if h * 256 + l0 ≤ 32767 then h * 256 + l0 else h * 256 + l0 - 65536
def tPlace (L : List Nat) (q : RS) : Int32 × RS := (kPlace (tTake L 255 q).1 (tTake L 255 (tTake L 255 q).2).1, (tTake L 255 (tTake L 255 q).2).2)
theorem tPlace_nx {L : List Nat} {q : RS} (hq : rNx q ≤ L.length) (hL : L.length ≤ 8192) : rNx (tPlace L q).2 ≤ L.length := tTake_nx _ (tTake_nx _ hq hL) hL
/-- the start's four, then the state -/
def tS1 (L : List Nat) (q : RS) : RS := (tPlace L q).2
def tS2 (L : List Nat) (q : RS) : RS := (tPlace L (tS1 L q)).2
def tS3 (L : List Nat) (q : RS) : RS := (tTake L 63 (tS2 L q)).2
def tS4 (L : List Nat) (q : RS) : RS := (tTake L 255 (tS3 L q)).2
theorem tS4_nx {L : List Nat} {q : RS} (hq : rNx q ≤ L.length) (hL : L.length ≤ 8192) : rNx (tS4 L q) ≤ L.length := tTake_nx _ (tTake_nx _ (tPlace_nx (tPlace_nx hq hL) hL) hL) hL
def tCode (L : List Nat) (fi : Int32) (q : RS) : Int32 × RS :=
  let q1 := (tTake L 128 q).2
  if fi &&& 128 = 0 then (kCode (if fi &&& 64 = 0 then 0 else 1) (tTake L 128 q).1 64 16, q1)
  else
    let q2 := (tTake L 128 q1).2
    let q3 := (tTake L 32 q2).2
    (kCode (if fi &&& 64 = 0 then 0 else 1) (tTake L 128 q).1 (tTake L 128 q1).1 (tTake L 32 q2).1,
      if (tTake L 128 q1).1 = 64 ∧ (tTake L 32 q2).1 = 16 then rFail 3 (nI (rNx q2)) q3 else q3)
theorem tCode_nx {L : List Nat} {fi : Int32} {q : RS} (hq : rNx q ≤ L.length) (hL : L.length ≤ 8192) : rNx (tCode L fi q).2 ≤ L.length := by
  unfold tCode
  dsimp only
  split
  · exact tTake_nx _ hq hL
  · dsimp only
    have h3 := tTake_nx 32 (tTake_nx 128 (tTake_nx 128 hq hL) hL) hL
    split
    · rw [rFail_nx]; exact h3
    · exact h3
def kN (b : Int32) : Nat := (b &&& 63).toNatClampNeg
theorem kN_ex (b : Int32) : kN b < 64 ∧ b &&& 63 = nI (kN b) := by
  obtain ⟨j, hj, e⟩ := pk_andE b (m := 63) 6 (by decide)
  have h2 : kN b = j := by unfold kN; rw [e]; exact nI_clamp (by omega)
  rw [h2]; exact ⟨by omega, e⟩
theorem kN_eq (b : Int32) : b &&& 63 = nI (kN b) := (kN_ex b).2
theorem kN_le (b : Int32) : kN b ≤ 63 := Nat.le_of_lt_succ (kN_ex b).1
/-- a group: 1 if it goes on; the codes; the state -/
def tG2 (L : List Nat) (q : RS) : RS := if kN (tTake L 255 q).1 = 0 then rFail 3 (nI (rNx q)) (tTake L 255 q).2 else (tTake L 255 q).2
def tG3 (L : List Nat) (M : List Int32) (q : RS) : RS := if kN (tTake L 255 q).1 ≤ 1024 - M.length then tG2 L q else rFail 5 (nI (rNx q)) (tG2 L q)
def tG4 (L : List Nat) (M : List Int32) (q : RS) : Int32 × RS := tCode L (tTake L 255 q).1 (tG3 L M q)
def tG5 (L : List Nat) (M : List Int32) (q : RS) : RS := if rAn (tG4 L M q).2 < 63 ∧ kGet M (nI M.length - 1) = (tG4 L M q).1 then rFail 4 (nI (rNx q)) (tG4 L M q).2 else (tG4 L M q).2
def tGroup (L : List Nat) (M : List Int32) (q : RS) : Int32 × List Int32 × RS :=
  if (tTake L 255 q).1 = -1 ∨ (tTake L 255 q).1 = 0 then (0, M, (tTake L 255 q).2)
  else if rFt (tG5 L M q) = 0 then (1, M ++ List.replicate (kN (tTake L 255 q).1) (tG4 L M q).1, (rNx (tG5 L M q), kN (tTake L 255 q).1, rFt (tG5 L M q), rPl (tG5 L M q))) else (0, M, tG5 L M q)
def tGroups (L : List Nat) : Nat → List Int32 → RS → List Int32 × RS
  | 0, M, q => (M, q)
  | n + 1, M, q => if (tGroup L M q).1 = 0 then ((tGroup L M q).2.1, (tGroup L M q).2.2) else tGroups L n (tGroup L M q).2.1 (tGroup L M q).2.2
def kByteOf (x : Int32) (k : Nat) : Int32 := ((x.toUInt32 >>> ((nI (8 * k)).toUInt32 &&& Int32.toUInt32 31)).toInt32) &&& 255
def tCheck (L : List Nat) (q : RS) : RS :=
  let x := kChk (L.take (rNx q))
  tOnly L (kByteOf x 0) 6 (tOnly L (kByteOf x 1) 6 (tOnly L (kByteOf x 2) 6 (tOnly L (kByteOf x 3) 6 q)))
theorem tCheck_nx {L : List Nat} {q : RS} (hq : rNx q ≤ L.length) (hL : L.length ≤ 8192) : rNx (tCheck L q) ≤ L.length := tOnly_nx _ _ (tOnly_nx _ _ (tOnly_nx _ _ (tOnly_nx _ _ hq hL) hL) hL) hL
def tEnd (L : List Nat) (q : RS) : RS := if rNx q < L.length then rFail 7 (nI (rNx q)) q else q
theorem tCode_s {L : List Nat} {fi : Int32} {q : RS} (h : fi &&& 128 = 0) : tCode L fi q = (kCode (if fi &&& 64 = 0 then 0 else 1) (tTake L 128 q).1 64 16, (tTake L 128 q).2) := if_pos h
theorem tCode_v {L : List Nat} {fi : Int32} {q : RS} (h : ¬ fi &&& 128 = 0) : (tCode L fi q).1 = kCode (if fi &&& 64 = 0 then 0 else 1) (tTake L 128 q).1 (tTake L 128 (tTake L 128 q).2).1 (tTake L 32 (tTake L 128 (tTake L 128 q).2).2).1 := by unfold tCode; dsimp only; rw [if_neg h]
theorem tCode_w {L : List Nat} {fi : Int32} {q : RS} (h : ¬ fi &&& 128 = 0) : (tCode L fi q).2 = if (tTake L 128 (tTake L 128 q).2).1 = 64 ∧ (tTake L 32 (tTake L 128 (tTake L 128 q).2).2).1 = 16 then rFail 3 (nI (rNx (tTake L 128 (tTake L 128 q).2).2)) (tTake L 32 (tTake L 128 (tTake L 128 q).2).2).2 else (tTake L 32 (tTake L 128 (tTake L 128 q).2).2).2 := by unfold tCode; dsimp only; rw [if_neg h]
theorem tCode_f {L : List Nat} {fi : Int32} {q : RS} (h : ¬ fi &&& 128 = 0) (h2 : (tTake L 128 (tTake L 128 q).2).1 = 64 ∧ (tTake L 32 (tTake L 128 (tTake L 128 q).2).2).1 = 16) : (tCode L fi q).2 = rFail 3 (nI (rNx (tTake L 128 (tTake L 128 q).2).2)) (tTake L 32 (tTake L 128 (tTake L 128 q).2).2).2 := by rw [tCode_w h, if_pos h2]
theorem tCode_g {L : List Nat} {fi : Int32} {q : RS} (h : ¬ fi &&& 128 = 0) (h2 : ¬ ((tTake L 128 (tTake L 128 q).2).1 = 64 ∧ (tTake L 32 (tTake L 128 (tTake L 128 q).2).2).1 = 16)) : (tCode L fi q).2 = (tTake L 32 (tTake L 128 (tTake L 128 q).2).2).2 := by rw [tCode_w h, if_neg h2]

theorem tG2_y {L : List Nat} {q : RS} (h : kN (tTake L 255 q).1 = 0) : tG2 L q = rFail 3 (nI (rNx q)) (tTake L 255 q).2 := if_pos h
theorem tG2_n {L : List Nat} {q : RS} (h : kN (tTake L 255 q).1 ≠ 0) : tG2 L q = (tTake L 255 q).2 := if_neg h
theorem tG3_y {L : List Nat} {M : List Int32} {q : RS} (h : kN (tTake L 255 q).1 ≤ 1024 - M.length) : tG3 L M q = tG2 L q := if_pos h
theorem tG3_n {L : List Nat} {M : List Int32} {q : RS} (h : 1024 - M.length < kN (tTake L 255 q).1) : tG3 L M q = rFail 5 (nI (rNx q)) (tG2 L q) := if_neg (Nat.not_le.mpr h)
theorem tG5_y {L : List Nat} {M : List Int32} {q : RS} (h : rAn (tG4 L M q).2 < 63 ∧ kGet M (nI M.length - 1) = (tG4 L M q).1) : tG5 L M q = rFail 4 (nI (rNx q)) (tG4 L M q).2 := if_pos h
theorem tG5_n {L : List Nat} {M : List Int32} {q : RS} (h : ¬ (rAn (tG4 L M q).2 < 63 ∧ kGet M (nI M.length - 1) = (tG4 L M q).1)) : tG5 L M q = (tG4 L M q).2 := if_neg h
theorem tG2_nx {L : List Nat} {q : RS} (hq : rNx q ≤ L.length) (hL : L.length ≤ 8192) : rNx (tG2 L q) ≤ L.length := by
  unfold tG2; split
  · rw [rFail_nx]; exact tTake_nx _ hq hL
  · exact tTake_nx _ hq hL
theorem tG3_nx {L : List Nat} {M : List Int32} {q : RS} (hq : rNx q ≤ L.length) (hL : L.length ≤ 8192) : rNx (tG3 L M q) ≤ L.length := by
  unfold tG3; split
  · exact tG2_nx hq hL
  · rw [rFail_nx]; exact tG2_nx hq hL
theorem tCode_an (L : List Nat) (fi : Int32) (q : RS) : rAn (tCode L fi q).2 = rAn q := by
  by_cases h : fi &&& 128 = 0
  · rw [tCode_s h]; exact tTake_an _ _ _
  · rw [tCode_w h]
    split
    · rw [rFail_an, tTake_an, tTake_an, tTake_an]
    · rw [tTake_an, tTake_an, tTake_an]
theorem tG3_an (L : List Nat) (M : List Int32) (q : RS) : rAn (tG3 L M q) = rAn q := by
  have h2 : rAn (tG2 L q) = rAn q := by
    unfold tG2; split
    · rw [rFail_an, tTake_an]
    · rw [tTake_an]
  unfold tG3; split
  · exact h2
  · rw [rFail_an, h2]
theorem tG4_an (L : List Nat) (M : List Int32) (q : RS) : rAn (tCode L (tTake L 255 q).1 (tG3 L M q)).2 = rAn q := by rw [tCode_an, tG3_an]
theorem tGroup_0 {L : List Nat} {M : List Int32} {q : RS} (h : (tTake L 255 q).1 = -1 ∨ (tTake L 255 q).1 = 0) : tGroup L M q = (0, M, (tTake L 255 q).2) := if_pos h
theorem tGroup_f {L : List Nat} {M : List Int32} {q : RS} (h : ¬ ((tTake L 255 q).1 = -1 ∨ (tTake L 255 q).1 = 0)) (h5 : ¬ rFt (tG5 L M q) = 0) : tGroup L M q = (0, M, tG5 L M q) := by unfold tGroup; rw [if_neg h, if_neg h5]
theorem tGroup_k {L : List Nat} {M : List Int32} {q : RS} (h : ¬ ((tTake L 255 q).1 = -1 ∨ (tTake L 255 q).1 = 0)) (h5 : rFt (tG5 L M q) = 0) : tGroup L M q = (1, M ++ List.replicate (kN (tTake L 255 q).1) (tG4 L M q).1, (rNx (tG5 L M q), kN (tTake L 255 q).1, rFt (tG5 L M q), rPl (tG5 L M q))) := by unfold tGroup; rw [if_neg h, if_pos h5]
theorem rFail_ft {nf p0 : Int32} {q : RS} (hn : nf ≠ 0) : ¬ rFt (rFail nf p0 q) = 0 := by
  by_cases h : rFt q = 0
  · rw [rFail_y h]; exact hn
  · rw [rFail_n h]; exact h
theorem tTake_ft {L : List Nat} {mo : Int32} {q : RS} (h : ¬ rFt q = 0) : ¬ rFt (tTake L mo q).2 = 0 := by rw [tTake_f h]; exact h
theorem tCode_ft {L : List Nat} {fi : Int32} {q : RS} (h : ¬ rFt q = 0) : ¬ rFt (tCode L fi q).2 = 0 := by
  by_cases h8 : fi &&& 128 = 0
  · rw [tCode_s h8]; exact tTake_ft h
  · rw [tCode_w h8]
    split
    · exact rFail_ft (by decide)
    · exact tTake_ft (tTake_ft (tTake_ft h))
theorem tG5_ft {L : List Nat} {M : List Int32} {q : RS} (h : ¬ rFt (tG3 L M q) = 0) : ¬ rFt (tG5 L M q) = 0 := by
  unfold tG5; split
  · exact rFail_ft (by decide)
  · exact tCode_ft h
theorem tG5_room {L : List Nat} {M : List Int32} {q : RS} (_ : ¬ ((tTake L 255 q).1 = -1 ∨ (tTake L 255 q).1 = 0)) (h5 : rFt (tG5 L M q) = 0) : kN (tTake L 255 q).1 ≤ 1024 - M.length := by
  rcases Nat.lt_or_ge (1024 - M.length) (kN (tTake L 255 q).1) with h | h
  · exact absurd h5 (tG5_ft (by rw [tG3_n h]; exact rFail_ft (by decide)))
  · exact h
theorem tG5_nx {L : List Nat} {M : List Int32} {q : RS} (hq : rNx q ≤ L.length) (hL : L.length ≤ 8192) : rNx (tG5 L M q) ≤ L.length := by
  have h4 : rNx (tG4 L M q).2 ≤ L.length := tCode_nx (tG3_nx hq hL) hL
  unfold tG5; split
  · rw [rFail_nx]; exact h4
  · exact h4
theorem tG5_an (L : List Nat) (M : List Int32) (q : RS) : rAn (tG5 L M q) = rAn q := by
  unfold tG5; split
  · rw [rFail_an]; exact tG4_an _ _ _
  · exact tG4_an _ _ _
theorem tGroup_nx {L : List Nat} {M : List Int32} {q : RS} (hq : rNx q ≤ L.length) (hL : L.length ≤ 8192) : rNx (tGroup L M q).2.2 ≤ L.length := by
  unfold tGroup; split
  · exact tTake_nx _ hq hL
  · split
    · exact tG5_nx hq hL
    · exact tG5_nx hq hL
theorem tGroup_an {L : List Nat} {M : List Int32} {q : RS} (hq : rAn q ≤ 63) : rAn (tGroup L M q).2.2 ≤ 63 := by
  unfold tGroup; split
  · show rAn (tTake L 255 q).2 ≤ 63; rw [tTake_an]; exact hq
  · split
    · exact kN_le _
    · show rAn (tG5 L M q) ≤ 63; rw [tG5_an]; exact hq
theorem tGroups_step {L : List Nat} {M : List Int32} {q : RS} {n : Nat} (h : n < 1025) : tGroups L (1025 - n) M q = if (tGroup L M q).1 = 0 then ((tGroup L M q).2.1, (tGroup L M q).2.2) else tGroups L (1025 - (n + 1)) (tGroup L M q).2.1 (tGroup L M q).2.2 := by
  rw [show 1025 - n = (1025 - (n + 1)) + 1 by omega]; rfl
theorem tGroups_nx {L : List Nat} (hL : L.length ≤ 8192) : ∀ (n : Nat) (M : List Int32) (q : RS), rNx q ≤ L.length → rNx (tGroups L n M q).2 ≤ L.length := by
  intro n
  induction n with
  | zero => intro M q hq; exact hq
  | succ n ih =>
    intro M q hq
    rw [tGroups]; split
    · exact tGroup_nx hq hL
    · exact ih _ _ (tGroup_nx hq hL)
def q00 : RS := (0, 0, 0, -1)
def tQ1 (L : List Nat) : RS := tMark L q00
def tQ2 (L : List Nat) : RS := tS4 L (tQ1 L)
def tQ3 (L : List Nat) : List Int32 × RS := tGroups L 1025 [] (tQ2 L)
def tQ4 (L : List Nat) : RS := tCheck L (tQ3 L).2
def tRead (L : List Nat) : List Int32 × RS := ((tQ3 L).1, tEnd L (tQ4 L))
theorem tOnly_an (L : List Nat) (du nf : Int32) (q : RS) : rAn (tOnly L du nf q) = rAn q := by
  unfold tOnly; split
  · exact tTake_an _ _ _
  · rw [rFail_an, tTake_an]
theorem tS1_def (L : List Nat) (q : RS) : (tPlace L q).2 = tS1 L q := by unfold tS1; rfl
theorem tS2_def (L : List Nat) (q : RS) : (tPlace L (tS1 L q)).2 = tS2 L q := by unfold tS2; rfl
theorem tS3_def (L : List Nat) (q : RS) : (tTake L 63 (tS2 L q)).2 = tS3 L q := by unfold tS3; rfl
theorem tS4_def (L : List Nat) (q : RS) : (tTake L 255 (tS3 L q)).2 = tS4 L q := by unfold tS4; rfl
theorem tS1_nx {L : List Nat} {q : RS} (hq : rNx q ≤ L.length) (hL : L.length ≤ 8192) : rNx (tS1 L q) ≤ L.length := by rw [← tS1_def]; exact tPlace_nx hq hL
theorem tS2_nx {L : List Nat} {q : RS} (hq : rNx q ≤ L.length) (hL : L.length ≤ 8192) : rNx (tS2 L q) ≤ L.length := by rw [← tS2_def]; exact tPlace_nx (tS1_nx hq hL) hL
theorem tS3_nx {L : List Nat} {q : RS} (hq : rNx q ≤ L.length) (hL : L.length ≤ 8192) : rNx (tS3 L q) ≤ L.length := by rw [← tS3_def]; exact tTake_nx _ (tS2_nx hq hL) hL
theorem tQ1_def (L : List Nat) : tMark L q00 = tQ1 L := by unfold tQ1; rfl
theorem tQ2_def (L : List Nat) : tS4 L (tQ1 L) = tQ2 L := by unfold tQ2; rfl
theorem tQ3_def (L : List Nat) : tGroups L 1025 ([] : List Int32) (tQ2 L) = tQ3 L := by unfold tQ3; rfl
theorem tQ4_def (L : List Nat) : tCheck L (tQ3 L).2 = tQ4 L := by unfold tQ4; rfl
theorem tQ1_nx {L : List Nat} (hL : L.length ≤ 8192) : rNx (tQ1 L) ≤ L.length := by rw [← tQ1_def]; exact tMark_nx (Nat.zero_le _) hL
theorem tQ2_nx {L : List Nat} (hL : L.length ≤ 8192) : rNx (tQ2 L) ≤ L.length := by rw [← tQ2_def, ← tS4_def]; exact tTake_nx _ (tS3_nx (tQ1_nx hL) hL) hL
theorem tQ3_nx {L : List Nat} (hL : L.length ≤ 8192) : rNx (tQ3 L).2 ≤ L.length := by rw [← tQ3_def]; exact tGroups_nx hL _ _ _ (tQ2_nx hL)
theorem tQ4_nx {L : List Nat} (hL : L.length ≤ 8192) : rNx (tQ4 L) ≤ L.length := by rw [← tQ4_def]; exact tCheck_nx (tQ3_nx hL) hL
theorem tQ2_an (L : List Nat) : rAn (tQ2 L) = 0 := by
  rw [← tQ2_def, ← tS4_def, tTake_an, ← tS3_def, tTake_an, ← tS2_def]
  unfold tPlace
  dsimp only
  rw [tTake_an, tTake_an, ← tS1_def]
  unfold tPlace
  dsimp only
  rw [tTake_an, tTake_an, ← tQ1_def]
  unfold tMark
  rw [tOnly_an, tOnly_an, tOnly_an]
  rfl
theorem tRead_1 (L : List Nat) : (tRead L).1 = (tQ3 L).1 := by unfold tRead; dsimp only
theorem tRead_y {L : List Nat} (h : rNx (tQ4 L) < L.length) : (tRead L).2 = rFail 7 (nI (rNx (tQ4 L))) (tQ4 L) := by unfold tRead tEnd; dsimp only; rw [if_pos h]
theorem tRead_n {L : List Nat} (h : L.length ≤ rNx (tQ4 L)) : (tRead L).2 = tQ4 L := by unfold tRead tEnd; dsimp only; rw [if_neg (Nat.not_lt.mpr h)]

theorem kGB_n {L : List Nat} {cd : Int32} {k : Nat} (h : kSide cd = 0) : L ++ kGB (cd, k) = (L ++ lowB (lNat (nI k + (if kUse cd = 0 then 0 else 64) + (if kSide cd = 0 then 0 else 128)).toInt64) 1) ++ lowB (lNat (kAhead cd).toInt64) 1 := by
  unfold kGB; dsimp only; rw [show (if kSide cd = 0 then ([] : List Nat) else lowB (lNat (kAside cd).toInt64) 1 ++ lowB (lNat (kTurn cd).toInt64) 1) = [] from if_pos h, List.append_nil, List.append_assoc]
theorem kGB_y {L : List Nat} {cd : Int32} {k : Nat} (h : ¬ kSide cd = 0) : L ++ kGB (cd, k) = (((L ++ lowB (lNat (nI k + (if kUse cd = 0 then 0 else 64) + (if kSide cd = 0 then 0 else 128)).toInt64) 1) ++ lowB (lNat (kAhead cd).toInt64) 1) ++ lowB (lNat (kAside cd).toInt64) 1) ++ lowB (lNat (kTurn cd).toInt64) 1 := by
  unfold kGB; dsimp only; rw [show (if kSide cd = 0 then ([] : List Nat) else lowB (lNat (kAside cd).toInt64) 1 ++ lowB (lNat (kTurn cd).toInt64) 1) = lowB (lNat (kAside cd).toInt64) 1 ++ lowB (lNat (kTurn cd).toInt64) 1 from if_neg h]; simp only [List.append_assoc]
theorem kGB_len (q : Int32 × Nat) : (kGB q).length ≤ 4 := by
  unfold kGB
  have h2 : (if kSide q.1 = 0 then ([] : List Nat) else lowB (lNat (kAside q.1).toInt64) 1 ++ lowB (lNat (kTurn q.1).toInt64) 1).length ≤ 2 := by
    by_cases h : kSide q.1 = 0
    · rw [if_pos h]; exact Nat.zero_le _
    · rw [if_neg h, List.length_append, lowB_len, lowB_len]; exact Nat.le_refl _
  simp only [List.length_append, lowB_len]
  omega
theorem kEnd_n {M : List Int32} {j n : Nat} (h : kEnd M j (n + 1) = 0) (hn : n ≤ 62) : n + 1 ≤ 62 := by
  unfold kEnd at h
  rcases Nat.lt_or_ge n 62 with q | q
  · omega
  · rw [if_pos (Or.inl (by omega))] at h; exact absurd h (by decide)
theorem kGr_len' : ∀ (M : List Int32) (n : Nat), ((kGr n M).flatMap kGB).length ≤ 4 * M.length := by
  intro M
  induction M with
  | nil => intro n; exact Nat.zero_le _
  | cons c cs ih =>
    intro n
    rw [kGr]; split
    · rw [List.flatMap_cons, List.length_append, List.length_cons]
      have := kGB_len (c, n + 1); have := ih 0; omega
    · rw [List.length_cons]; have := ih (n + 1); omega
theorem kGr_len (M : List Int32) : ((kGr 0 M).flatMap kGB).length ≤ 4 * M.length := kGr_len' M 0
def kPre (M : List Int32) (x y g t : Int32) : List Nat := (((((((([] ++ lowB (lNat (77 : Int32).toInt64) 1) ++ lowB (lNat (68 : Int32).toInt64) 1) ++ lowB (lNat (1 : Int32).toInt64) 1) ++ lowB (lNat x.toInt64) 2) ++ lowB (lNat y.toInt64) 2) ++ lowB (lNat g.toInt64) 1) ++ lowB (lNat t.toInt64) 1) ++ (kGr 0 M).flatMap kGB) ++ lowB (lNat 0) 1
def kOut (M : List Int32) (x y g t : Int32) : List Nat := kPre M x y g t ++ lowB (lNat (kChk ((kPre M x y g t).take (kPre M x y g t).length)).toInt64) 4

theorem kIn_01 (v lo hi : Int32) : (¬ kIn v lo hi = 0) ↔ (lo ≤ v ∧ v ≤ hi) := by
  unfold kIn; split
  · rename_i h; exact ⟨fun _ => h, fun _ => by decide⟩
  · rename_i h; exact ⟨fun q => absurd rfl q, fun q => absurd q h⟩
theorem kIn_nI0 {v : Int32} {n : Nat} (h : ¬ kIn v 0 (nI n) = 0) (hn : n < 2 ^ 31) : ∃ k, k ≤ n ∧ v = nI k := by
  obtain ⟨h1, h2⟩ := (kIn_01 _ _ _).mp h
  obtain ⟨k, hk, rfl⟩ := nI_of (Int32.not_lt.mpr h1)
  exact ⟨k, (nI_leI hk hn).mp h2, rfl⟩
theorem kIn_nI {v : Int32} {n : Nat} (h : ¬ kIn v 1 (nI n) = 0) (hn : n < 2 ^ 31) : ∃ k, (1 ≤ k ∧ k ≤ n) ∧ v = nI k := by
  obtain ⟨h1, h2⟩ := (kIn_01 _ _ _).mp h
  have h0 : ¬ v < 0 := by
    rw [k32_lt]; rw [k32_le] at h1
    have e1 : (1 : Int32).toInt = 1 := by decide
    have e0 : (0 : Int32).toInt = 0 := by decide
    omega
  obtain ⟨k, hk, rfl⟩ := nI_of h0
  exact ⟨k, ⟨(nI_leI (a := 1) (by decide) hk).mp h1, (nI_leI hk hn).mp h2⟩, rfl⟩
theorem kIn_ix {v : Int32} {n : Nat} (h : ¬ kIn v 0 (nI n - 1) = 0) (hn : n < 2 ^ 31) : ∃ k, k < n ∧ v = nI k := by
  rcases Nat.eq_zero_or_pos n with h0 | h0
  · subst h0
    obtain ⟨h1, h2⟩ := (kIn_01 _ _ _).mp h
    have e : nI 0 - 1 = -1 := by decide
    rw [e] at h2
    exact absurd (Int32.le_trans h1 h2) (by decide)
  · obtain ⟨z, rfl⟩ : ∃ z, n = z + 1 := ⟨n - 1, by omega⟩
    rw [nI_pred] at h
    obtain ⟨k, hk, e⟩ := kIn_nI0 h (by omega)
    exact ⟨k, by omega, e⟩
abbrev kStOk (px py pg pt : Int32) : Prop := ¬ kIn px (-32768) 32767 = 0 ∧ ¬ kIn py (-32768) 32767 = 0 ∧ ¬ kIn pg 0 63 = 0 ∧ ¬ kIn pt 0 255 = 0
abbrev kRcOk (M : List Int32) (pa ps pt pn : Int32) : Prop := ¬ kIn pa (-64) 64 = 0 ∧ ¬ kIn ps (-64) 64 = 0 ∧ ¬ kIn pt (-16) 16 = 0 ∧ ¬ kIn pn 1 (nI (1024 - M.length)) = 0
abbrev kAgOk (M : List Int32) (pi pn : Int32) : Prop := ¬ kIn pi 0 (nI M.length - 1) = 0 ∧ ¬ kIn pn 1 (nI M.length - pi) = 0 ∧ pn ≤ nI (1024 - M.length)
abbrev kGvOk (I : List Nat) (pn : Int32) : Prop := ¬ kIn pn 1 8 = 0 ∧ pn ≤ nI (8192 - I.length)
def kInW (c w : Int32) : Int32 := if w = 0 then kAhead c - 64 else if w = 1 then kAside c - 64 else if w = 2 then kTurn c - 16 else if w = 3 then (if kUse c = 0 then 0 else 1) else 100000
theorem kInW_out {c w : Int32} (h : w.toInt < 0 ∨ 3 < w.toInt) : kInW c w = 100000 := by
  unfold kInW
  have k : ∀ n : Int32, 0 ≤ n.toInt → n.toInt ≤ 3 → w ≠ n := fun n h1 h2 q => by rw [q] at h; omega
  rw [if_neg (k 0 (by decide) (by decide)), if_neg (k 1 (by decide) (by decide)), if_neg (k 2 (by decide) (by decide)), if_neg (k 3 (by decide) (by decide))]
def kInput (M : List Int32) (i w : Int32) : Int32 := if kGet M i = -1 then 100000 else kInW (kGet M i) w
theorem kInput_n {M : List Int32} {i w : Int32} (h : kGet M i = -1) : kInput M i w = 100000 := if_pos h
theorem kInput_y {M : List Int32} {i w : Int32} (h : ¬ kGet M i = -1) : kInput M i w = kInW (kGet M i) w := if_neg h
def kLook (M : List Int32) (O I : List Nat) (q : RS) (w : Int32) : Int32 := if w = 0 then nI M.length else if w = 1 then nI (kGr 0 M).length else if w = 2 then nI O.length else if w = 3 then nI I.length else if w = 4 then rFt q else if w = 5 then rPl q else if w = 6 then nI (kUses M) else -1
theorem kLook_out {M : List Int32} {O I : List Nat} {q : RS} {w : Int32} (h : w.toInt < 0 ∨ 6 < w.toInt) : kLook M O I q w = -1 := by
  unfold kLook
  have k : ∀ n : Int32, 0 ≤ n.toInt → n.toInt ≤ 6 → w ≠ n := fun n h1 h2 q => by rw [q] at h; omega
  rw [if_neg (k 0 (by decide) (by decide)), if_neg (k 1 (by decide) (by decide)), if_neg (k 2 (by decide) (by decide)), if_neg (k 3 (by decide) (by decide)), if_neg (k 4 (by decide) (by decide)), if_neg (k 5 (by decide) (by decide)), if_neg (k 6 (by decide) (by decide))]
end
section
abbrev Qc_D_isWithin (dC : Nat → ClassId) (dI : Nat → Nat → Nat) (cI cB cZ : ClassId) (v : Int32) (lo : Int32) (hi : Int32) (A : Nat → Prop) := va_Qi (fun (r9 : Int32) (_ : Unit) => (r9 = kIn v lo hi)) (ka (dC, dI) classes [(cI, .int), (cB, .byte), (cZ, .boolean)] (fun (_ : Unit) => []) A) A
set_option maxHeartbeats 1000000 in
set_option maxRecDepth 100000 in
/-- isWithin -/
theorem c_D_isWithin (l : Launch) (dC : Nat → ClassId) (dI : Nat → Nat → Nat) (cI cB cZ : ClassId) (sz : Nat) (v : Int32) (lo : Int32) (hi : Int32)  : Met l y_Tape_isWithin w_Tape_isWithin ({ frames := 0, cells := 0, slots := 0, locals := 0 }) (va_Pc [.int v, .int lo, .int hi] (kp (dC, dI) classes [(cI, .int), (cB, .byte), (cZ, .boolean)] [] sz)) (Qc_D_isWithin dC dI cI cB cZ v lo hi (va_A [] sz)) 0 0 (va_A [] sz) := by
  refine Met.ofW (cc := prog_1_method_16_code) (maxL := 3) (ret := (some .boolean)) (by decide) rfl ?_
  intro p e s m args below meth c s₁ B hml hv
  obtain ⟨rfl, hsz, hP, hK, hD0⟩ := hv
  have hx := B.exec
  have hb := B.bytes
  have hr := B.returns
  have hts := fun w h => atoms_spec (ws := w_Tape_isWithin) B.pre w (List.mem_cons_of_mem _ h)
  have hown : s.vm.findClass "DemoTape" = some m.cls := findClass_of_methodNamed B.named
  have hlocks := B.notSynchronized
  subst hsz
  have hD := hD0.self (sz := s.heap.size)
  generalize hAe : va_A ([] : va_W) s.heap.size = A at hD ⊢
  have hA : ∀ q : Nat, s.heap.size ≤ q → A q := fun q h => by rw [← hAe]; exact Or.inr h
  have hS : va_S A s.heap s.heap [] := va_S.rf
  have hP : va_P (dC, dI) classes [] s.heap := hP
  have hl := lv_entry ([.int v, .int lo, .int hi]) (n := 3) (Nat.le_of_ble_eq_true rfl)
  rw [lg_entry_eq]
  generalize (lg_sl ([.int v, .int lo, .int hi]) ++ List.replicate (3 - (lg_sl ([.int v, .int lo, .int hi])).length) Slot.unset).toArray = ls at hl ⊢
  have hl : lv_has ls 3 [(0, .int v), (1, .int lo), (2, .int hi)] := hl
  refine lv_iload_n hx hb d_Tape_isWithin_0 rfl (lv_at hl 0 rfl) ?_
  refine lv_iload_n hx hb d_Tape_isWithin_1 rfl (lv_at hl 1 rfl) ?_
  refine lv_icmp_lt (tgt := 14) hx hb d_Tape_isWithin_2 (by decide) (fun c_2 => ?_) (fun c_2 => ?_)
  · refine lv_iconst (v := 0) hx hb d_Tape_isWithin_14 (by decide) ?_
    exact kr_i (v := 0) () hx hb hr (by decide) hK (hP.sub [] (rfl)) (hD.sub [] (by decide) (rfl)) hS (by unfold kIn; rw [if_neg (fun q => by first | exact c_2 q.1 | exact absurd q.1 (Int32.not_le.mpr c_2))]) d_Tape_isWithin_15 hlocks
  · refine lv_iload_n hx hb d_Tape_isWithin_5 rfl (lv_at hl 0 rfl) ?_
    refine lv_iload_n hx hb d_Tape_isWithin_6 rfl (lv_at hl 2 rfl) ?_
    refine lv_icmp_gt (tgt := 14) hx hb d_Tape_isWithin_7 (by decide) (fun c_7 => ?_) (fun c_7 => ?_)
    · refine lv_iconst (v := 0) hx hb d_Tape_isWithin_14 (by decide) ?_
      exact kr_i (v := 0) () hx hb hr (by decide) hK (hP.sub [] (rfl)) (hD.sub [] (by decide) (rfl)) hS (by unfold kIn; rw [if_neg (fun q => by first | exact c_7 q.2 | exact absurd q.2 (Int32.not_le.mpr c_7))]) d_Tape_isWithin_15 hlocks
    · refine lv_iconst (v := 1) hx hb d_Tape_isWithin_10 (by decide) ?_
      refine lv_goto (tgt := 15) hx hb d_Tape_isWithin_11 (by decide) ?_
      exact kr_i (v := 1) () hx hb hr (by decide) hK (hP.sub [] (rfl)) (hD.sub [] (by decide) (rfl)) hS (by unfold kIn; rw [if_pos ⟨by first | exact c_2 | exact Int32.not_lt.mp c_2, by first | exact c_7 | exact Int32.not_lt.mp c_7⟩]) d_Tape_isWithin_15 hlocks
abbrev Qc_Code_of (dC : Nat → ClassId) (dI : Nat → Nat → Nat) (cI cB cZ : ClassId) (us : Int32) (ah : Int32) (sd : Int32) (tu : Int32) (A : Nat → Prop) := va_Qi (fun (r9 : Int32) (_ : Unit) => (r9 = kCode us ah sd tu)) (ka (dC, dI) classes [(cI, .int), (cB, .byte), (cZ, .boolean)] (fun (_ : Unit) => []) A) A
set_option maxHeartbeats 1000000 in
set_option maxRecDepth 100000 in
/-- Code.of -/
theorem c_Code_of (l : Launch) (dC : Nat → ClassId) (dI : Nat → Nat → Nat) (cI cB cZ : ClassId) (sz : Nat) (us : Int32) (ah : Int32) (sd : Int32) (tu : Int32)  : Met l y_Code_of w_Code_of ({ frames := 0, cells := 0, slots := 0, locals := 0 }) (va_Pc [.int us, .int ah, .int sd, .int tu] (kp (dC, dI) classes [(cI, .int), (cB, .byte), (cZ, .boolean)] [] sz)) (Qc_Code_of dC dI cI cB cZ us ah sd tu (va_A [] sz)) 0 0 (va_A [] sz) := by
  refine Met.ofW (cc := prog_3_method_2_code) (maxL := 4) (ret := (some .int)) (by decide) rfl ?_
  intro p e s m args below meth c s₁ B hml hv
  obtain ⟨rfl, hsz, hP, hK, hD0⟩ := hv
  have hx := B.exec
  have hb := B.bytes
  have hr := B.returns
  have hts := fun w h => atoms_spec (ws := w_Code_of) B.pre w (List.mem_cons_of_mem _ h)
  have hown : s.vm.findClass "DemoTape$Code" = some m.cls := findClass_of_methodNamed B.named
  have hlocks := B.notSynchronized
  subst hsz
  have hD := hD0.self (sz := s.heap.size)
  generalize hAe : va_A ([] : va_W) s.heap.size = A at hD ⊢
  have hA : ∀ q : Nat, s.heap.size ≤ q → A q := fun q h => by rw [← hAe]; exact Or.inr h
  have hS : va_S A s.heap s.heap [] := va_S.rf
  have hP : va_P (dC, dI) classes [] s.heap := hP
  have hl := lv_entry ([.int us, .int ah, .int sd, .int tu]) (n := 4) (Nat.le_of_ble_eq_true rfl)
  rw [lg_entry_eq]
  generalize (lg_sl ([.int us, .int ah, .int sd, .int tu]) ++ List.replicate (4 - (lg_sl ([.int us, .int ah, .int sd, .int tu])).length) Slot.unset).toArray = ls at hl ⊢
  have hl : lv_has ls 4 [(0, .int us), (1, .int ah), (2, .int sd), (3, .int tu)] := hl
  refine lv_iload_n hx hb d_Code_of_0 rfl (lv_at hl 0 rfl) ?_
  refine lv_if_eq (tgt := 9) hx hb d_Code_of_1 (by decide) (fun c_1 => ?_) (fun c_1 => ?_)
  · refine lv_iconst (v := 0) hx hb d_Code_of_9 (by decide) ?_
    refine lv_iload_n hx hb d_Code_of_10 rfl (lv_at hl 1 rfl) ?_
    refine lv_bipush (v := 16) hx hb d_Code_of_11 (by decide) ?_
    refine lv_ishl hx hb d_Code_of_13 ?_
    refine lv_ior hx hb d_Code_of_14 ?_
    refine lv_iload_n hx hb d_Code_of_15 rfl (lv_at hl 2 rfl) ?_
    refine lv_bipush (v := 8) hx hb d_Code_of_16 (by decide) ?_
    refine lv_ishl hx hb d_Code_of_18 ?_
    refine lv_ior hx hb d_Code_of_19 ?_
    refine lv_iload_n hx hb d_Code_of_20 rfl (lv_at hl 3 rfl) ?_
    refine lv_ior hx hb d_Code_of_21 ?_
    exact kr_i (v := ((0 ||| (ah <<< ((16 : Int32) &&& 31))) ||| (sd <<< ((8 : Int32) &&& 31))) ||| tu) () hx hb hr rfl hK (hP.sub [] (rfl)) (hD.sub [] (by decide) (rfl)) hS (by unfold kCode; rw [if_pos c_1]) d_Code_of_22 hlocks
  · refine lv_ldc (v := 16777216) hx hb hown (hts _ mw144) d_Code_of_4 ?_
    refine lv_goto (tgt := 10) hx hb d_Code_of_6 (by decide) ?_
    refine lv_iload_n hx hb d_Code_of_10 rfl (lv_at hl 1 rfl) ?_
    refine lv_bipush (v := 16) hx hb d_Code_of_11 (by decide) ?_
    refine lv_ishl hx hb d_Code_of_13 ?_
    refine lv_ior hx hb d_Code_of_14 ?_
    refine lv_iload_n hx hb d_Code_of_15 rfl (lv_at hl 2 rfl) ?_
    refine lv_bipush (v := 8) hx hb d_Code_of_16 (by decide) ?_
    refine lv_ishl hx hb d_Code_of_18 ?_
    refine lv_ior hx hb d_Code_of_19 ?_
    refine lv_iload_n hx hb d_Code_of_20 rfl (lv_at hl 3 rfl) ?_
    refine lv_ior hx hb d_Code_of_21 ?_
    exact kr_i (v := ((16777216 ||| (ah <<< ((16 : Int32) &&& 31))) ||| (sd <<< ((8 : Int32) &&& 31))) ||| tu) () hx hb hr rfl hK (hP.sub [] (rfl)) (hD.sub [] (by decide) (rfl)) hS (by unfold kCode; rw [if_neg c_1]) d_Code_of_22 hlocks
abbrev Qc_Code_uses (dC : Nat → ClassId) (dI : Nat → Nat → Nat) (cI cB cZ : ClassId) (cd : Int32) (A : Nat → Prop) := va_Qi (fun (r9 : Int32) (_ : Unit) => (r9 = kUse cd)) (ka (dC, dI) classes [(cI, .int), (cB, .byte), (cZ, .boolean)] (fun (_ : Unit) => []) A) A
set_option maxHeartbeats 1000000 in
set_option maxRecDepth 100000 in
/-- Code.uses -/
theorem c_Code_uses (l : Launch) (dC : Nat → ClassId) (dI : Nat → Nat → Nat) (cI cB cZ : ClassId) (sz : Nat) (cd : Int32)  : Met l y_Code_uses w_Code_uses ({ frames := 0, cells := 0, slots := 0, locals := 0 }) (va_Pc [.int cd] (kp (dC, dI) classes [(cI, .int), (cB, .byte), (cZ, .boolean)] [] sz)) (Qc_Code_uses dC dI cI cB cZ cd (va_A [] sz)) 0 0 (va_A [] sz) := by
  refine Met.ofW (cc := prog_3_method_3_code) (maxL := 1) (ret := (some .boolean)) (by decide) rfl ?_
  intro p e s m args below meth c s₁ B hml hv
  obtain ⟨rfl, hsz, hP, hK, hD0⟩ := hv
  have hx := B.exec
  have hb := B.bytes
  have hr := B.returns
  have hts := fun w h => atoms_spec (ws := w_Code_uses) B.pre w (List.mem_cons_of_mem _ h)
  have hown : s.vm.findClass "DemoTape$Code" = some m.cls := findClass_of_methodNamed B.named
  have hlocks := B.notSynchronized
  subst hsz
  have hD := hD0.self (sz := s.heap.size)
  generalize hAe : va_A ([] : va_W) s.heap.size = A at hD ⊢
  have hA : ∀ q : Nat, s.heap.size ≤ q → A q := fun q h => by rw [← hAe]; exact Or.inr h
  have hS : va_S A s.heap s.heap [] := va_S.rf
  have hP : va_P (dC, dI) classes [] s.heap := hP
  have hl := lv_entry ([.int cd]) (n := 1) (Nat.le_of_ble_eq_true rfl)
  rw [lg_entry_eq]
  generalize (lg_sl ([.int cd]) ++ List.replicate (1 - (lg_sl ([.int cd])).length) Slot.unset).toArray = ls at hl ⊢
  have hl : lv_has ls 1 [(0, .int cd)] := hl
  refine lv_iload_n hx hb d_Code_uses_0 rfl (lv_at hl 0 rfl) ?_
  refine lv_ldc (v := 16777216) hx hb hown (hts _ mw144) d_Code_uses_1 ?_
  refine lv_iand hx hb d_Code_uses_3 ?_
  refine lv_if_eq (tgt := 11) hx hb d_Code_uses_4 (by decide) (fun c_4 => ?_) (fun c_4 => ?_)
  · refine lv_iconst (v := 0) hx hb d_Code_uses_11 (by decide) ?_
    exact kr_i (v := 0) () hx hb hr (by decide) hK (hP.sub [] (rfl)) (hD.sub [] (by decide) (rfl)) hS (by unfold kUse; rw [if_pos c_4]) d_Code_uses_12 hlocks
  · refine lv_iconst (v := 1) hx hb d_Code_uses_7 (by decide) ?_
    refine lv_goto (tgt := 12) hx hb d_Code_uses_8 (by decide) ?_
    exact kr_i (v := 1) () hx hb hr (by decide) hK (hP.sub [] (rfl)) (hD.sub [] (by decide) (rfl)) hS (by unfold kUse; rw [if_neg c_4]) d_Code_uses_12 hlocks
abbrev Qc_Code_aheadByte (dC : Nat → ClassId) (dI : Nat → Nat → Nat) (cI cB cZ : ClassId) (cd : Int32) (A : Nat → Prop) := va_Qi (fun (r9 : Int32) (_ : Unit) => (r9 = kAhead cd)) (ka (dC, dI) classes [(cI, .int), (cB, .byte), (cZ, .boolean)] (fun (_ : Unit) => []) A) A
set_option maxHeartbeats 1000000 in
set_option maxRecDepth 100000 in
/-- Code.aheadByte -/
theorem c_Code_aheadByte (l : Launch) (dC : Nat → ClassId) (dI : Nat → Nat → Nat) (cI cB cZ : ClassId) (sz : Nat) (cd : Int32)  : Met l y_Code_aheadByte w_Code_aheadByte ({ frames := 0, cells := 0, slots := 0, locals := 0 }) (va_Pc [.int cd] (kp (dC, dI) classes [(cI, .int), (cB, .byte), (cZ, .boolean)] [] sz)) (Qc_Code_aheadByte dC dI cI cB cZ cd (va_A [] sz)) 0 0 (va_A [] sz) := by
  refine Met.ofW (cc := prog_3_method_4_code) (maxL := 1) (ret := (some .int)) (by decide) rfl ?_
  intro p e s m args below meth c s₁ B hml hv
  obtain ⟨rfl, hsz, hP, hK, hD0⟩ := hv
  have hx := B.exec
  have hb := B.bytes
  have hr := B.returns
  have hts := fun w h => atoms_spec (ws := w_Code_aheadByte) B.pre w (List.mem_cons_of_mem _ h)
  have hown : s.vm.findClass "DemoTape$Code" = some m.cls := findClass_of_methodNamed B.named
  have hlocks := B.notSynchronized
  subst hsz
  have hD := hD0.self (sz := s.heap.size)
  generalize hAe : va_A ([] : va_W) s.heap.size = A at hD ⊢
  have hA : ∀ q : Nat, s.heap.size ≤ q → A q := fun q h => by rw [← hAe]; exact Or.inr h
  have hS : va_S A s.heap s.heap [] := va_S.rf
  have hP : va_P (dC, dI) classes [] s.heap := hP
  have hl := lv_entry ([.int cd]) (n := 1) (Nat.le_of_ble_eq_true rfl)
  rw [lg_entry_eq]
  generalize (lg_sl ([.int cd]) ++ List.replicate (1 - (lg_sl ([.int cd])).length) Slot.unset).toArray = ls at hl ⊢
  have hl : lv_has ls 1 [(0, .int cd)] := hl
  refine lv_iload_n hx hb d_Code_aheadByte_0 rfl (lv_at hl 0 rfl) ?_
  refine lv_bipush (v := 16) hx hb d_Code_aheadByte_1 (by decide) ?_
  refine lv_ishr hx hb d_Code_aheadByte_3 ?_
  refine lv_sipush (v := 255) hx hb d_Code_aheadByte_4 (by decide) ?_
  refine lv_iand hx hb d_Code_aheadByte_7 ?_
  exact kr_i (v := (cd >>> ((16 : Int32) &&& 31)) &&& 255) () hx hb hr rfl hK (hP.sub [] (rfl)) (hD.sub [] (by decide) (rfl)) hS (by first | with_reducible rfl | with_reducible assumption | rfl | omega) d_Code_aheadByte_8 hlocks
abbrev Qc_Code_asideByte (dC : Nat → ClassId) (dI : Nat → Nat → Nat) (cI cB cZ : ClassId) (cd : Int32) (A : Nat → Prop) := va_Qi (fun (r9 : Int32) (_ : Unit) => (r9 = kAside cd)) (ka (dC, dI) classes [(cI, .int), (cB, .byte), (cZ, .boolean)] (fun (_ : Unit) => []) A) A
set_option maxHeartbeats 1000000 in
set_option maxRecDepth 100000 in
/-- Code.asideByte -/
theorem c_Code_asideByte (l : Launch) (dC : Nat → ClassId) (dI : Nat → Nat → Nat) (cI cB cZ : ClassId) (sz : Nat) (cd : Int32)  : Met l y_Code_asideByte w_Code_asideByte ({ frames := 0, cells := 0, slots := 0, locals := 0 }) (va_Pc [.int cd] (kp (dC, dI) classes [(cI, .int), (cB, .byte), (cZ, .boolean)] [] sz)) (Qc_Code_asideByte dC dI cI cB cZ cd (va_A [] sz)) 0 0 (va_A [] sz) := by
  refine Met.ofW (cc := prog_3_method_5_code) (maxL := 1) (ret := (some .int)) (by decide) rfl ?_
  intro p e s m args below meth c s₁ B hml hv
  obtain ⟨rfl, hsz, hP, hK, hD0⟩ := hv
  have hx := B.exec
  have hb := B.bytes
  have hr := B.returns
  have hts := fun w h => atoms_spec (ws := w_Code_asideByte) B.pre w (List.mem_cons_of_mem _ h)
  have hown : s.vm.findClass "DemoTape$Code" = some m.cls := findClass_of_methodNamed B.named
  have hlocks := B.notSynchronized
  subst hsz
  have hD := hD0.self (sz := s.heap.size)
  generalize hAe : va_A ([] : va_W) s.heap.size = A at hD ⊢
  have hA : ∀ q : Nat, s.heap.size ≤ q → A q := fun q h => by rw [← hAe]; exact Or.inr h
  have hS : va_S A s.heap s.heap [] := va_S.rf
  have hP : va_P (dC, dI) classes [] s.heap := hP
  have hl := lv_entry ([.int cd]) (n := 1) (Nat.le_of_ble_eq_true rfl)
  rw [lg_entry_eq]
  generalize (lg_sl ([.int cd]) ++ List.replicate (1 - (lg_sl ([.int cd])).length) Slot.unset).toArray = ls at hl ⊢
  have hl : lv_has ls 1 [(0, .int cd)] := hl
  refine lv_iload_n hx hb d_Code_asideByte_0 rfl (lv_at hl 0 rfl) ?_
  refine lv_bipush (v := 8) hx hb d_Code_asideByte_1 (by decide) ?_
  refine lv_ishr hx hb d_Code_asideByte_3 ?_
  refine lv_sipush (v := 255) hx hb d_Code_asideByte_4 (by decide) ?_
  refine lv_iand hx hb d_Code_asideByte_7 ?_
  exact kr_i (v := (cd >>> ((8 : Int32) &&& 31)) &&& 255) () hx hb hr rfl hK (hP.sub [] (rfl)) (hD.sub [] (by decide) (rfl)) hS (by first | with_reducible rfl | with_reducible assumption | rfl | omega) d_Code_asideByte_8 hlocks
abbrev Qc_Code_turnByte (dC : Nat → ClassId) (dI : Nat → Nat → Nat) (cI cB cZ : ClassId) (cd : Int32) (A : Nat → Prop) := va_Qi (fun (r9 : Int32) (_ : Unit) => (r9 = kTurn cd)) (ka (dC, dI) classes [(cI, .int), (cB, .byte), (cZ, .boolean)] (fun (_ : Unit) => []) A) A
set_option maxHeartbeats 1000000 in
set_option maxRecDepth 100000 in
/-- Code.turnByte -/
theorem c_Code_turnByte (l : Launch) (dC : Nat → ClassId) (dI : Nat → Nat → Nat) (cI cB cZ : ClassId) (sz : Nat) (cd : Int32)  : Met l y_Code_turnByte w_Code_turnByte ({ frames := 0, cells := 0, slots := 0, locals := 0 }) (va_Pc [.int cd] (kp (dC, dI) classes [(cI, .int), (cB, .byte), (cZ, .boolean)] [] sz)) (Qc_Code_turnByte dC dI cI cB cZ cd (va_A [] sz)) 0 0 (va_A [] sz) := by
  refine Met.ofW (cc := prog_3_method_6_code) (maxL := 1) (ret := (some .int)) (by decide) rfl ?_
  intro p e s m args below meth c s₁ B hml hv
  obtain ⟨rfl, hsz, hP, hK, hD0⟩ := hv
  have hx := B.exec
  have hb := B.bytes
  have hr := B.returns
  have hts := fun w h => atoms_spec (ws := w_Code_turnByte) B.pre w (List.mem_cons_of_mem _ h)
  have hown : s.vm.findClass "DemoTape$Code" = some m.cls := findClass_of_methodNamed B.named
  have hlocks := B.notSynchronized
  subst hsz
  have hD := hD0.self (sz := s.heap.size)
  generalize hAe : va_A ([] : va_W) s.heap.size = A at hD ⊢
  have hA : ∀ q : Nat, s.heap.size ≤ q → A q := fun q h => by rw [← hAe]; exact Or.inr h
  have hS : va_S A s.heap s.heap [] := va_S.rf
  have hP : va_P (dC, dI) classes [] s.heap := hP
  have hl := lv_entry ([.int cd]) (n := 1) (Nat.le_of_ble_eq_true rfl)
  rw [lg_entry_eq]
  generalize (lg_sl ([.int cd]) ++ List.replicate (1 - (lg_sl ([.int cd])).length) Slot.unset).toArray = ls at hl ⊢
  have hl : lv_has ls 1 [(0, .int cd)] := hl
  refine lv_iload_n hx hb d_Code_turnByte_0 rfl (lv_at hl 0 rfl) ?_
  refine lv_sipush (v := 255) hx hb d_Code_turnByte_1 (by decide) ?_
  refine lv_iand hx hb d_Code_turnByte_4 ?_
  exact kr_i (v := cd &&& 255) () hx hb hr rfl hK (hP.sub [] (rfl)) (hD.sub [] (by decide) (rfl)) hS (by first | with_reducible rfl | with_reducible assumption | rfl | omega) d_Code_turnByte_5 hlocks
abbrev Qc_Code_hasSide (dC : Nat → ClassId) (dI : Nat → Nat → Nat) (cI cB cZ : ClassId) (cd : Int32) (A : Nat → Prop) := va_Qi (fun (r9 : Int32) (_ : Unit) => (r9 = kSide cd)) (ka (dC, dI) classes [(cI, .int), (cB, .byte), (cZ, .boolean)] (fun (_ : Unit) => []) A) A
set_option maxHeartbeats 1000000 in
set_option maxRecDepth 100000 in
/-- Code.hasSide -/
theorem c_Code_hasSide (l : Launch) (dC : Nat → ClassId) (dI : Nat → Nat → Nat) (cI cB cZ : ClassId) (sz : Nat) (cd : Int32)  : Met l y_Code_hasSide w_Code_hasSide ({ frames := 1, cells := 0, slots := 0, locals := 20 }) (va_Pc [.int cd] (kp (dC, dI) classes [(cI, .int), (cB, .byte), (cZ, .boolean)] [] sz)) (Qc_Code_hasSide dC dI cI cB cZ cd (va_A [] sz)) 0 0 (va_A [] sz) := by
  refine Met.ofW (cc := prog_3_method_7_code) (maxL := 1) (ret := (some .boolean)) (by decide) rfl ?_
  intro p e s m args below meth c s₁ B hml hv
  obtain ⟨rfl, hsz, hP, hK, hD0⟩ := hv
  have hx := B.exec
  have hb := B.bytes
  have hr := B.returns
  have hts := fun w h => atoms_spec (ws := w_Code_hasSide) B.pre w (List.mem_cons_of_mem _ h)
  have hown : s.vm.findClass "DemoTape$Code" = some m.cls := findClass_of_methodNamed B.named
  have hlocks := B.notSynchronized
  subst hsz
  have hD := hD0.self (sz := s.heap.size)
  generalize hAe : va_A ([] : va_W) s.heap.size = A at hD ⊢
  have hA : ∀ q : Nat, s.heap.size ≤ q → A q := fun q h => by rw [← hAe]; exact Or.inr h
  have hS : va_S A s.heap s.heap [] := va_S.rf
  have hP : va_P (dC, dI) classes [] s.heap := hP
  have hl := lv_entry ([.int cd]) (n := 1) (Nat.le_of_ble_eq_true rfl)
  rw [lg_entry_eq]
  generalize (lg_sl ([.int cd]) ++ List.replicate (1 - (lg_sl ([.int cd])).length) Slot.unset).toArray = ls at hl ⊢
  have hl : lv_has ls 1 [(0, .int cd)] := hl
  refine lv_iload_n hx hb d_Code_hasSide_0 rfl (lv_at hl 0 rfl) ?_
  refine kq_i (wr := []) (va_runS (As := [.int cd]) (rest := []) ⟨hx, hb, hml, hown, hts⟩ (c_Code_asideByte l dC dI cI cB cZ _ cd ) (va_cwS 1 hts (gS mw211 mw212 mw31 mw213) rfl rfl rfl (by decide +kernel) ⟨Nat.le_of_ble_eq_true rfl, Nat.le_of_ble_eq_true rfl⟩) (kpS (wc := []) hK hP hD [] rfl (by decide) rfl) rfl rfl hl.1 rfl (lv_room (Nat.le_of_ble_eq_true rfl)) d_Code_hasSide_1 ⟨Nat.le_of_ble_eq_true rfl, Nat.le_of_ble_eq_true rfl⟩) hP hD hS hA [] [] [] rfl rfl (by decide) (by decide) rfl (fun r_1 H locs hw hP hS => ?_)
  have e_1 := hw
  refine kt_i e_1 ?_
  refine lv_bipush (v := 64) hx hb d_Code_hasSide_4 (by decide) ?_
  refine lv_icmp_ne (tgt := 18) hx hb d_Code_hasSide_6 (by decide) (fun c_6 => ?_) (fun c_6 => ?_)
  · refine lv_iconst (v := 1) hx hb d_Code_hasSide_18 (by decide) ?_
    refine lv_goto (tgt := 23) hx hb d_Code_hasSide_19 (by decide) ?_
    exact kr_i (v := 1) () hx hb hr (by decide) hK (hP.sub [] (rfl)) (hD.sub [] (by decide) (rfl)) hS (by unfold kSide; rw [if_neg (fun q => c_6 q.1)]) d_Code_hasSide_23 hlocks
  · refine lv_iload_n hx hb d_Code_hasSide_9 rfl (lv_at hl 0 rfl) ?_
    refine kq_i (wr := []) (va_runS (As := [.int cd]) (rest := []) ⟨hx, hb, hml, hown, hts⟩ (c_Code_turnByte l dC dI cI cB cZ _ cd ) (va_cwS 1 hts (gS mw214 mw215 mw31 mw216) rfl rfl rfl (by decide +kernel) ⟨Nat.le_of_ble_eq_true rfl, Nat.le_of_ble_eq_true rfl⟩) (kpS (wc := []) hK hP hD [] rfl (by decide) rfl) rfl rfl hl.1 rfl (lv_room (Nat.le_of_ble_eq_true rfl)) d_Code_hasSide_10 ⟨Nat.le_of_ble_eq_true rfl, Nat.le_of_ble_eq_true rfl⟩) hP hD hS hA [] [] [] rfl rfl (by decide) (by decide) rfl (fun r_10 H locs hw hP hS => ?_)
    have e_10 := hw
    refine kt_i e_10 ?_
    refine lv_bipush (v := 16) hx hb d_Code_hasSide_13 (by decide) ?_
    refine lv_icmp_eq (tgt := 22) hx hb d_Code_hasSide_15 (by decide) (fun c_15 => ?_) (fun c_15 => ?_)
    · refine lv_iconst (v := 0) hx hb d_Code_hasSide_22 (by decide) ?_
      exact kr_i (v := 0) () hx hb hr (by decide) hK (hP.sub [] (rfl)) (hD.sub [] (by decide) (rfl)) hS (by unfold kSide; rw [if_pos ⟨by first | exact c_6 | exact Decidable.not_not.mp c_6, c_15⟩]) d_Code_hasSide_23 hlocks
    · refine lv_iconst (v := 1) hx hb d_Code_hasSide_18 (by decide) ?_
      refine lv_goto (tgt := 23) hx hb d_Code_hasSide_19 (by decide) ?_
      exact kr_i (v := 1) () hx hb hr (by decide) hK (hP.sub [] (rfl)) (hD.sub [] (by decide) (rfl)) hS (by unfold kSide; rw [if_neg (fun q => c_15 q.2)]) d_Code_hasSide_23 hlocks
end
section
abbrev Qc_Walk_count (dC : Nat → ClassId) (dI : Nat → Nat → Nat) (cI cB cZ : ClassId) (w : Nat) (a : Nat) (f : Nat → Int32) (L : List Int32) (x : Int32) (y : Int32) (g : Int32) (t : Int32) (A : Nat → Prop) := va_Qi (fun (r9 : Int32) (_ : Unit) => (r9 = nI L.length)) (ka (dC, dI) classes [(cI, .int), (cB, .byte), (cZ, .boolean)] (fun (_ : Unit) => [(w, .inr (1, [.ref a, .int (nI L.length), .int x, .int y, .int g, .int t])), (a, .inl (cI, 1024, .inl f))]) A) A
set_option maxHeartbeats 1000000 in
set_option maxRecDepth 100000 in
/-- Walk.count -/
theorem c_Walk_count (l : Launch) (dC : Nat → ClassId) (dI : Nat → Nat → Nat) (cI cB cZ : ClassId) (sz : Nat) (w : Nat) (a : Nat) (f : Nat → Int32) (L : List Int32) (x : Int32) (y : Int32) (g : Int32) (t : Int32)  : Met l y_Walk_count w_Walk_count ({ frames := 0, cells := 0, slots := 0, locals := 0 }) (va_Pc [.ref w] (kp (dC, dI) classes [(cI, .int), (cB, .byte), (cZ, .boolean)] [(w, .inr (1, [.ref a, .int (nI L.length), .int x, .int y, .int g, .int t])), (a, .inl (cI, 1024, .inl f))] sz)) (Qc_Walk_count dC dI cI cB cZ w a f L x y g t (va_A [(w, .inr (1, [.ref a, .int (nI L.length), .int x, .int y, .int g, .int t])), (a, .inl (cI, 1024, .inl f))] sz)) 0 0 (va_A [(w, .inr (1, [.ref a, .int (nI L.length), .int x, .int y, .int g, .int t])), (a, .inl (cI, 1024, .inl f))] sz) := by
  refine Met.ofW (cc := prog_5_method_2_code) (maxL := 1) (ret := (some .int)) (by decide) rfl ?_
  intro p e s m args below meth c s₁ B hml hv
  obtain ⟨rfl, hsz, hP, hK, hD0⟩ := hv
  have hx := B.exec
  have hb := B.bytes
  have hr := B.returns
  have hts := fun w h => atoms_spec (ws := w_Walk_count) B.pre w (List.mem_cons_of_mem _ h)
  have hown : s.vm.findClass "DemoTape$Walk" = some m.cls := findClass_of_methodNamed B.named
  have hlocks := B.notSynchronized
  subst hsz
  have hD := hD0.self (sz := s.heap.size)
  generalize hAe : va_A ([(w, .inr (1, [.ref a, .int (nI L.length), .int x, .int y, .int g, .int t])), (a, .inl (cI, 1024, .inl f))] : va_W) s.heap.size = A at hD ⊢
  have hA : ∀ q : Nat, s.heap.size ≤ q → A q := fun q h => by rw [← hAe]; exact Or.inr h
  have hS : va_S A s.heap s.heap [] := va_S.rf
  have hP : va_P (dC, dI) classes [(w, .inr (1, [.ref a, .int (nI L.length), .int x, .int y, .int g, .int t])), (a, .inl (cI, 1024, .inl f))] s.heap := hP
  have hl := lv_entry ([.ref w]) (n := 1) (Nat.le_of_ble_eq_true rfl)
  rw [lg_entry_eq]
  generalize (lg_sl ([.ref w]) ++ List.replicate (1 - (lg_sl ([.ref w])).length) Slot.unset).toArray = ls at hl ⊢
  have hl : lv_has ls 1 [(0, .ref w)] := hl
  refine lv_aload_n hx hb d_Walk_count_0 rfl (lv_at hl 0 rfl) ?_
  refine va_get (D := (dC, dI)) (ci := 1) (v := .int (nI L.length)) (C := "DemoTape$Walk") (T := F_Walk) (N := 6) hx hb hts i_Walk hown hK hP 0 rfl rfl 1 (by decide) (hts _ mw48) (fun _ h9 => h9) rfl d_Walk_count_1 ?_
  exact kr_i (v := nI L.length) () hx hb hr rfl hK (hP.sub [0, 1] (rfl)) (hD.sub [0, 1] (by decide) (rfl)) hS (by first | with_reducible rfl | with_reducible assumption | rfl | omega) d_Walk_count_4 hlocks
abbrev Qc_Walk_room (dC : Nat → ClassId) (dI : Nat → Nat → Nat) (cI cB cZ : ClassId) (w : Nat) (a : Nat) (f : Nat → Int32) (L : List Int32) (x : Int32) (y : Int32) (g : Int32) (t : Int32) (A : Nat → Prop) := va_Qi (fun (r9 : Int32) (_ : Unit) => (r9 = nI (1024 - L.length))) (ka (dC, dI) classes [(cI, .int), (cB, .byte), (cZ, .boolean)] (fun (_ : Unit) => [(w, .inr (1, [.ref a, .int (nI L.length), .int x, .int y, .int g, .int t])), (a, .inl (cI, 1024, .inl f))]) A) A
set_option maxHeartbeats 1000000 in
set_option maxRecDepth 100000 in
/-- Walk.room -/
theorem c_Walk_room (l : Launch) (dC : Nat → ClassId) (dI : Nat → Nat → Nat) (cI cB cZ : ClassId) (sz : Nat) (w : Nat) (a : Nat) (f : Nat → Int32) (L : List Int32) (x : Int32) (y : Int32) (g : Int32) (t : Int32) (hW : WRow f L) : Met l y_Walk_room w_Walk_room ({ frames := 0, cells := 0, slots := 0, locals := 0 }) (va_Pc [.ref w] (kp (dC, dI) classes [(cI, .int), (cB, .byte), (cZ, .boolean)] [(w, .inr (1, [.ref a, .int (nI L.length), .int x, .int y, .int g, .int t])), (a, .inl (cI, 1024, .inl f))] sz)) (Qc_Walk_room dC dI cI cB cZ w a f L x y g t (va_A [(w, .inr (1, [.ref a, .int (nI L.length), .int x, .int y, .int g, .int t])), (a, .inl (cI, 1024, .inl f))] sz)) 0 0 (va_A [(w, .inr (1, [.ref a, .int (nI L.length), .int x, .int y, .int g, .int t])), (a, .inl (cI, 1024, .inl f))] sz) := by
  refine Met.ofW (cc := prog_5_method_3_code) (maxL := 1) (ret := (some .int)) (by decide) rfl ?_
  intro p e s m args below meth c s₁ B hml hv
  obtain ⟨rfl, hsz, hP, hK, hD0⟩ := hv
  have hx := B.exec
  have hb := B.bytes
  have hr := B.returns
  have hts := fun w h => atoms_spec (ws := w_Walk_room) B.pre w (List.mem_cons_of_mem _ h)
  have hown : s.vm.findClass "DemoTape$Walk" = some m.cls := findClass_of_methodNamed B.named
  have hlocks := B.notSynchronized
  subst hsz
  have hD := hD0.self (sz := s.heap.size)
  generalize hAe : va_A ([(w, .inr (1, [.ref a, .int (nI L.length), .int x, .int y, .int g, .int t])), (a, .inl (cI, 1024, .inl f))] : va_W) s.heap.size = A at hD ⊢
  have hA : ∀ q : Nat, s.heap.size ≤ q → A q := fun q h => by rw [← hAe]; exact Or.inr h
  have hS : va_S A s.heap s.heap [] := va_S.rf
  have hP : va_P (dC, dI) classes [(w, .inr (1, [.ref a, .int (nI L.length), .int x, .int y, .int g, .int t])), (a, .inl (cI, 1024, .inl f))] s.heap := hP
  obtain ⟨hf, hL⟩ := id hW
  have hl := lv_entry ([.ref w]) (n := 1) (Nat.le_of_ble_eq_true rfl)
  rw [lg_entry_eq]
  generalize (lg_sl ([.ref w]) ++ List.replicate (1 - (lg_sl ([.ref w])).length) Slot.unset).toArray = ls at hl ⊢
  have hl : lv_has ls 1 [(0, .ref w)] := hl
  refine lv_aload_n hx hb d_Walk_room_0 rfl (lv_at hl 0 rfl) ?_
  refine va_get (D := (dC, dI)) (ci := 1) (v := .ref a) (C := "DemoTape$Walk") (T := F_Walk) (N := 6) hx hb hts i_Walk hown hK hP 0 rfl rfl 0 (by decide) (hts _ mw47) (fun _ h9 => h9) rfl d_Walk_room_1 ?_
  refine va_alen (v := nI 1024) hx hb hK hP 1 0 rfl rfl rfl d_Walk_room_4 ?_
  refine lv_aload_n hx hb d_Walk_room_5 rfl (lv_at hl 0 rfl) ?_
  refine va_get (D := (dC, dI)) (ci := 1) (v := .int (nI L.length)) (C := "DemoTape$Walk") (T := F_Walk) (N := 6) hx hb hts i_Walk hown hK hP 0 rfl rfl 1 (by decide) (hts _ mw48) (fun _ h9 => h9) rfl d_Walk_room_6 ?_
  refine lv_isub hx hb d_Walk_room_9 ?_
  refine kt_i (y := nI (1024 - L.length)) (pk_sub (by omega)) ?_
  exact kr_i (v := nI (1024 - L.length)) () hx hb hr rfl hK (hP.sub [0, 1] (rfl)) (hD.sub [0, 1] (by decide) (rfl)) hS (by first | with_reducible rfl | with_reducible assumption | rfl | omega) d_Walk_room_10 hlocks
abbrev Qc_Walk_codeAt (dC : Nat → ClassId) (dI : Nat → Nat → Nat) (cI cB cZ : ClassId) (w : Nat) (a : Nat) (f : Nat → Int32) (L : List Int32) (x : Int32) (y : Int32) (g : Int32) (t : Int32) (i : Int32) (A : Nat → Prop) := va_Qi (fun (r9 : Int32) (_ : Unit) => (r9 = kGet L i)) (ka (dC, dI) classes [(cI, .int), (cB, .byte), (cZ, .boolean)] (fun (_ : Unit) => [(w, .inr (1, [.ref a, .int (nI L.length), .int x, .int y, .int g, .int t])), (a, .inl (cI, 1024, .inl f))]) A) A
set_option maxHeartbeats 1000000 in
set_option maxRecDepth 100000 in
/-- Walk.codeAt -/
theorem c_Walk_codeAt (l : Launch) (dC : Nat → ClassId) (dI : Nat → Nat → Nat) (cI cB cZ : ClassId) (sz : Nat) (w : Nat) (a : Nat) (f : Nat → Int32) (L : List Int32) (x : Int32) (y : Int32) (g : Int32) (t : Int32) (i : Int32) (hW : WRow f L) : Met l y_Walk_codeAt w_Walk_codeAt ({ frames := 0, cells := 0, slots := 0, locals := 0 }) (va_Pc [.ref w, .int i] (kp (dC, dI) classes [(cI, .int), (cB, .byte), (cZ, .boolean)] [(w, .inr (1, [.ref a, .int (nI L.length), .int x, .int y, .int g, .int t])), (a, .inl (cI, 1024, .inl f))] sz)) (Qc_Walk_codeAt dC dI cI cB cZ w a f L x y g t i (va_A [(w, .inr (1, [.ref a, .int (nI L.length), .int x, .int y, .int g, .int t])), (a, .inl (cI, 1024, .inl f))] sz)) 0 0 (va_A [(w, .inr (1, [.ref a, .int (nI L.length), .int x, .int y, .int g, .int t])), (a, .inl (cI, 1024, .inl f))] sz) := by
  refine Met.ofW (cc := prog_5_method_4_code) (maxL := 2) (ret := (some .int)) (by decide) rfl ?_
  intro p e s m args below meth c s₁ B hml hv
  obtain ⟨rfl, hsz, hP, hK, hD0⟩ := hv
  have hx := B.exec
  have hb := B.bytes
  have hr := B.returns
  have hts := fun w h => atoms_spec (ws := w_Walk_codeAt) B.pre w (List.mem_cons_of_mem _ h)
  have hown : s.vm.findClass "DemoTape$Walk" = some m.cls := findClass_of_methodNamed B.named
  have hlocks := B.notSynchronized
  subst hsz
  have hD := hD0.self (sz := s.heap.size)
  generalize hAe : va_A ([(w, .inr (1, [.ref a, .int (nI L.length), .int x, .int y, .int g, .int t])), (a, .inl (cI, 1024, .inl f))] : va_W) s.heap.size = A at hD ⊢
  have hA : ∀ q : Nat, s.heap.size ≤ q → A q := fun q h => by rw [← hAe]; exact Or.inr h
  have hS : va_S A s.heap s.heap [] := va_S.rf
  have hP : va_P (dC, dI) classes [(w, .inr (1, [.ref a, .int (nI L.length), .int x, .int y, .int g, .int t])), (a, .inl (cI, 1024, .inl f))] s.heap := hP
  obtain ⟨hf, hL⟩ := id hW
  have hl := lv_entry ([.ref w, .int i]) (n := 2) (Nat.le_of_ble_eq_true rfl)
  rw [lg_entry_eq]
  generalize (lg_sl ([.ref w, .int i]) ++ List.replicate (2 - (lg_sl ([.ref w, .int i])).length) Slot.unset).toArray = ls at hl ⊢
  have hl : lv_has ls 2 [(0, .ref w), (1, .int i)] := hl
  refine lv_iload_n hx hb d_Walk_codeAt_0 rfl (lv_at hl 1 rfl) ?_
  refine lv_if_lt (tgt := 30) hx hb d_Walk_codeAt_1 (by decide) (fun c_1 => ?_) (fun c_1 => ?_)
  · refine lv_iconst (v := -1) hx hb d_Walk_codeAt_30 (by decide) ?_
    exact kr_i (v := -1) () hx hb hr rfl hK (hP.sub [0, 1] (rfl)) (hD.sub [0, 1] (by decide) (rfl)) hS ((kGet_neg c_1).symm) d_Walk_codeAt_31 hlocks
  · obtain ⟨j, hj, rfl⟩ := nI_of c_1
    refine lv_iload_n hx hb d_Walk_codeAt_4 rfl (lv_at hl 1 rfl) ?_
    refine lv_aload_n hx hb d_Walk_codeAt_5 rfl (lv_at hl 0 rfl) ?_
    refine va_get (D := (dC, dI)) (ci := 1) (v := .int (nI L.length)) (C := "DemoTape$Walk") (T := F_Walk) (N := 6) hx hb hts i_Walk hown hK hP 0 rfl rfl 1 (by decide) (hts _ mw48) (fun _ h9 => h9) rfl d_Walk_codeAt_6 ?_
    refine lv_icmp_ge (tgt := 30) hx hb d_Walk_codeAt_9 (by decide) (fun c_9 => ?_) (fun c_9 => ?_)
    · have n_9 := kn_le (a := L.length) (b := j) c_9 rfl rfl (by omega) (by omega)
      refine lv_iconst (v := -1) hx hb d_Walk_codeAt_30 (by decide) ?_
      exact kr_i (v := -1) () hx hb hr rfl hK (hP.sub [0, 1] (rfl)) (hD.sub [0, 1] (by decide) (rfl)) hS (by rw [kGet_nI hj, List.getElem?_eq_none n_9]; rfl) d_Walk_codeAt_31 hlocks
    · have n_9 := kn_nle (a := L.length) (b := j) c_9 rfl rfl (by omega) (by omega)
      refine lv_iload_n hx hb d_Walk_codeAt_12 rfl (lv_at hl 1 rfl) ?_
      refine lv_aload_n hx hb d_Walk_codeAt_13 rfl (lv_at hl 0 rfl) ?_
      refine va_get (D := (dC, dI)) (ci := 1) (v := .ref a) (C := "DemoTape$Walk") (T := F_Walk) (N := 6) hx hb hts i_Walk hown hK hP 0 rfl rfl 0 (by decide) (hts _ mw47) (fun _ h9 => h9) rfl d_Walk_codeAt_14 ?_
      refine va_alen (v := nI 1024) hx hb hK hP 1 0 rfl rfl rfl d_Walk_codeAt_17 ?_
      refine lv_icmp_ge (tgt := 30) hx hb d_Walk_codeAt_18 (by decide) (fun c_18 => ?_) (fun c_18 => ?_)
      · have n_18 := kn_le (a := 1024) (b := j) c_18 rfl rfl (by omega) (by omega)
        refine lv_iconst (v := -1) hx hb d_Walk_codeAt_30 (by decide) ?_
        exact kr_i (v := -1) () hx hb hr rfl hK (hP.sub [0, 1] (rfl)) (hD.sub [0, 1] (by decide) (rfl)) hS (absurd n_18 (by omega)) d_Walk_codeAt_31 hlocks
      · have n_18 := kn_nle (a := 1024) (b := j) c_18 rfl rfl (by omega) (by omega)
        refine lv_aload_n hx hb d_Walk_codeAt_21 rfl (lv_at hl 0 rfl) ?_
        refine va_get (D := (dC, dI)) (ci := 1) (v := .ref a) (C := "DemoTape$Walk") (T := F_Walk) (N := 6) hx hb hts i_Walk hown hK hP 0 rfl rfl 0 (by decide) (hts _ mw47) (fun _ h9 => h9) rfl d_Walk_codeAt_22 ?_
        refine lv_iload_n hx hb d_Walk_codeAt_25 rfl (lv_at hl 1 rfl) ?_
        refine kt_iald (j := j) hx hb hK hP 1 0 rfl rfl (by omega) (by decide) d_Walk_codeAt_26 ?_
        refine lv_goto (tgt := 31) hx hb d_Walk_codeAt_27 (by decide) ?_
        exact kr_i (v := f j) () hx hb hr rfl hK (hP.sub [0, 1] (rfl)) (hD.sub [0, 1] (by decide) (rfl)) hS (by rw [kGet_nI hj]; exact hf.at n_9) d_Walk_codeAt_31 hlocks
abbrev Qc_Walk_setStart (dC : Nat → ClassId) (dI : Nat → Nat → Nat) (cI cB cZ : ClassId) (w : Nat) (a : Nat) (f : Nat → Int32) (L : List Int32) (x : Int32) (y : Int32) (g : Int32) (t : Int32) (x1 : Int32) (y1 : Int32) (g1 : Int32) (t1 : Int32) (A : Nat → Prop) := va_Qv (fun (_ : Unit) => True) (ka (dC, dI) classes [(cI, .int), (cB, .byte), (cZ, .boolean)] (fun (_ : Unit) => [(w, .inr (1, [.ref a, .int (nI L.length), .int x1, .int y1, .int g1, .int t1])), (a, .inl (cI, 1024, .inl f))]) A) A
set_option maxHeartbeats 1000000 in
set_option maxRecDepth 100000 in
/-- Walk.setStart -/
theorem c_Walk_setStart (l : Launch) (dC : Nat → ClassId) (dI : Nat → Nat → Nat) (cI cB cZ : ClassId) (sz : Nat) (w : Nat) (a : Nat) (f : Nat → Int32) (L : List Int32) (x : Int32) (y : Int32) (g : Int32) (t : Int32) (x1 : Int32) (y1 : Int32) (g1 : Int32) (t1 : Int32)  : Met l y_Walk_setStart w_Walk_setStart ({ frames := 0, cells := 0, slots := 0, locals := 0 }) (va_Pc [.ref w, .int x1, .int y1, .int g1, .int t1] (kp (dC, dI) classes [(cI, .int), (cB, .byte), (cZ, .boolean)] [(w, .inr (1, [.ref a, .int (nI L.length), .int x, .int y, .int g, .int t])), (a, .inl (cI, 1024, .inl f))] sz)) (Qc_Walk_setStart dC dI cI cB cZ w a f L x y g t x1 y1 g1 t1 (va_A [(w, .inr (1, [.ref a, .int (nI L.length), .int x, .int y, .int g, .int t])), (a, .inl (cI, 1024, .inl f))] sz)) 0 0 (va_A [(w, .inr (1, [.ref a, .int (nI L.length), .int x, .int y, .int g, .int t])), (a, .inl (cI, 1024, .inl f))] sz) := by
  refine Met.ofW (cc := prog_5_method_5_code) (maxL := 5) (ret := none) (by decide) rfl ?_
  intro p e s m args below meth c s₁ B hml hv
  obtain ⟨rfl, hsz, hP, hK, hD0⟩ := hv
  have hx := B.exec
  have hb := B.bytes
  have hr := B.returns
  have hts := fun w h => atoms_spec (ws := w_Walk_setStart) B.pre w (List.mem_cons_of_mem _ h)
  have hown : s.vm.findClass "DemoTape$Walk" = some m.cls := findClass_of_methodNamed B.named
  have hlocks := B.notSynchronized
  subst hsz
  have hD := hD0.self (sz := s.heap.size)
  generalize hAe : va_A ([(w, .inr (1, [.ref a, .int (nI L.length), .int x, .int y, .int g, .int t])), (a, .inl (cI, 1024, .inl f))] : va_W) s.heap.size = A at hD ⊢
  have hA : ∀ q : Nat, s.heap.size ≤ q → A q := fun q h => by rw [← hAe]; exact Or.inr h
  have hS : va_S A s.heap s.heap [] := va_S.rf
  have hP : va_P (dC, dI) classes [(w, .inr (1, [.ref a, .int (nI L.length), .int x, .int y, .int g, .int t])), (a, .inl (cI, 1024, .inl f))] s.heap := hP
  have hl := lv_entry ([.ref w, .int x1, .int y1, .int g1, .int t1]) (n := 5) (Nat.le_of_ble_eq_true rfl)
  rw [lg_entry_eq]
  generalize (lg_sl ([.ref w, .int x1, .int y1, .int g1, .int t1]) ++ List.replicate (5 - (lg_sl ([.ref w, .int x1, .int y1, .int g1, .int t1])).length) Slot.unset).toArray = ls at hl ⊢
  have hl : lv_has ls 5 [(0, .ref w), (1, .int x1), (2, .int y1), (3, .int g1), (4, .int t1)] := hl
  refine lv_aload_n hx hb d_Walk_setStart_0 rfl (lv_at hl 0 rfl) ?_
  refine lv_iload_n hx hb d_Walk_setStart_1 rfl (lv_at hl 1 rfl) ?_
  refine va_put (D := (dC, dI)) (ci := 1) (v := .int x1) (ty := .int) (C := "DemoTape$Walk") (T := F_Walk) (N := 6) hx hb hts i_Walk t_Walk t_Walk_ok n_Walk hown hK hP hD hS 0 rfl rfl 2 (by decide) (hts _ mw49) (fun _ h9 => h9) rfl (by decide +kernel) rfl rfl (Nat.le_of_ble_eq_true rfl) d_Walk_setStart_2 (fun H locs hP hD hS => ?_)
  have hP : va_P (dC, dI) classes [(w, .inr (1, [.ref a, .int (nI L.length), .int x1, .int y, .int g, .int t])), (a, .inl (cI, 1024, .inl f))] H := hP
  have hD : va_D A [(w, .inr (1, [.ref a, .int (nI L.length), .int x1, .int y, .int g, .int t])), (a, .inl (cI, 1024, .inl f))] := hD
  refine lv_aload_n hx hb d_Walk_setStart_5 rfl (lv_at hl 0 rfl) ?_
  refine lv_iload_n hx hb d_Walk_setStart_6 rfl (lv_at hl 2 rfl) ?_
  refine va_put (D := (dC, dI)) (ci := 1) (v := .int y1) (ty := .int) (C := "DemoTape$Walk") (T := F_Walk) (N := 6) hx hb hts i_Walk t_Walk t_Walk_ok n_Walk hown hK hP hD hS 0 rfl rfl 3 (by decide) (hts _ mw50) (fun _ h9 => h9) rfl (by decide +kernel) rfl rfl (Nat.le_of_ble_eq_true rfl) d_Walk_setStart_7 (fun H locs hP hD hS => ?_)
  have hP : va_P (dC, dI) classes [(w, .inr (1, [.ref a, .int (nI L.length), .int x1, .int y1, .int g, .int t])), (a, .inl (cI, 1024, .inl f))] H := hP
  have hD : va_D A [(w, .inr (1, [.ref a, .int (nI L.length), .int x1, .int y1, .int g, .int t])), (a, .inl (cI, 1024, .inl f))] := hD
  refine lv_aload_n hx hb d_Walk_setStart_10 rfl (lv_at hl 0 rfl) ?_
  refine lv_iload_n hx hb d_Walk_setStart_11 rfl (lv_at hl 3 rfl) ?_
  refine va_put (D := (dC, dI)) (ci := 1) (v := .int g1) (ty := .int) (C := "DemoTape$Walk") (T := F_Walk) (N := 6) hx hb hts i_Walk t_Walk t_Walk_ok n_Walk hown hK hP hD hS 0 rfl rfl 4 (by decide) (hts _ mw51) (fun _ h9 => h9) rfl (by decide +kernel) rfl rfl (Nat.le_of_ble_eq_true rfl) d_Walk_setStart_12 (fun H locs hP hD hS => ?_)
  have hP : va_P (dC, dI) classes [(w, .inr (1, [.ref a, .int (nI L.length), .int x1, .int y1, .int g1, .int t])), (a, .inl (cI, 1024, .inl f))] H := hP
  have hD : va_D A [(w, .inr (1, [.ref a, .int (nI L.length), .int x1, .int y1, .int g1, .int t])), (a, .inl (cI, 1024, .inl f))] := hD
  refine lv_aload_n hx hb d_Walk_setStart_15 rfl (lv_at hl 0 rfl) ?_
  refine lv_iload hx hb d_Walk_setStart_16 (lv_at hl 4 rfl) ?_
  refine va_put (D := (dC, dI)) (ci := 1) (v := .int t1) (ty := .int) (C := "DemoTape$Walk") (T := F_Walk) (N := 6) hx hb hts i_Walk t_Walk t_Walk_ok n_Walk hown hK hP hD hS 0 rfl rfl 5 (by decide) (hts _ mw52) (fun _ h9 => h9) rfl (by decide +kernel) rfl rfl (Nat.le_of_ble_eq_true rfl) d_Walk_setStart_18 (fun H locs hP hD hS => ?_)
  have hP : va_P (dC, dI) classes [(w, .inr (1, [.ref a, .int (nI L.length), .int x1, .int y1, .int g1, .int t1])), (a, .inl (cI, 1024, .inl f))] H := hP
  have hD : va_D A [(w, .inr (1, [.ref a, .int (nI L.length), .int x1, .int y1, .int g1, .int t1])), (a, .inl (cI, 1024, .inl f))] := hD
  exact kr_v () hx hb hr hK (hP.sub [0, 1] (rfl)) (hD.sub [0, 1] (by decide) (rfl)) hS trivial d_Walk_setStart_21 hlocks
abbrev Qc_Walk_startPart (dC : Nat → ClassId) (dI : Nat → Nat → Nat) (cI cB cZ : ClassId) (w : Nat) (a : Nat) (f : Nat → Int32) (L : List Int32) (x : Int32) (y : Int32) (g : Int32) (t : Int32) (wh : Int32) (A : Nat → Prop) := va_Qi (fun (r9 : Int32) (_ : Unit) => (r9 = kStart x y g t wh)) (ka (dC, dI) classes [(cI, .int), (cB, .byte), (cZ, .boolean)] (fun (_ : Unit) => [(w, .inr (1, [.ref a, .int (nI L.length), .int x, .int y, .int g, .int t])), (a, .inl (cI, 1024, .inl f))]) A) A
set_option maxHeartbeats 1000000 in
set_option maxRecDepth 100000 in
/-- Walk.startPart -/
theorem c_Walk_startPart (l : Launch) (dC : Nat → ClassId) (dI : Nat → Nat → Nat) (cI cB cZ : ClassId) (sz : Nat) (w : Nat) (a : Nat) (f : Nat → Int32) (L : List Int32) (x : Int32) (y : Int32) (g : Int32) (t : Int32) (wh : Int32)  : Met l y_Walk_startPart w_Walk_startPart ({ frames := 0, cells := 0, slots := 0, locals := 0 }) (va_Pc [.ref w, .int wh] (kp (dC, dI) classes [(cI, .int), (cB, .byte), (cZ, .boolean)] [(w, .inr (1, [.ref a, .int (nI L.length), .int x, .int y, .int g, .int t])), (a, .inl (cI, 1024, .inl f))] sz)) (Qc_Walk_startPart dC dI cI cB cZ w a f L x y g t wh (va_A [(w, .inr (1, [.ref a, .int (nI L.length), .int x, .int y, .int g, .int t])), (a, .inl (cI, 1024, .inl f))] sz)) 0 0 (va_A [(w, .inr (1, [.ref a, .int (nI L.length), .int x, .int y, .int g, .int t])), (a, .inl (cI, 1024, .inl f))] sz) := by
  refine Met.ofW (cc := prog_5_method_6_code) (maxL := 2) (ret := (some .int)) (by decide) rfl ?_
  intro p e s m args below meth c s₁ B hml hv
  obtain ⟨rfl, hsz, hP, hK, hD0⟩ := hv
  have hx := B.exec
  have hb := B.bytes
  have hr := B.returns
  have hts := fun w h => atoms_spec (ws := w_Walk_startPart) B.pre w (List.mem_cons_of_mem _ h)
  have hown : s.vm.findClass "DemoTape$Walk" = some m.cls := findClass_of_methodNamed B.named
  have hlocks := B.notSynchronized
  subst hsz
  have hD := hD0.self (sz := s.heap.size)
  generalize hAe : va_A ([(w, .inr (1, [.ref a, .int (nI L.length), .int x, .int y, .int g, .int t])), (a, .inl (cI, 1024, .inl f))] : va_W) s.heap.size = A at hD ⊢
  have hA : ∀ q : Nat, s.heap.size ≤ q → A q := fun q h => by rw [← hAe]; exact Or.inr h
  have hS : va_S A s.heap s.heap [] := va_S.rf
  have hP : va_P (dC, dI) classes [(w, .inr (1, [.ref a, .int (nI L.length), .int x, .int y, .int g, .int t])), (a, .inl (cI, 1024, .inl f))] s.heap := hP
  have hl := lv_entry ([.ref w, .int wh]) (n := 2) (Nat.le_of_ble_eq_true rfl)
  rw [lg_entry_eq]
  generalize (lg_sl ([.ref w, .int wh]) ++ List.replicate (2 - (lg_sl ([.ref w, .int wh])).length) Slot.unset).toArray = ls at hl ⊢
  have hl : lv_has ls 2 [(0, .ref w), (1, .int wh)] := hl
  refine lv_iload_n hx hb d_Walk_startPart_0 rfl (lv_at hl 1 rfl) ?_
  by_cases c_1 : wh.toInt < 0 ∨ 3 < wh.toInt
  · refine lv_tableOut (tgt := 52) hx hb d_Walk_startPart_1 c_1 (by decide) ?_
    refine lv_ldc (v := 100000) hx hb hown (hts _ mw356) d_Walk_startPart_52 ?_
    exact kr_i (v := 100000) () hx hb hr rfl hK (hP.sub [0, 1] (rfl)) (hD.sub [0, 1] (by decide) (rfl)) hS ((kStart_out c_1).symm) d_Walk_startPart_54 hlocks
  · by_cases c_1_0 : wh = 0
    · refine lv_tableIn (tgt := 32) (off := 31) hx hb d_Walk_startPart_1 (by rw [c_1_0]; decide) (by rw [c_1_0]; decide) (by rw [c_1_0]; rfl) (by decide) ?_
      refine lv_aload_n hx hb d_Walk_startPart_32 rfl (lv_at hl 0 rfl) ?_
      refine va_get (D := (dC, dI)) (ci := 1) (v := .int x) (C := "DemoTape$Walk") (T := F_Walk) (N := 6) hx hb hts i_Walk hown hK hP 0 rfl rfl 2 (by decide) (hts _ mw49) (fun _ h9 => h9) rfl d_Walk_startPart_33 ?_
      exact kr_i (v := x) () hx hb hr rfl hK (hP.sub [0, 1] (rfl)) (hD.sub [0, 1] (by decide) (rfl)) hS (by rw [c_1_0]; rfl) d_Walk_startPart_36 hlocks
    · by_cases c_1_1 : wh = 1
      · refine lv_tableIn (tgt := 37) (off := 36) hx hb d_Walk_startPart_1 (by rw [c_1_1]; decide) (by rw [c_1_1]; decide) (by rw [c_1_1]; rfl) (by decide) ?_
        refine lv_aload_n hx hb d_Walk_startPart_37 rfl (lv_at hl 0 rfl) ?_
        refine va_get (D := (dC, dI)) (ci := 1) (v := .int y) (C := "DemoTape$Walk") (T := F_Walk) (N := 6) hx hb hts i_Walk hown hK hP 0 rfl rfl 3 (by decide) (hts _ mw50) (fun _ h9 => h9) rfl d_Walk_startPart_38 ?_
        exact kr_i (v := y) () hx hb hr rfl hK (hP.sub [0, 1] (rfl)) (hD.sub [0, 1] (by decide) (rfl)) hS (by rw [c_1_1]; rfl) d_Walk_startPart_41 hlocks
      · by_cases c_1_2 : wh = 2
        · refine lv_tableIn (tgt := 42) (off := 41) hx hb d_Walk_startPart_1 (by rw [c_1_2]; decide) (by rw [c_1_2]; decide) (by rw [c_1_2]; rfl) (by decide) ?_
          refine lv_aload_n hx hb d_Walk_startPart_42 rfl (lv_at hl 0 rfl) ?_
          refine va_get (D := (dC, dI)) (ci := 1) (v := .int g) (C := "DemoTape$Walk") (T := F_Walk) (N := 6) hx hb hts i_Walk hown hK hP 0 rfl rfl 4 (by decide) (hts _ mw51) (fun _ h9 => h9) rfl d_Walk_startPart_43 ?_
          exact kr_i (v := g) () hx hb hr rfl hK (hP.sub [0, 1] (rfl)) (hD.sub [0, 1] (by decide) (rfl)) hS (by rw [c_1_2]; rfl) d_Walk_startPart_46 hlocks
        · have c_1_3 : wh = 3 := by have h100 : wh.toInt ≠ 0 := fun h => c_1_0 (Int32.toInt_inj.mp (h.trans (by decide))); have h101 : wh.toInt ≠ 1 := fun h => c_1_1 (Int32.toInt_inj.mp (h.trans (by decide))); have h102 : wh.toInt ≠ 2 := fun h => c_1_2 (Int32.toInt_inj.mp (h.trans (by decide))); apply Int32.toInt_inj.mp; have h0 : (3 : Int32).toInt = 3 := (by decide); rw [h0]; omega
          refine lv_tableIn (tgt := 47) (off := 46) hx hb d_Walk_startPart_1 (by rw [c_1_3]; decide) (by rw [c_1_3]; decide) (by rw [c_1_3]; rfl) (by decide) ?_
          refine lv_aload_n hx hb d_Walk_startPart_47 rfl (lv_at hl 0 rfl) ?_
          refine va_get (D := (dC, dI)) (ci := 1) (v := .int t) (C := "DemoTape$Walk") (T := F_Walk) (N := 6) hx hb hts i_Walk hown hK hP 0 rfl rfl 5 (by decide) (hts _ mw52) (fun _ h9 => h9) rfl d_Walk_startPart_48 ?_
          exact kr_i (v := t) () hx hb hr rfl hK (hP.sub [0, 1] (rfl)) (hD.sub [0, 1] (by decide) (rfl)) hS (by rw [c_1_3]; rfl) d_Walk_startPart_51 hlocks
abbrev Qc_Walk_append (dC : Nat → ClassId) (dI : Nat → Nat → Nat) (cI cB cZ : ClassId) (w : Nat) (a : Nat) (f : Nat → Int32) (L : List Int32) (x : Int32) (y : Int32) (g : Int32) (t : Int32) (cd : Int32) (k : Nat) (A : Nat → Prop) := va_Qv (fun (u9 : (Nat → Int32)) => (WRow u9 (L ++ List.replicate k cd))) (ka (dC, dI) classes [(cI, .int), (cB, .byte), (cZ, .boolean)] (fun (u9 : (Nat → Int32)) => [(w, .inr (1, [.ref a, .int (nI (L ++ List.replicate k cd).length), .int x, .int y, .int g, .int t])), (a, .inl (cI, 1024, .inl u9))]) A) A
set_option maxHeartbeats 1000000 in
set_option maxRecDepth 100000 in
/-- Walk.append -/
theorem c_Walk_append (l : Launch) (dC : Nat → ClassId) (dI : Nat → Nat → Nat) (cI cB cZ : ClassId) (sz : Nat) (w : Nat) (a : Nat) (f : Nat → Int32) (L : List Int32) (x : Int32) (y : Int32) (g : Int32) (t : Int32) (cd : Int32) (k : Nat) (hW : WRow f L) (hk : L.length + k ≤ 1024) : Met l y_Walk_append w_Walk_append ({ frames := 1, cells := 0, slots := 0, locals := 13 }) (va_Pc [.ref w, .int cd, .int (nI k)] (kp (dC, dI) classes [(cI, .int), (cB, .byte), (cZ, .boolean)] [(w, .inr (1, [.ref a, .int (nI L.length), .int x, .int y, .int g, .int t])), (a, .inl (cI, 1024, .inl f))] sz)) (Qc_Walk_append dC dI cI cB cZ w a f L x y g t cd k (va_A [(w, .inr (1, [.ref a, .int (nI L.length), .int x, .int y, .int g, .int t])), (a, .inl (cI, 1024, .inl f))] sz)) 0 0 (va_A [(w, .inr (1, [.ref a, .int (nI L.length), .int x, .int y, .int g, .int t])), (a, .inl (cI, 1024, .inl f))] sz) := by
  refine Met.ofW (cc := prog_5_method_7_code) (maxL := 5) (ret := none) (by decide) rfl ?_
  intro p e s m args below meth c s₁ B hml hv
  obtain ⟨rfl, hsz, hP, hK, hD0⟩ := hv
  have hx := B.exec
  have hb := B.bytes
  have hr := B.returns
  have hts := fun w h => atoms_spec (ws := w_Walk_append) B.pre w (List.mem_cons_of_mem _ h)
  have hown : s.vm.findClass "DemoTape$Walk" = some m.cls := findClass_of_methodNamed B.named
  have hlocks := B.notSynchronized
  subst hsz
  have hD := hD0.self (sz := s.heap.size)
  generalize hAe : va_A ([(w, .inr (1, [.ref a, .int (nI L.length), .int x, .int y, .int g, .int t])), (a, .inl (cI, 1024, .inl f))] : va_W) s.heap.size = A at hD ⊢
  have hA : ∀ q : Nat, s.heap.size ≤ q → A q := fun q h => by rw [← hAe]; exact Or.inr h
  have hS : va_S A s.heap s.heap [] := va_S.rf
  have hP : va_P (dC, dI) classes [(w, .inr (1, [.ref a, .int (nI L.length), .int x, .int y, .int g, .int t])), (a, .inl (cI, 1024, .inl f))] s.heap := hP
  obtain ⟨hf, hL⟩ := id hW
  have hl := lv_entry ([.ref w, .int cd, .int (nI k)]) (n := 5) (Nat.le_of_ble_eq_true rfl)
  rw [lg_entry_eq]
  generalize (lg_sl ([.ref w, .int cd, .int (nI k)]) ++ List.replicate (5 - (lg_sl ([.ref w, .int cd, .int (nI k)])).length) Slot.unset).toArray = ls at hl ⊢
  have hl : lv_has ls 5 [(0, .ref w), (1, .int cd), (2, .int (nI k))] := hl
  have J_21 : ∀ (fuel : Nat) (j : Nat) (f2 : Nat → Int32), (k - j < fuel) → (j ≤ k) → (Hold f2 (L ++ List.replicate j cd)) → ∀ (H : Heap) (locs : List Loc), va_P (dC, dI) classes [(w, .inr (1, [.ref a, .int (nI L.length), .int x, .int y, .int g, .int t])), (a, .inl (cI, 1024, .inl f2))] H → va_D A [(w, .inr (1, [.ref a, .int (nI L.length), .int x, .int y, .int g, .int t])), (a, .inl (cI, 1024, .inl f2))] → va_S A s.heap H locs → ∀ (ls : Array Slot), lv_has ls 5 [(0, .ref w), (1, .int cd), (3, .int (nI (L.length + k))), (4, .int (nI (L.length + j)))] → W p l e (headSpec w_Walk_append ({ frames := 1, cells := 0, slots := 0, locals := 13 })).room s m [.ref w, .int cd, .int (nI k)].toArray below meth c H locs 0 0 (MQ below (Qc_Walk_append dC dI cI cB cZ w a f L x y g t cd k A) [.ref w, .int cd, .int (nI k)].toArray s 0 0 A) (F0 m 21 ls []) := by
    intro fuel
    induction fuel with
    | zero => intro j f2 hm; exact absurd hm (Nat.not_lt_zero _)
    | succ fuel ih_21 =>
      intro j f2 hm hj hf2 H locs hP hD hS ls hl
      refine lv_iload hx hb d_Walk_append_21 (lv_at hl 3 rfl) ?_
      refine lv_iload_n hx hb d_Walk_append_23 rfl (lv_at hl 2 rfl) ?_
      refine lv_icmp_ge (tgt := 41) hx hb d_Walk_append_24 (by decide) (fun c_24 => ?_) (fun c_24 => ?_)
      · have n_24 := kn_le (a := L.length + k) (b := L.length + j) c_24 rfl rfl (by omega) (by omega)
        refine lv_aload_n hx hb d_Walk_append_41 rfl (lv_at hl 0 rfl) ?_
        refine lv_iload_n hx hb d_Walk_append_42 rfl (lv_at hl 2 rfl) ?_
        refine kt_i (y := nI (L ++ List.replicate k cd).length) (by rw [List.length_append, List.length_replicate]) ?_
        refine va_put (D := (dC, dI)) (ci := 1) (v := .int (nI (L ++ List.replicate k cd).length)) (ty := .int) (C := "DemoTape$Walk") (T := F_Walk) (N := 6) hx hb hts i_Walk t_Walk t_Walk_ok n_Walk hown hK hP hD hS 0 rfl rfl 1 (by decide) (hts _ mw48) (fun _ h9 => h9) rfl (by decide +kernel) rfl rfl (Nat.le_of_ble_eq_true rfl) d_Walk_append_43 (fun H locs hP hD hS => ?_)
        have hP : va_P (dC, dI) classes [(w, .inr (1, [.ref a, .int (nI (L ++ List.replicate k cd).length), .int x, .int y, .int g, .int t])), (a, .inl (cI, 1024, .inl f2))] H := hP
        have hD : va_D A [(w, .inr (1, [.ref a, .int (nI (L ++ List.replicate k cd).length), .int x, .int y, .int g, .int t])), (a, .inl (cI, 1024, .inl f2))] := hD
        exact kr_v f2 hx hb hr hK (hP.sub [0, 1] (rfl)) (hD.sub [0, 1] (by decide) (rfl)) hS (by have e9 : k = j := (by omega); rw [e9]; exact ⟨hf2, by rw [List.length_append, List.length_replicate]; omega⟩) d_Walk_append_46 hlocks
      · have n_24 := kn_nle (a := L.length + k) (b := L.length + j) c_24 rfl rfl (by omega) (by omega)
        refine lv_aload_n hx hb d_Walk_append_27 rfl (lv_at hl 0 rfl) ?_
        refine va_get (D := (dC, dI)) (ci := 1) (v := .ref a) (C := "DemoTape$Walk") (T := F_Walk) (N := 6) hx hb hts i_Walk hown hK hP 0 rfl rfl 0 (by decide) (hts _ mw47) (fun _ h9 => h9) rfl d_Walk_append_28 ?_
        refine lv_iload hx hb d_Walk_append_31 (lv_at hl 3 rfl) ?_
        refine lv_iload_n hx hb d_Walk_append_33 rfl (lv_at hl 1 rfl) ?_
        refine kt_iast (j := L.length + j) hx hb hK hP hD hS 1 0 rfl rfl (by omega) (by decide) d_Walk_append_34 (fun H locs hP hD hS => ?_)
        have hP : va_P (dC, dI) classes [(w, .inr (1, [.ref a, .int (nI L.length), .int x, .int y, .int g, .int t])), (a, .inl (cI, 1024, .inl (upd f2 (L.length + j) cd)))] H := hP
        have hD : va_D A [(w, .inr (1, [.ref a, .int (nI L.length), .int x, .int y, .int g, .int t])), (a, .inl (cI, 1024, .inl (upd f2 (L.length + j) cd)))] := hD
        refine lv_iinc (v := nI (L.length + j + 1)) (lv' := [(4, .int (nI (L.length + j + 1))), (0, .ref w), (1, .int cd), (3, .int (nI (L.length + k)))]) hx hb d_Walk_append_35 hl (k := 3) rfl (by first | rfl | exact nI_1 _) (by decide) rfl (fun ls hl => ?_)
        refine lv_goto (tgt := 21) hx hb d_Walk_append_38 (by decide) ?_
        exact ih_21 (j + 1) (upd f2 (L.length + j) cd) (by omega) (by first | with_reducible assumption | omega) (by have h9 := hf2.push cd; rw [List.length_append, List.length_replicate] at h9; rw [List.replicate_succ', ← List.append_assoc]; exact h9) _ _ (hP.sub [0, 1] (rfl)) (hD.sub [0, 1] (by decide) (rfl)) hS ls (lv_sub hl [1, 2, 3, 0] rfl)
  refine lv_aload_n hx hb d_Walk_append_0 rfl (lv_at hl 0 rfl) ?_
  refine va_get (D := (dC, dI)) (ci := 1) (v := .int (nI L.length)) (C := "DemoTape$Walk") (T := F_Walk) (N := 6) hx hb hts i_Walk hown hK hP 0 rfl rfl 1 (by decide) (hts _ mw48) (fun _ h9 => h9) rfl d_Walk_append_1 ?_
  refine lv_iload_n hx hb d_Walk_append_4 rfl (lv_at hl 2 rfl) ?_
  refine lv_iadd hx hb d_Walk_append_5 ?_
  refine kt_i (y := nI (L.length + k)) (nI_add _ _) ?_
  refine lv_aload_n hx hb d_Walk_append_6 rfl (lv_at hl 0 rfl) ?_
  refine va_get (D := (dC, dI)) (ci := 1) (v := .ref a) (C := "DemoTape$Walk") (T := F_Walk) (N := 6) hx hb hts i_Walk hown hK hP 0 rfl rfl 0 (by decide) (hts _ mw47) (fun _ h9 => h9) rfl d_Walk_append_7 ?_
  refine va_alen (v := nI 1024) hx hb hK hP 1 0 rfl rfl rfl d_Walk_append_10 ?_
  refine va_mmin hx hb (by rw [hml]; exact hl.1.symm) hown (hts _ mw149) (hts _ mw150) (hts _ mw28) (hts _ mw151) (Nat.le_of_ble_eq_true rfl) (Nat.le_of_ble_eq_true rfl) (Nat.le_of_ble_eq_true rfl) (Nat.le_of_ble_eq_true rfl) d_Walk_append_11 ?_
  refine kt_i (y := nI (L.length + k)) (if_neg (fun q => by have := kn_lt q rfl rfl (by omega) (by omega); omega)) ?_
  refine lv_istore_n (lv' := [(3, .int (nI (L.length + k))), (0, .ref w), (1, .int cd), (2, .int (nI k))]) hx hb d_Walk_append_14 rfl hl (by decide) rfl (fun ls hl => ?_)
  refine lv_aload_n hx hb d_Walk_append_15 rfl (lv_at hl 1 rfl) ?_
  refine va_get (D := (dC, dI)) (ci := 1) (v := .int (nI L.length)) (C := "DemoTape$Walk") (T := F_Walk) (N := 6) hx hb hts i_Walk hown hK hP 0 rfl rfl 1 (by decide) (hts _ mw48) (fun _ h9 => h9) rfl d_Walk_append_16 ?_
  refine lv_istore (lv' := [(4, .int (nI L.length)), (3, .int (nI (L.length + k))), (0, .ref w), (1, .int cd), (2, .int (nI k))]) hx hb d_Walk_append_19 hl (by decide) rfl (fun ls hl => ?_)
  exact J_21 _ 0 f (Nat.lt_succ_self _) (by first | with_reducible assumption | omega) (by simpa using hf) _ _ (hP.sub [0, 1] (rfl)) (hD.sub [0, 1] (by decide) (rfl)) hS ls (lv_sub hl [2, 3, 1, 0] rfl)
abbrev Qc_Walk_repeat (dC : Nat → ClassId) (dI : Nat → Nat → Nat) (cI cB cZ : ClassId) (w : Nat) (a : Nat) (f : Nat → Int32) (L : List Int32) (x : Int32) (y : Int32) (g : Int32) (t : Int32) (ia : Nat) (k : Nat) (A : Nat → Prop) := va_Qv (fun (u9 : (Nat → Int32)) => (WRow u9 (L ++ (L.drop ia).take k))) (ka (dC, dI) classes [(cI, .int), (cB, .byte), (cZ, .boolean)] (fun (u9 : (Nat → Int32)) => [(w, .inr (1, [.ref a, .int (nI (L ++ (L.drop ia).take k).length), .int x, .int y, .int g, .int t])), (a, .inl (cI, 1024, .inl u9))]) A) A
set_option maxHeartbeats 1000000 in
set_option maxRecDepth 100000 in
/-- Walk.repeat -/
theorem c_Walk_repeat (l : Launch) (dC : Nat → ClassId) (dI : Nat → Nat → Nat) (cI cB cZ : ClassId) (sz : Nat) (w : Nat) (a : Nat) (f : Nat → Int32) (L : List Int32) (x : Int32) (y : Int32) (g : Int32) (t : Int32) (ia : Nat) (k : Nat) (hW : WRow f L) (h1 : ia + k ≤ L.length) (h2 : L.length + k ≤ 1024) : Met l y_Walk_repeat w_Walk_repeat ({ frames := 2, cells := 0, slots := 0, locals := 37 }) (va_Pc [.ref w, .int (nI ia), .int (nI k)] (kp (dC, dI) classes [(cI, .int), (cB, .byte), (cZ, .boolean)] [(w, .inr (1, [.ref a, .int (nI L.length), .int x, .int y, .int g, .int t])), (a, .inl (cI, 1024, .inl f))] sz)) (Qc_Walk_repeat dC dI cI cB cZ w a f L x y g t ia k (va_A [(w, .inr (1, [.ref a, .int (nI L.length), .int x, .int y, .int g, .int t])), (a, .inl (cI, 1024, .inl f))] sz)) 0 0 (va_A [(w, .inr (1, [.ref a, .int (nI L.length), .int x, .int y, .int g, .int t])), (a, .inl (cI, 1024, .inl f))] sz) := by
  refine Met.ofW (cc := prog_5_method_8_code) (maxL := 4) (ret := none) (by decide) rfl ?_
  intro p e s m args below meth c s₁ B hml hv
  obtain ⟨rfl, hsz, hP, hK, hD0⟩ := hv
  have hx := B.exec
  have hb := B.bytes
  have hr := B.returns
  have hts := fun w h => atoms_spec (ws := w_Walk_repeat) B.pre w (List.mem_cons_of_mem _ h)
  have hown : s.vm.findClass "DemoTape$Walk" = some m.cls := findClass_of_methodNamed B.named
  have hlocks := B.notSynchronized
  subst hsz
  have hD := hD0.self (sz := s.heap.size)
  generalize hAe : va_A ([(w, .inr (1, [.ref a, .int (nI L.length), .int x, .int y, .int g, .int t])), (a, .inl (cI, 1024, .inl f))] : va_W) s.heap.size = A at hD ⊢
  have hA : ∀ q : Nat, s.heap.size ≤ q → A q := fun q h => by rw [← hAe]; exact Or.inr h
  have hS : va_S A s.heap s.heap [] := va_S.rf
  have hP : va_P (dC, dI) classes [(w, .inr (1, [.ref a, .int (nI L.length), .int x, .int y, .int g, .int t])), (a, .inl (cI, 1024, .inl f))] s.heap := hP
  obtain ⟨hf, hL⟩ := id hW
  have hl := lv_entry ([.ref w, .int (nI ia), .int (nI k)]) (n := 4) (Nat.le_of_ble_eq_true rfl)
  rw [lg_entry_eq]
  generalize (lg_sl ([.ref w, .int (nI ia), .int (nI k)]) ++ List.replicate (4 - (lg_sl ([.ref w, .int (nI ia), .int (nI k)])).length) Slot.unset).toArray = ls at hl ⊢
  have hl : lv_has ls 4 [(0, .ref w), (1, .int (nI ia)), (2, .int (nI k))] := hl
  have J_2 : ∀ (fuel : Nat) (j : Nat) (f2 : Nat → Int32), (k - j < fuel) → (j ≤ k) → (WRow f2 (L ++ (L.drop ia).take j)) → ∀ (H : Heap) (locs : List Loc), va_P (dC, dI) classes [(w, .inr (1, [.ref a, .int (nI (L ++ (L.drop ia).take j).length), .int x, .int y, .int g, .int t])), (a, .inl (cI, 1024, .inl f2))] H → va_D A [(w, .inr (1, [.ref a, .int (nI (L ++ (L.drop ia).take j).length), .int x, .int y, .int g, .int t])), (a, .inl (cI, 1024, .inl f2))] → va_S A s.heap H locs → ∀ (ls : Array Slot), lv_has ls 4 [(0, .ref w), (1, .int (nI ia)), (2, .int (nI k)), (3, .int (nI j))] → W p l e (headSpec w_Walk_repeat ({ frames := 2, cells := 0, slots := 0, locals := 37 })).room s m [.ref w, .int (nI ia), .int (nI k)].toArray below meth c H locs 0 0 (MQ below (Qc_Walk_repeat dC dI cI cB cZ w a f L x y g t ia k A) [.ref w, .int (nI ia), .int (nI k)].toArray s 0 0 A) (F0 m 2 ls []) := by
    intro fuel
    induction fuel with
    | zero => intro j f2 hm; exact absurd hm (Nat.not_lt_zero _)
    | succ fuel ih_2 =>
      intro j f2 hm hj hf2 H locs hP hD hS ls hl
      refine lv_iload_n hx hb d_Walk_repeat_2 rfl (lv_at hl 3 rfl) ?_
      refine lv_iload_n hx hb d_Walk_repeat_3 rfl (lv_at hl 2 rfl) ?_
      refine lv_icmp_ge (tgt := 25) hx hb d_Walk_repeat_4 (by decide) (fun c_4 => ?_) (fun c_4 => ?_)
      · have n_4 := kn_le (a := k) (b := j) c_4 rfl rfl (by omega) (by omega)
        obtain rfl : k = j := by omega
        exact kr_v f2 hx hb hr hK (hP.sub [0, 1] (rfl)) (hD.sub [0, 1] (by decide) (rfl)) hS (hf2) d_Walk_repeat_25 hlocks
      · have n_4 := kn_nle (a := k) (b := j) c_4 rfl rfl (by omega) (by omega)
        refine lv_aload_n hx hb d_Walk_repeat_7 rfl (lv_at hl 0 rfl) ?_
        refine lv_aload_n hx hb d_Walk_repeat_8 rfl (lv_at hl 0 rfl) ?_
        refine lv_iload_n hx hb d_Walk_repeat_9 rfl (lv_at hl 1 rfl) ?_
        refine lv_iload_n hx hb d_Walk_repeat_10 rfl (lv_at hl 3 rfl) ?_
        refine lv_iadd hx hb d_Walk_repeat_11 ?_
        refine kt_i (y := nI (ia + j)) (nI_add _ _) ?_
        refine kq_i (wr := []) (va_runV (As := [.int (nI (ia + j))]) (rest := [.ref w]) ⟨hx, hb, hml, hown, hts⟩ (c_Walk_codeAt l dC dI cI cB cZ _ w a f2 (L ++ (L.drop ia).take j) x y g t (nI (ia + j)) (by first | with_reducible assumption | omega | decide)) (cwV 1 hts (gV mw173 mw174 mw175 mw26 mw176) rfl rfl rfl (by decide +kernel) ⟨Nat.le_of_ble_eq_true rfl, Nat.le_of_ble_eq_true rfl⟩) (kpV (wc := [(w, .inr (1, [.ref a, .int (nI (L ++ (L.drop ia).take j).length), .int x, .int y, .int g, .int t])), (a, .inl (cI, 1024, .inl f2))]) (q0 := 0) (ci := 1) hK hP hD [0, 1] rfl (by decide) rfl rfl rfl) rfl rfl hl.1 rfl (lv_room (Nat.le_of_ble_eq_true rfl)) d_Walk_repeat_12 ⟨Nat.le_of_ble_eq_true rfl, Nat.le_of_ble_eq_true rfl⟩) hP hD hS hA [0, 1] [] [0, 1] rfl rfl (by decide) (by decide) rfl (fun r_12 H locs hw hP hS => ?_)
        have e_12 := hw
        refine kt_i e_12 ?_
        refine kt_i (y := (L[ia + j]?).getD (-1)) (by rw [kGet_nI (by omega), List.getElem?_append_left (by omega)]) ?_
        refine lv_iconst (v := 1) hx hb d_Walk_repeat_15 (by decide) ?_
        refine kc_v (wr := []) (w2 := fun (u9 : (Nat → Int32)) => [(w, .inr (1, [.ref a, .int (nI ((L ++ (L.drop ia).take j) ++ List.replicate 1 ((L[ia + j]?).getD (-1))).length), .int x, .int y, .int g, .int t])), (a, .inl (cI, 1024, .inl u9))]) (va_runV (As := [.int ((L[ia + j]?).getD (-1)), .int 1]) (rest := []) ⟨hx, hb, hml, hown, hts⟩ (c_Walk_append l dC dI cI cB cZ _ w a f2 (L ++ (L.drop ia).take j) x y g t ((L[ia + j]?).getD (-1)) 1 (by first | with_reducible assumption | omega | decide) (by simp only [List.length_append, List.length_take, List.length_drop]; omega)) (cwV 2 hts (gV mw177 mw146 mw147 mw26 mw148) rfl rfl rfl (by decide +kernel) ⟨Nat.le_of_ble_eq_true rfl, Nat.le_of_ble_eq_true rfl⟩) (kpV (wc := [(w, .inr (1, [.ref a, .int (nI (L ++ (L.drop ia).take j).length), .int x, .int y, .int g, .int t])), (a, .inl (cI, 1024, .inl f2))]) (q0 := 0) (ci := 1) hK hP hD [0, 1] rfl (by decide) rfl rfl rfl) rfl rfl hl.1 rfl (lv_room (Nat.le_of_ble_eq_true rfl)) d_Walk_repeat_16 ⟨Nat.le_of_ble_eq_true rfl, Nat.le_of_ble_eq_true rfl⟩) hP hD hS hA [0, 1] [] [0, 1] rfl rfl (by decide) (by decide) (fun _ => rfl) (by decide) (fun _ => rfl) (fun u9 H locs hw hP hD hS => ?_)
        obtain ⟨f1_16, rfl⟩ : ∃ z, z = u9 := ⟨_, rfl⟩
        try dsimp only at hw
        have hP : va_P (dC, dI) classes [(w, .inr (1, [.ref a, .int (nI ((L ++ (L.drop ia).take j) ++ List.replicate 1 ((L[ia + j]?).getD (-1))).length), .int x, .int y, .int g, .int t])), (a, .inl (cI, 1024, .inl f1_16))] H := hP
        have hD : va_D A [(w, .inr (1, [.ref a, .int (nI ((L ++ (L.drop ia).take j) ++ List.replicate 1 ((L[ia + j]?).getD (-1))).length), .int x, .int y, .int g, .int t])), (a, .inl (cI, 1024, .inl f1_16))] := hD
        have hW_16 := hw
        have e9_16 : (L ++ (L.drop ia).take j) ++ List.replicate 1 ((L[ia + j]?).getD (-1)) = (L ++ (L.drop ia).take (j + 1)) := kTake_succ (by omega)
        rw [e9_16] at hP hD hW_16
        have hP : va_P (dC, dI) classes [(w, .inr (1, [.ref a, .int (nI (L ++ (L.drop ia).take (j + 1)).length), .int x, .int y, .int g, .int t])), (a, .inl (cI, 1024, .inl f1_16))] H := hP
        have hD : va_D A [(w, .inr (1, [.ref a, .int (nI (L ++ (L.drop ia).take (j + 1)).length), .int x, .int y, .int g, .int t])), (a, .inl (cI, 1024, .inl f1_16))] := hD
        refine lv_iinc (v := nI (j + 1)) (lv' := [(3, .int (nI (j + 1))), (0, .ref w), (1, .int (nI ia)), (2, .int (nI k))]) hx hb d_Walk_repeat_19 hl (k := 3) rfl (by first | rfl | exact nI_1 _) (by decide) rfl (fun ls hl => ?_)
        refine lv_goto (tgt := 2) hx hb d_Walk_repeat_22 (by decide) ?_
        exact ih_2 (j + 1) f1_16 (by omega) (by first | with_reducible assumption | omega) (hW_16) _ _ (hP.sub [0, 1] (rfl)) (hD.sub [0, 1] (by decide) (rfl)) hS ls (lv_sub hl [1, 2, 3, 0] rfl)
  refine lv_iconst (v := 0) hx hb d_Walk_repeat_0 (by decide) ?_
  refine lv_istore_n (lv' := [(3, .int 0), (0, .ref w), (1, .int (nI ia)), (2, .int (nI k))]) hx hb d_Walk_repeat_1 rfl hl (by decide) rfl (fun ls hl => ?_)
  exact J_2 _ 0 f (Nat.lt_succ_self _) (by first | with_reducible assumption | omega) (by simpa using hW) _ _ (hP.sub [0, 1] (by rw [kTake_0]; rfl)) (hD.sub [0, 1] (by decide) (by rw [kTake_0]; rfl)) hS ls (lv_sub hl [1, 2, 3, 0] rfl)
abbrev Qc_Walk_dropLast (dC : Nat → ClassId) (dI : Nat → Nat → Nat) (cI cB cZ : ClassId) (w : Nat) (a : Nat) (f : Nat → Int32) (L : List Int32) (x : Int32) (y : Int32) (g : Int32) (t : Int32) (k : Nat) (A : Nat → Prop) := va_Qv (fun (_ : Unit) => (WRow f (L.take (L.length - k)))) (ka (dC, dI) classes [(cI, .int), (cB, .byte), (cZ, .boolean)] (fun (_ : Unit) => [(w, .inr (1, [.ref a, .int (nI (L.take (L.length - k)).length), .int x, .int y, .int g, .int t])), (a, .inl (cI, 1024, .inl f))]) A) A
set_option maxHeartbeats 1000000 in
set_option maxRecDepth 100000 in
/-- Walk.dropLast -/
theorem c_Walk_dropLast (l : Launch) (dC : Nat → ClassId) (dI : Nat → Nat → Nat) (cI cB cZ : ClassId) (sz : Nat) (w : Nat) (a : Nat) (f : Nat → Int32) (L : List Int32) (x : Int32) (y : Int32) (g : Int32) (t : Int32) (k : Nat) (hW : WRow f L) (hk : k ≤ L.length) : Met l y_Walk_dropLast w_Walk_dropLast ({ frames := 1, cells := 0, slots := 0, locals := 14 }) (va_Pc [.ref w, .int (nI k)] (kp (dC, dI) classes [(cI, .int), (cB, .byte), (cZ, .boolean)] [(w, .inr (1, [.ref a, .int (nI L.length), .int x, .int y, .int g, .int t])), (a, .inl (cI, 1024, .inl f))] sz)) (Qc_Walk_dropLast dC dI cI cB cZ w a f L x y g t k (va_A [(w, .inr (1, [.ref a, .int (nI L.length), .int x, .int y, .int g, .int t])), (a, .inl (cI, 1024, .inl f))] sz)) 0 0 (va_A [(w, .inr (1, [.ref a, .int (nI L.length), .int x, .int y, .int g, .int t])), (a, .inl (cI, 1024, .inl f))] sz) := by
  refine Met.ofW (cc := prog_5_method_9_code) (maxL := 2) (ret := none) (by decide) rfl ?_
  intro p e s m args below meth c s₁ B hml hv
  obtain ⟨rfl, hsz, hP, hK, hD0⟩ := hv
  have hx := B.exec
  have hb := B.bytes
  have hr := B.returns
  have hts := fun w h => atoms_spec (ws := w_Walk_dropLast) B.pre w (List.mem_cons_of_mem _ h)
  have hown : s.vm.findClass "DemoTape$Walk" = some m.cls := findClass_of_methodNamed B.named
  have hlocks := B.notSynchronized
  subst hsz
  have hD := hD0.self (sz := s.heap.size)
  generalize hAe : va_A ([(w, .inr (1, [.ref a, .int (nI L.length), .int x, .int y, .int g, .int t])), (a, .inl (cI, 1024, .inl f))] : va_W) s.heap.size = A at hD ⊢
  have hA : ∀ q : Nat, s.heap.size ≤ q → A q := fun q h => by rw [← hAe]; exact Or.inr h
  have hS : va_S A s.heap s.heap [] := va_S.rf
  have hP : va_P (dC, dI) classes [(w, .inr (1, [.ref a, .int (nI L.length), .int x, .int y, .int g, .int t])), (a, .inl (cI, 1024, .inl f))] s.heap := hP
  obtain ⟨hf, hL⟩ := id hW
  have hl := lv_entry ([.ref w, .int (nI k)]) (n := 2) (Nat.le_of_ble_eq_true rfl)
  rw [lg_entry_eq]
  generalize (lg_sl ([.ref w, .int (nI k)]) ++ List.replicate (2 - (lg_sl ([.ref w, .int (nI k)])).length) Slot.unset).toArray = ls at hl ⊢
  have hl : lv_has ls 2 [(0, .ref w), (1, .int (nI k))] := hl
  refine lv_aload_n hx hb d_Walk_dropLast_0 rfl (lv_at hl 0 rfl) ?_
  refine lv_aload_n hx hb d_Walk_dropLast_1 rfl (lv_at hl 0 rfl) ?_
  refine va_get (D := (dC, dI)) (ci := 1) (v := .int (nI L.length)) (C := "DemoTape$Walk") (T := F_Walk) (N := 6) hx hb hts i_Walk hown hK hP 0 rfl rfl 1 (by decide) (hts _ mw48) (fun _ h9 => h9) rfl d_Walk_dropLast_2 ?_
  refine lv_iload_n hx hb d_Walk_dropLast_5 rfl (lv_at hl 1 rfl) ?_
  refine lv_isub hx hb d_Walk_dropLast_6 ?_
  refine kt_i (y := nI (L.length - k)) (pk_sub (by omega)) ?_
  refine lv_iconst (v := 0) hx hb d_Walk_dropLast_7 (by decide) ?_
  refine va_mmax hx hb (by rw [hml]; exact hl.1.symm) hown (hts _ mw164) (hts _ mw74) (hts _ mw28) (hts _ mw75) (Nat.le_of_ble_eq_true rfl) (Nat.le_of_ble_eq_true rfl) (Nat.le_of_ble_eq_true rfl) (Nat.le_of_ble_eq_true rfl) d_Walk_dropLast_8 ?_
  refine kt_i (y := nI (L.take (L.length - k)).length) (by rw [if_neg (nI_pos (by omega)), List.length_take, Nat.min_eq_left (by omega)]) ?_
  refine va_put (D := (dC, dI)) (ci := 1) (v := .int (nI (L.take (L.length - k)).length)) (ty := .int) (C := "DemoTape$Walk") (T := F_Walk) (N := 6) hx hb hts i_Walk t_Walk t_Walk_ok n_Walk hown hK hP hD hS 0 rfl rfl 1 (by decide) (hts _ mw48) (fun _ h9 => h9) rfl (by decide +kernel) rfl rfl (Nat.le_of_ble_eq_true rfl) d_Walk_dropLast_11 (fun H locs hP hD hS => ?_)
  have hP : va_P (dC, dI) classes [(w, .inr (1, [.ref a, .int (nI (L.take (L.length - k)).length), .int x, .int y, .int g, .int t])), (a, .inl (cI, 1024, .inl f))] H := hP
  have hD : va_D A [(w, .inr (1, [.ref a, .int (nI (L.take (L.length - k)).length), .int x, .int y, .int g, .int t])), (a, .inl (cI, 1024, .inl f))] := hD
  exact kr_v () hx hb hr hK (hP.sub [0, 1] (rfl)) (hD.sub [0, 1] (by decide) (rfl)) hS (⟨hf.take _, by rw [List.length_take]; omega⟩) d_Walk_dropLast_14 hlocks
abbrev Qc_Walk_clear (dC : Nat → ClassId) (dI : Nat → Nat → Nat) (cI cB cZ : ClassId) (w : Nat) (a : Nat) (f : Nat → Int32) (L : List Int32) (x : Int32) (y : Int32) (g : Int32) (t : Int32) (A : Nat → Prop) := va_Qv (fun (_ : Unit) => (WRow f [])) (ka (dC, dI) classes [(cI, .int), (cB, .byte), (cZ, .boolean)] (fun (_ : Unit) => [(w, .inr (1, [.ref a, .int (nI ([] : List Int32).length), .int x, .int y, .int g, .int t])), (a, .inl (cI, 1024, .inl f))]) A) A
set_option maxHeartbeats 1000000 in
set_option maxRecDepth 100000 in
/-- Walk.clear -/
theorem c_Walk_clear (l : Launch) (dC : Nat → ClassId) (dI : Nat → Nat → Nat) (cI cB cZ : ClassId) (sz : Nat) (w : Nat) (a : Nat) (f : Nat → Int32) (L : List Int32) (x : Int32) (y : Int32) (g : Int32) (t : Int32)  : Met l y_Walk_clear w_Walk_clear ({ frames := 0, cells := 0, slots := 0, locals := 0 }) (va_Pc [.ref w] (kp (dC, dI) classes [(cI, .int), (cB, .byte), (cZ, .boolean)] [(w, .inr (1, [.ref a, .int (nI L.length), .int x, .int y, .int g, .int t])), (a, .inl (cI, 1024, .inl f))] sz)) (Qc_Walk_clear dC dI cI cB cZ w a f L x y g t (va_A [(w, .inr (1, [.ref a, .int (nI L.length), .int x, .int y, .int g, .int t])), (a, .inl (cI, 1024, .inl f))] sz)) 0 0 (va_A [(w, .inr (1, [.ref a, .int (nI L.length), .int x, .int y, .int g, .int t])), (a, .inl (cI, 1024, .inl f))] sz) := by
  refine Met.ofW (cc := prog_5_method_10_code) (maxL := 1) (ret := none) (by decide) rfl ?_
  intro p e s m args below meth c s₁ B hml hv
  obtain ⟨rfl, hsz, hP, hK, hD0⟩ := hv
  have hx := B.exec
  have hb := B.bytes
  have hr := B.returns
  have hts := fun w h => atoms_spec (ws := w_Walk_clear) B.pre w (List.mem_cons_of_mem _ h)
  have hown : s.vm.findClass "DemoTape$Walk" = some m.cls := findClass_of_methodNamed B.named
  have hlocks := B.notSynchronized
  subst hsz
  have hD := hD0.self (sz := s.heap.size)
  generalize hAe : va_A ([(w, .inr (1, [.ref a, .int (nI L.length), .int x, .int y, .int g, .int t])), (a, .inl (cI, 1024, .inl f))] : va_W) s.heap.size = A at hD ⊢
  have hA : ∀ q : Nat, s.heap.size ≤ q → A q := fun q h => by rw [← hAe]; exact Or.inr h
  have hS : va_S A s.heap s.heap [] := va_S.rf
  have hP : va_P (dC, dI) classes [(w, .inr (1, [.ref a, .int (nI L.length), .int x, .int y, .int g, .int t])), (a, .inl (cI, 1024, .inl f))] s.heap := hP
  have hl := lv_entry ([.ref w]) (n := 1) (Nat.le_of_ble_eq_true rfl)
  rw [lg_entry_eq]
  generalize (lg_sl ([.ref w]) ++ List.replicate (1 - (lg_sl ([.ref w])).length) Slot.unset).toArray = ls at hl ⊢
  have hl : lv_has ls 1 [(0, .ref w)] := hl
  refine lv_aload_n hx hb d_Walk_clear_0 rfl (lv_at hl 0 rfl) ?_
  refine lv_iconst (v := 0) hx hb d_Walk_clear_1 (by decide) ?_
  refine va_put (D := (dC, dI)) (ci := 1) (v := .int 0) (ty := .int) (C := "DemoTape$Walk") (T := F_Walk) (N := 6) hx hb hts i_Walk t_Walk t_Walk_ok n_Walk hown hK hP hD hS 0 rfl rfl 1 (by decide) (hts _ mw48) (fun _ h9 => h9) rfl (by decide +kernel) rfl rfl (Nat.le_of_ble_eq_true rfl) d_Walk_clear_2 (fun H locs hP hD hS => ?_)
  have hP : va_P (dC, dI) classes [(w, .inr (1, [.ref a, .int 0, .int x, .int y, .int g, .int t])), (a, .inl (cI, 1024, .inl f))] H := hP
  have hD : va_D A [(w, .inr (1, [.ref a, .int 0, .int x, .int y, .int g, .int t])), (a, .inl (cI, 1024, .inl f))] := hD
  exact kr_v () hx hb hr hK (hP.sub [0, 1] (rfl)) (hD.sub [0, 1] (by decide) (rfl)) hS (⟨Hold.nil, by decide⟩) d_Walk_clear_5 hlocks
abbrev Qc_Walk_countUses (dC : Nat → ClassId) (dI : Nat → Nat → Nat) (cI cB cZ : ClassId) (w : Nat) (a : Nat) (f : Nat → Int32) (L : List Int32) (x : Int32) (y : Int32) (g : Int32) (t : Int32) (A : Nat → Prop) := va_Qi (fun (r9 : Int32) (_ : Unit) => (r9 = nI (kUses L))) (ka (dC, dI) classes [(cI, .int), (cB, .byte), (cZ, .boolean)] (fun (_ : Unit) => [(w, .inr (1, [.ref a, .int (nI L.length), .int x, .int y, .int g, .int t])), (a, .inl (cI, 1024, .inl f))]) A) A
set_option maxHeartbeats 1000000 in
set_option maxRecDepth 100000 in
/-- Walk.countUses -/
theorem c_Walk_countUses (l : Launch) (dC : Nat → ClassId) (dI : Nat → Nat → Nat) (cI cB cZ : ClassId) (sz : Nat) (w : Nat) (a : Nat) (f : Nat → Int32) (L : List Int32) (x : Int32) (y : Int32) (g : Int32) (t : Int32) (hW : WRow f L) : Met l y_Walk_countUses w_Walk_countUses ({ frames := 1, cells := 0, slots := 0, locals := 21 }) (va_Pc [.ref w] (kp (dC, dI) classes [(cI, .int), (cB, .byte), (cZ, .boolean)] [(w, .inr (1, [.ref a, .int (nI L.length), .int x, .int y, .int g, .int t])), (a, .inl (cI, 1024, .inl f))] sz)) (Qc_Walk_countUses dC dI cI cB cZ w a f L x y g t (va_A [(w, .inr (1, [.ref a, .int (nI L.length), .int x, .int y, .int g, .int t])), (a, .inl (cI, 1024, .inl f))] sz)) 0 0 (va_A [(w, .inr (1, [.ref a, .int (nI L.length), .int x, .int y, .int g, .int t])), (a, .inl (cI, 1024, .inl f))] sz) := by
  refine Met.ofW (cc := prog_5_method_11_code) (maxL := 3) (ret := (some .int)) (by decide) rfl ?_
  intro p e s m args below meth c s₁ B hml hv
  obtain ⟨rfl, hsz, hP, hK, hD0⟩ := hv
  have hx := B.exec
  have hb := B.bytes
  have hr := B.returns
  have hts := fun w h => atoms_spec (ws := w_Walk_countUses) B.pre w (List.mem_cons_of_mem _ h)
  have hown : s.vm.findClass "DemoTape$Walk" = some m.cls := findClass_of_methodNamed B.named
  have hlocks := B.notSynchronized
  subst hsz
  have hD := hD0.self (sz := s.heap.size)
  generalize hAe : va_A ([(w, .inr (1, [.ref a, .int (nI L.length), .int x, .int y, .int g, .int t])), (a, .inl (cI, 1024, .inl f))] : va_W) s.heap.size = A at hD ⊢
  have hA : ∀ q : Nat, s.heap.size ≤ q → A q := fun q h => by rw [← hAe]; exact Or.inr h
  have hS : va_S A s.heap s.heap [] := va_S.rf
  have hP : va_P (dC, dI) classes [(w, .inr (1, [.ref a, .int (nI L.length), .int x, .int y, .int g, .int t])), (a, .inl (cI, 1024, .inl f))] s.heap := hP
  obtain ⟨hf, hL⟩ := id hW
  have hl := lv_entry ([.ref w]) (n := 3) (Nat.le_of_ble_eq_true rfl)
  rw [lg_entry_eq]
  generalize (lg_sl ([.ref w]) ++ List.replicate (3 - (lg_sl ([.ref w])).length) Slot.unset).toArray = ls at hl ⊢
  have hl : lv_has ls 3 [(0, .ref w)] := hl
  have J_4 : ∀ (fuel : Nat) (j : Nat) (n9 : Nat), (L.length - j < fuel) → (j ≤ L.length) → (n9 = kUses (L.take j)) → ∀ (H : Heap) (locs : List Loc), va_P (dC, dI) classes [(w, .inr (1, [.ref a, .int (nI L.length), .int x, .int y, .int g, .int t])), (a, .inl (cI, 1024, .inl f))] H → va_D A [(w, .inr (1, [.ref a, .int (nI L.length), .int x, .int y, .int g, .int t])), (a, .inl (cI, 1024, .inl f))] → va_S A s.heap H locs → ∀ (ls : Array Slot), lv_has ls 3 [(0, .ref w), (1, .int (nI n9)), (2, .int (nI j))] → W p l e (headSpec w_Walk_countUses ({ frames := 1, cells := 0, slots := 0, locals := 21 })).room s m [.ref w].toArray below meth c H locs 0 0 (MQ below (Qc_Walk_countUses dC dI cI cB cZ w a f L x y g t A) [.ref w].toArray s 0 0 A) (F0 m 4 ls []) := by
    intro fuel
    induction fuel with
    | zero => intro j n9 hm; exact absurd hm (Nat.not_lt_zero _)
    | succ fuel ih_4 =>
      intro j n9 hm hj hn H locs hP hD hS ls hl
      refine lv_iload_n hx hb d_Walk_countUses_4 rfl (lv_at hl 2 rfl) ?_
      refine lv_aload_n hx hb d_Walk_countUses_5 rfl (lv_at hl 0 rfl) ?_
      refine va_get (D := (dC, dI)) (ci := 1) (v := .int (nI L.length)) (C := "DemoTape$Walk") (T := F_Walk) (N := 6) hx hb hts i_Walk hown hK hP 0 rfl rfl 1 (by decide) (hts _ mw48) (fun _ h9 => h9) rfl d_Walk_countUses_6 ?_
      refine lv_icmp_ge (tgt := 32) hx hb d_Walk_countUses_9 (by decide) (fun c_9 => ?_) (fun c_9 => ?_)
      · have n_9 := kn_le (a := L.length) (b := j) c_9 rfl rfl (by omega) (by omega)
        refine lv_iload_n hx hb d_Walk_countUses_32 rfl (lv_at hl 1 rfl) ?_
        exact kr_i (v := nI n9) () hx hb hr rfl hK (hP.sub [0, 1] (rfl)) (hD.sub [0, 1] (by decide) (rfl)) hS (by rw [hn, List.take_of_length_le (by omega)]) d_Walk_countUses_33 hlocks
      · have n_9 := kn_nle (a := L.length) (b := j) c_9 rfl rfl (by omega) (by omega)
        refine lv_aload_n hx hb d_Walk_countUses_12 rfl (lv_at hl 0 rfl) ?_
        refine lv_iload_n hx hb d_Walk_countUses_13 rfl (lv_at hl 2 rfl) ?_
        refine kq_i (wr := []) (va_runV (As := [.int (nI j)]) (rest := []) ⟨hx, hb, hml, hown, hts⟩ (c_Walk_codeAt l dC dI cI cB cZ _ w a f L x y g t (nI j) (by first | with_reducible assumption | omega | decide)) (cwV 1 hts (gV mw173 mw174 mw175 mw26 mw176) rfl rfl rfl (by decide +kernel) ⟨Nat.le_of_ble_eq_true rfl, Nat.le_of_ble_eq_true rfl⟩) (kpV (wc := [(w, .inr (1, [.ref a, .int (nI L.length), .int x, .int y, .int g, .int t])), (a, .inl (cI, 1024, .inl f))]) (q0 := 0) (ci := 1) hK hP hD [0, 1] rfl (by decide) rfl rfl rfl) rfl rfl hl.1 rfl (lv_room (Nat.le_of_ble_eq_true rfl)) d_Walk_countUses_14 ⟨Nat.le_of_ble_eq_true rfl, Nat.le_of_ble_eq_true rfl⟩) hP hD hS hA [0, 1] [] [0, 1] rfl rfl (by decide) (by decide) rfl (fun r_14 H locs hw hP hS => ?_)
        have e_14 := hw
        refine kt_i e_14 ?_
        refine kt_i (y := (L[j]?).getD (-1)) (kGet_nI (by omega)) ?_
        refine kq_i (wr := [(w, .inr (1, [.ref a, .int (nI L.length), .int x, .int y, .int g, .int t])), (a, .inl (cI, 1024, .inl f))]) (va_runS (As := [.int ((L[j]?).getD (-1))]) (rest := []) ⟨hx, hb, hml, hown, hts⟩ (c_Code_uses l dC dI cI cB cZ _ ((L[j]?).getD (-1)) ) (va_cwS 1 hts (gS mw217 mw218 mw31 mw219) rfl rfl rfl (by decide +kernel) ⟨Nat.le_of_ble_eq_true rfl, Nat.le_of_ble_eq_true rfl⟩) (kpS (wc := []) hK hP hD [] rfl (by decide) rfl) rfl rfl hl.1 rfl (lv_room (Nat.le_of_ble_eq_true rfl)) d_Walk_countUses_17 ⟨Nat.le_of_ble_eq_true rfl, Nat.le_of_ble_eq_true rfl⟩) hP hD hS hA [] [0, 1] [0, 1] rfl rfl (by decide) (by decide) rfl (fun r_17 H locs hw hP hS => ?_)
        have e_17 := hw
        refine kt_i e_17 ?_
        refine lv_if_eq (tgt := 26) hx hb d_Walk_countUses_20 (by decide) (fun c_20 => ?_) (fun c_20 => ?_)
        · refine lv_iinc (v := nI (j + 1)) (lv' := [(2, .int (nI (j + 1))), (0, .ref w), (1, .int (nI n9))]) hx hb d_Walk_countUses_26 hl (k := 2) rfl (by first | rfl | exact nI_1 _) (by decide) rfl (fun ls hl => ?_)
          refine lv_goto (tgt := 4) hx hb d_Walk_countUses_29 (by decide) ?_
          exact ih_4 (j + 1) n9 (by omega) (by first | with_reducible assumption | omega) (by rw [kUses_n n_9 c_20, hn]) _ _ (hP.sub [0, 1] (rfl)) (hD.sub [0, 1] (by decide) (rfl)) hS ls (lv_sub hl [1, 2, 0] rfl)
        · refine lv_iinc (v := nI (n9 + 1)) (lv' := [(1, .int (nI (n9 + 1))), (0, .ref w), (2, .int (nI j))]) hx hb d_Walk_countUses_23 hl (k := 1) rfl (by first | rfl | exact nI_1 _) (by decide) rfl (fun ls hl => ?_)
          refine lv_iinc (v := nI (j + 1)) (lv' := [(2, .int (nI (j + 1))), (1, .int (nI (n9 + 1))), (0, .ref w)]) hx hb d_Walk_countUses_26 hl (k := 2) rfl (by first | rfl | exact nI_1 _) (by decide) rfl (fun ls hl => ?_)
          refine lv_goto (tgt := 4) hx hb d_Walk_countUses_29 (by decide) ?_
          exact ih_4 (j + 1) (n9 + 1) (by omega) (by first | with_reducible assumption | omega) (by rw [kUses_y n_9 c_20, hn]) _ _ (hP.sub [0, 1] (rfl)) (hD.sub [0, 1] (by decide) (rfl)) hS ls (lv_sub hl [2, 1, 0] rfl)
  refine lv_iconst (v := 0) hx hb d_Walk_countUses_0 (by decide) ?_
  refine lv_istore_n (lv' := [(1, .int 0), (0, .ref w)]) hx hb d_Walk_countUses_1 rfl hl (by decide) rfl (fun ls hl => ?_)
  refine lv_iconst (v := 0) hx hb d_Walk_countUses_2 (by decide) ?_
  refine lv_istore_n (lv' := [(2, .int 0), (1, .int 0), (0, .ref w)]) hx hb d_Walk_countUses_3 rfl hl (by decide) rfl (fun ls hl => ?_)
  exact J_4 _ 0 0 (Nat.lt_succ_self _) (by first | with_reducible assumption | omega) (rfl) _ _ (hP.sub [0, 1] (rfl)) (hD.sub [0, 1] (by decide) (rfl)) hS ls (lv_sub hl [2, 1, 0] rfl)
abbrev Qc_Walk_endsGroup (dC : Nat → ClassId) (dI : Nat → Nat → Nat) (cI cB cZ : ClassId) (w : Nat) (a : Nat) (f : Nat → Int32) (L : List Int32) (x : Int32) (y : Int32) (g : Int32) (t : Int32) (j : Nat) (k : Nat) (A : Nat → Prop) := va_Qi (fun (r9 : Int32) (_ : Unit) => (r9 = kEnd L j k)) (ka (dC, dI) classes [(cI, .int), (cB, .byte), (cZ, .boolean)] (fun (_ : Unit) => [(w, .inr (1, [.ref a, .int (nI L.length), .int x, .int y, .int g, .int t])), (a, .inl (cI, 1024, .inl f))]) A) A
set_option maxHeartbeats 1000000 in
set_option maxRecDepth 100000 in
/-- Walk.endsGroup -/
theorem c_Walk_endsGroup (l : Launch) (dC : Nat → ClassId) (dI : Nat → Nat → Nat) (cI cB cZ : ClassId) (sz : Nat) (w : Nat) (a : Nat) (f : Nat → Int32) (L : List Int32) (x : Int32) (y : Int32) (g : Int32) (t : Int32) (j : Nat) (k : Nat) (hW : WRow f L) (hj : j < L.length) (hk : k < 2 ^ 31) : Met l y_Walk_endsGroup w_Walk_endsGroup ({ frames := 1, cells := 0, slots := 0, locals := 21 }) (va_Pc [.ref w, .int (nI j), .int (nI k)] (kp (dC, dI) classes [(cI, .int), (cB, .byte), (cZ, .boolean)] [(w, .inr (1, [.ref a, .int (nI L.length), .int x, .int y, .int g, .int t])), (a, .inl (cI, 1024, .inl f))] sz)) (Qc_Walk_endsGroup dC dI cI cB cZ w a f L x y g t j k (va_A [(w, .inr (1, [.ref a, .int (nI L.length), .int x, .int y, .int g, .int t])), (a, .inl (cI, 1024, .inl f))] sz)) 0 0 (va_A [(w, .inr (1, [.ref a, .int (nI L.length), .int x, .int y, .int g, .int t])), (a, .inl (cI, 1024, .inl f))] sz) := by
  refine Met.ofW (cc := prog_5_method_13_code) (maxL := 3) (ret := (some .boolean)) (by decide) rfl ?_
  intro p e s m args below meth c s₁ B hml hv
  obtain ⟨rfl, hsz, hP, hK, hD0⟩ := hv
  have hx := B.exec
  have hb := B.bytes
  have hr := B.returns
  have hts := fun w h => atoms_spec (ws := w_Walk_endsGroup) B.pre w (List.mem_cons_of_mem _ h)
  have hown : s.vm.findClass "DemoTape$Walk" = some m.cls := findClass_of_methodNamed B.named
  have hlocks := B.notSynchronized
  subst hsz
  have hD := hD0.self (sz := s.heap.size)
  generalize hAe : va_A ([(w, .inr (1, [.ref a, .int (nI L.length), .int x, .int y, .int g, .int t])), (a, .inl (cI, 1024, .inl f))] : va_W) s.heap.size = A at hD ⊢
  have hA : ∀ q : Nat, s.heap.size ≤ q → A q := fun q h => by rw [← hAe]; exact Or.inr h
  have hS : va_S A s.heap s.heap [] := va_S.rf
  have hP : va_P (dC, dI) classes [(w, .inr (1, [.ref a, .int (nI L.length), .int x, .int y, .int g, .int t])), (a, .inl (cI, 1024, .inl f))] s.heap := hP
  obtain ⟨hf, hL⟩ := id hW
  have hl := lv_entry ([.ref w, .int (nI j), .int (nI k)]) (n := 3) (Nat.le_of_ble_eq_true rfl)
  rw [lg_entry_eq]
  generalize (lg_sl ([.ref w, .int (nI j), .int (nI k)]) ++ List.replicate (3 - (lg_sl ([.ref w, .int (nI j), .int (nI k)])).length) Slot.unset).toArray = ls at hl ⊢
  have hl : lv_has ls 3 [(0, .ref w), (1, .int (nI j)), (2, .int (nI k))] := hl
  refine lv_iload_n hx hb d_Walk_endsGroup_0 rfl (lv_at hl 2 rfl) ?_
  refine lv_bipush (v := 63) hx hb d_Walk_endsGroup_1 (by decide) ?_
  refine lv_icmp_eq (tgt := 21) hx hb d_Walk_endsGroup_3 (by decide) (fun c_3 => ?_) (fun c_3 => ?_)
  · have n_3 := kn_eq (a := k) (b := 63) c_3 rfl rfl (by omega) (by omega)
    refine lv_iconst (v := 1) hx hb d_Walk_endsGroup_21 (by decide) ?_
    refine lv_goto (tgt := 26) hx hb d_Walk_endsGroup_22 (by decide) ?_
    exact kr_i (v := 1) () hx hb hr (by decide) hK (hP.sub [0, 1] (rfl)) (hD.sub [0, 1] (by decide) (rfl)) hS (by unfold kEnd; rw [if_pos (Or.inl n_3)]) d_Walk_endsGroup_26 hlocks
  · have n_3 := kn_ne (a := k) (b := 63) c_3 rfl rfl (by omega) (by omega)
    refine lv_aload_n hx hb d_Walk_endsGroup_6 rfl (lv_at hl 0 rfl) ?_
    refine lv_iload_n hx hb d_Walk_endsGroup_7 rfl (lv_at hl 1 rfl) ?_
    refine lv_iconst (v := 1) hx hb d_Walk_endsGroup_8 (by decide) ?_
    refine lv_iadd hx hb d_Walk_endsGroup_9 ?_
    refine kt_i (y := nI (j + 1)) (nI_1 _) ?_
    refine kq_i (wr := []) (va_runV (As := [.int (nI (j + 1))]) (rest := []) ⟨hx, hb, hml, hown, hts⟩ (c_Walk_codeAt l dC dI cI cB cZ _ w a f L x y g t (nI (j + 1)) (by first | with_reducible assumption | omega | decide)) (cwV 1 hts (gV mw173 mw174 mw175 mw26 mw176) rfl rfl rfl (by decide +kernel) ⟨Nat.le_of_ble_eq_true rfl, Nat.le_of_ble_eq_true rfl⟩) (kpV (wc := [(w, .inr (1, [.ref a, .int (nI L.length), .int x, .int y, .int g, .int t])), (a, .inl (cI, 1024, .inl f))]) (q0 := 0) (ci := 1) hK hP hD [0, 1] rfl (by decide) rfl rfl rfl) rfl rfl hl.1 rfl (lv_room (Nat.le_of_ble_eq_true rfl)) d_Walk_endsGroup_10 ⟨Nat.le_of_ble_eq_true rfl, Nat.le_of_ble_eq_true rfl⟩) hP hD hS hA [0, 1] [] [0, 1] rfl rfl (by decide) (by decide) rfl (fun r_10 H locs hw hP hS => ?_)
    have e_10 := hw
    refine kt_i e_10 ?_
    refine kt_i (y := (L[j + 1]?).getD (-1)) (kGet_nI (by omega)) ?_
    refine lv_aload_n hx hb d_Walk_endsGroup_13 rfl (lv_at hl 0 rfl) ?_
    refine lv_iload_n hx hb d_Walk_endsGroup_14 rfl (lv_at hl 1 rfl) ?_
    refine kq_i (wr := []) (va_runV (As := [.int (nI j)]) (rest := [.int ((L[j + 1]?).getD (-1))]) ⟨hx, hb, hml, hown, hts⟩ (c_Walk_codeAt l dC dI cI cB cZ _ w a f L x y g t (nI j) (by first | with_reducible assumption | omega | decide)) (cwV 1 hts (gV mw173 mw174 mw175 mw26 mw176) rfl rfl rfl (by decide +kernel) ⟨Nat.le_of_ble_eq_true rfl, Nat.le_of_ble_eq_true rfl⟩) (kpV (wc := [(w, .inr (1, [.ref a, .int (nI L.length), .int x, .int y, .int g, .int t])), (a, .inl (cI, 1024, .inl f))]) (q0 := 0) (ci := 1) hK hP hD [0, 1] rfl (by decide) rfl rfl rfl) rfl rfl hl.1 rfl (lv_room (Nat.le_of_ble_eq_true rfl)) d_Walk_endsGroup_15 ⟨Nat.le_of_ble_eq_true rfl, Nat.le_of_ble_eq_true rfl⟩) hP hD hS hA [0, 1] [] [0, 1] rfl rfl (by decide) (by decide) rfl (fun r_15 H locs hw hP hS => ?_)
    have e_15 := hw
    refine kt_i e_15 ?_
    refine kt_i (y := (L[j]?).getD (-1)) (kGet_nI (by omega)) ?_
    refine lv_icmp_eq (tgt := 25) hx hb d_Walk_endsGroup_18 (by decide) (fun c_18 => ?_) (fun c_18 => ?_)
    · refine lv_iconst (v := 0) hx hb d_Walk_endsGroup_25 (by decide) ?_
      exact kr_i (v := 0) () hx hb hr (by decide) hK (hP.sub [0, 1] (rfl)) (hD.sub [0, 1] (by decide) (rfl)) hS (by unfold kEnd; rw [if_neg (fun q => q.elim n_3 (fun q2 => q2 c_18))]) d_Walk_endsGroup_26 hlocks
    · refine lv_iconst (v := 1) hx hb d_Walk_endsGroup_21 (by decide) ?_
      refine lv_goto (tgt := 26) hx hb d_Walk_endsGroup_22 (by decide) ?_
      exact kr_i (v := 1) () hx hb hr (by decide) hK (hP.sub [0, 1] (rfl)) (hD.sub [0, 1] (by decide) (rfl)) hS (by unfold kEnd; rw [if_pos (Or.inr c_18)]) d_Walk_endsGroup_26 hlocks
abbrev Qc_Walk_countGroups (dC : Nat → ClassId) (dI : Nat → Nat → Nat) (cI cB cZ : ClassId) (w : Nat) (a : Nat) (f : Nat → Int32) (L : List Int32) (x : Int32) (y : Int32) (g : Int32) (t : Int32) (A : Nat → Prop) := va_Qi (fun (r9 : Int32) (_ : Unit) => (r9 = nI (kGr 0 L).length)) (ka (dC, dI) classes [(cI, .int), (cB, .byte), (cZ, .boolean)] (fun (_ : Unit) => [(w, .inr (1, [.ref a, .int (nI L.length), .int x, .int y, .int g, .int t])), (a, .inl (cI, 1024, .inl f))]) A) A
set_option maxHeartbeats 1000000 in
set_option maxRecDepth 100000 in
/-- Walk.countGroups -/
theorem c_Walk_countGroups (l : Launch) (dC : Nat → ClassId) (dI : Nat → Nat → Nat) (cI cB cZ : ClassId) (sz : Nat) (w : Nat) (a : Nat) (f : Nat → Int32) (L : List Int32) (x : Int32) (y : Int32) (g : Int32) (t : Int32) (hW : WRow f L) : Met l y_Walk_countGroups w_Walk_countGroups ({ frames := 2, cells := 0, slots := 0, locals := 43 }) (va_Pc [.ref w] (kp (dC, dI) classes [(cI, .int), (cB, .byte), (cZ, .boolean)] [(w, .inr (1, [.ref a, .int (nI L.length), .int x, .int y, .int g, .int t])), (a, .inl (cI, 1024, .inl f))] sz)) (Qc_Walk_countGroups dC dI cI cB cZ w a f L x y g t (va_A [(w, .inr (1, [.ref a, .int (nI L.length), .int x, .int y, .int g, .int t])), (a, .inl (cI, 1024, .inl f))] sz)) 0 0 (va_A [(w, .inr (1, [.ref a, .int (nI L.length), .int x, .int y, .int g, .int t])), (a, .inl (cI, 1024, .inl f))] sz) := by
  refine Met.ofW (cc := prog_5_method_12_code) (maxL := 4) (ret := (some .int)) (by decide) rfl ?_
  intro p e s m args below meth c s₁ B hml hv
  obtain ⟨rfl, hsz, hP, hK, hD0⟩ := hv
  have hx := B.exec
  have hb := B.bytes
  have hr := B.returns
  have hts := fun w h => atoms_spec (ws := w_Walk_countGroups) B.pre w (List.mem_cons_of_mem _ h)
  have hown : s.vm.findClass "DemoTape$Walk" = some m.cls := findClass_of_methodNamed B.named
  have hlocks := B.notSynchronized
  subst hsz
  have hD := hD0.self (sz := s.heap.size)
  generalize hAe : va_A ([(w, .inr (1, [.ref a, .int (nI L.length), .int x, .int y, .int g, .int t])), (a, .inl (cI, 1024, .inl f))] : va_W) s.heap.size = A at hD ⊢
  have hA : ∀ q : Nat, s.heap.size ≤ q → A q := fun q h => by rw [← hAe]; exact Or.inr h
  have hS : va_S A s.heap s.heap [] := va_S.rf
  have hP : va_P (dC, dI) classes [(w, .inr (1, [.ref a, .int (nI L.length), .int x, .int y, .int g, .int t])), (a, .inl (cI, 1024, .inl f))] s.heap := hP
  obtain ⟨hf, hL⟩ := id hW
  have hl := lv_entry ([.ref w]) (n := 4) (Nat.le_of_ble_eq_true rfl)
  rw [lg_entry_eq]
  generalize (lg_sl ([.ref w]) ++ List.replicate (4 - (lg_sl ([.ref w])).length) Slot.unset).toArray = ls at hl ⊢
  have hl : lv_has ls 4 [(0, .ref w)] := hl
  have J_6 : ∀ (fuel : Nat) (j : Nat) (g9 : Nat) (n9 : Nat), (L.length - j < fuel) → (j ≤ L.length) → ((kGr 0 L).length = g9 + (kGr n9 (L.drop j)).length) → (n9 ≤ j) → ∀ (H : Heap) (locs : List Loc), va_P (dC, dI) classes [(w, .inr (1, [.ref a, .int (nI L.length), .int x, .int y, .int g, .int t])), (a, .inl (cI, 1024, .inl f))] H → va_D A [(w, .inr (1, [.ref a, .int (nI L.length), .int x, .int y, .int g, .int t])), (a, .inl (cI, 1024, .inl f))] → va_S A s.heap H locs → ∀ (ls : Array Slot), lv_has ls 4 [(0, .ref w), (1, .int (nI g9)), (2, .int (nI n9)), (3, .int (nI j))] → W p l e (headSpec w_Walk_countGroups ({ frames := 2, cells := 0, slots := 0, locals := 43 })).room s m [.ref w].toArray below meth c H locs 0 0 (MQ below (Qc_Walk_countGroups dC dI cI cB cZ w a f L x y g t A) [.ref w].toArray s 0 0 A) (F0 m 6 ls []) := by
    intro fuel
    induction fuel with
    | zero => intro j g9 n9 hm; exact absurd hm (Nat.not_lt_zero _)
    | succ fuel ih_6 =>
      intro j g9 n9 hm hj hg hn H locs hP hD hS ls hl
      refine lv_iload_n hx hb d_Walk_countGroups_6 rfl (lv_at hl 3 rfl) ?_
      refine lv_aload_n hx hb d_Walk_countGroups_7 rfl (lv_at hl 0 rfl) ?_
      refine va_get (D := (dC, dI)) (ci := 1) (v := .int (nI L.length)) (C := "DemoTape$Walk") (T := F_Walk) (N := 6) hx hb hts i_Walk hown hK hP 0 rfl rfl 1 (by decide) (hts _ mw48) (fun _ h9 => h9) rfl d_Walk_countGroups_8 ?_
      refine lv_icmp_ge (tgt := 37) hx hb d_Walk_countGroups_11 (by decide) (fun c_11 => ?_) (fun c_11 => ?_)
      · have n_11 := kn_le (a := L.length) (b := j) c_11 rfl rfl (by omega) (by omega)
        refine lv_iload_n hx hb d_Walk_countGroups_37 rfl (lv_at hl 1 rfl) ?_
        exact kr_i (v := nI g9) () hx hb hr rfl hK (hP.sub [0, 1] (rfl)) (hD.sub [0, 1] (by decide) (rfl)) hS (by rw [hg, List.drop_of_length_le (by omega)]; rfl) d_Walk_countGroups_38 hlocks
      · have n_11 := kn_nle (a := L.length) (b := j) c_11 rfl rfl (by omega) (by omega)
        refine lv_iinc (v := nI (n9 + 1)) (lv' := [(2, .int (nI (n9 + 1))), (0, .ref w), (1, .int (nI g9)), (3, .int (nI j))]) hx hb d_Walk_countGroups_14 hl (k := 2) rfl (by first | rfl | exact nI_1 _) (by decide) rfl (fun ls hl => ?_)
        refine lv_aload_n hx hb d_Walk_countGroups_17 rfl (lv_at hl 1 rfl) ?_
        refine lv_iload_n hx hb d_Walk_countGroups_18 rfl (lv_at hl 3 rfl) ?_
        refine lv_iload_n hx hb d_Walk_countGroups_19 rfl (lv_at hl 0 rfl) ?_
        refine kq_i (wr := []) (va_runV (As := [.int (nI j), .int (nI (n9 + 1))]) (rest := []) ⟨hx, hb, hml, hown, hts⟩ (c_Walk_endsGroup l dC dI cI cB cZ _ w a f L x y g t j (n9 + 1) (by first | with_reducible assumption | omega | decide) (by first | with_reducible assumption | omega | decide) (by first | with_reducible assumption | omega | decide)) (cwV 2 hts (gV mw201 mw203 mw1 mw26 mw204) rfl rfl rfl (by decide +kernel) ⟨Nat.le_of_ble_eq_true rfl, Nat.le_of_ble_eq_true rfl⟩) (kpV (wc := [(w, .inr (1, [.ref a, .int (nI L.length), .int x, .int y, .int g, .int t])), (a, .inl (cI, 1024, .inl f))]) (q0 := 0) (ci := 1) hK hP hD [0, 1] rfl (by decide) rfl rfl rfl) rfl rfl hl.1 rfl (lv_room (Nat.le_of_ble_eq_true rfl)) d_Walk_countGroups_20 ⟨Nat.le_of_ble_eq_true rfl, Nat.le_of_ble_eq_true rfl⟩) hP hD hS hA [0, 1] [] [0, 1] rfl rfl (by decide) (by decide) rfl (fun r_20 H locs hw hP hS => ?_)
        have e_20 := hw
        refine kt_i e_20 ?_
        refine lv_if_eq (tgt := 31) hx hb d_Walk_countGroups_23 (by decide) (fun c_23 => ?_) (fun c_23 => ?_)
        · refine lv_iinc (v := nI (j + 1)) (lv' := [(3, .int (nI (j + 1))), (2, .int (nI (n9 + 1))), (0, .ref w), (1, .int (nI g9))]) hx hb d_Walk_countGroups_31 hl (k := 3) rfl (by first | rfl | exact nI_1 _) (by decide) rfl (fun ls hl => ?_)
          refine lv_goto (tgt := 6) hx hb d_Walk_countGroups_34 (by decide) ?_
          exact ih_6 (j + 1) g9 (n9 + 1) (by omega) (by first | with_reducible assumption | omega) (by rw [hg, kGr_n n_11 c_23]) (by first | with_reducible assumption | omega) _ _ (hP.sub [0, 1] (rfl)) (hD.sub [0, 1] (by decide) (rfl)) hS ls (lv_sub hl [2, 3, 1, 0] rfl)
        · refine lv_iinc (v := nI (g9 + 1)) (lv' := [(1, .int (nI (g9 + 1))), (2, .int (nI (n9 + 1))), (0, .ref w), (3, .int (nI j))]) hx hb d_Walk_countGroups_26 hl (k := 2) rfl (by first | rfl | exact nI_1 _) (by decide) rfl (fun ls hl => ?_)
          refine lv_iconst (v := 0) hx hb d_Walk_countGroups_29 (by decide) ?_
          refine lv_istore_n (lv' := [(2, .int 0), (1, .int (nI (g9 + 1))), (0, .ref w), (3, .int (nI j))]) hx hb d_Walk_countGroups_30 rfl hl (by decide) rfl (fun ls hl => ?_)
          refine lv_iinc (v := nI (j + 1)) (lv' := [(3, .int (nI (j + 1))), (2, .int 0), (1, .int (nI (g9 + 1))), (0, .ref w)]) hx hb d_Walk_countGroups_31 hl (k := 3) rfl (by first | rfl | exact nI_1 _) (by decide) rfl (fun ls hl => ?_)
          refine lv_goto (tgt := 6) hx hb d_Walk_countGroups_34 (by decide) ?_
          exact ih_6 (j + 1) (g9 + 1) 0 (by omega) (by first | with_reducible assumption | omega) (by rw [hg, kGr_y n_11 c_23]; simp only [List.length_cons]; omega) (by first | with_reducible assumption | omega) _ _ (hP.sub [0, 1] (rfl)) (hD.sub [0, 1] (by decide) (rfl)) hS ls (lv_sub hl [3, 2, 1, 0] rfl)
  refine lv_iconst (v := 0) hx hb d_Walk_countGroups_0 (by decide) ?_
  refine lv_istore_n (lv' := [(1, .int 0), (0, .ref w)]) hx hb d_Walk_countGroups_1 rfl hl (by decide) rfl (fun ls hl => ?_)
  refine lv_iconst (v := 0) hx hb d_Walk_countGroups_2 (by decide) ?_
  refine lv_istore_n (lv' := [(2, .int 0), (1, .int 0), (0, .ref w)]) hx hb d_Walk_countGroups_3 rfl hl (by decide) rfl (fun ls hl => ?_)
  refine lv_iconst (v := 0) hx hb d_Walk_countGroups_4 (by decide) ?_
  refine lv_istore_n (lv' := [(3, .int 0), (2, .int 0), (1, .int 0), (0, .ref w)]) hx hb d_Walk_countGroups_5 rfl hl (by decide) rfl (fun ls hl => ?_)
  exact J_6 _ 0 0 0 (Nat.lt_succ_self _) (by first | with_reducible assumption | omega) ((Nat.zero_add _).symm) (by first | with_reducible assumption | omega) _ _ (hP.sub [0, 1] (rfl)) (hD.sub [0, 1] (by decide) (rfl)) hS ls (lv_sub hl [3, 2, 1, 0] rfl)
end
section
abbrev Qc_Row_size (dC : Nat → ClassId) (dI : Nat → Nat → Nat) (cI cB cZ : ClassId) (r : Nat) (b : Nat) (cap : Nat) (f : Nat → Int32) (L : List Nat) (A : Nat → Prop) := va_Qi (fun (r9 : Int32) (_ : Unit) => (r9 = nI L.length)) (ka (dC, dI) classes [(cI, .int), (cB, .byte), (cZ, .boolean)] (fun (_ : Unit) => [(r, .inr (2, [.ref b, .int (nI L.length)])), (b, .inl (cB, cap, .inl f))]) A) A
set_option maxHeartbeats 1000000 in
set_option maxRecDepth 100000 in
/-- ByteRow.size -/
theorem c_Row_size (l : Launch) (dC : Nat → ClassId) (dI : Nat → Nat → Nat) (cI cB cZ : ClassId) (sz : Nat) (r : Nat) (b : Nat) (cap : Nat) (f : Nat → Int32) (L : List Nat)  : Met l y_Row_size w_Row_size ({ frames := 0, cells := 0, slots := 0, locals := 0 }) (va_Pc [.ref r] (kp (dC, dI) classes [(cI, .int), (cB, .byte), (cZ, .boolean)] [(r, .inr (2, [.ref b, .int (nI L.length)])), (b, .inl (cB, cap, .inl f))] sz)) (Qc_Row_size dC dI cI cB cZ r b cap f L (va_A [(r, .inr (2, [.ref b, .int (nI L.length)])), (b, .inl (cB, cap, .inl f))] sz)) 0 0 (va_A [(r, .inr (2, [.ref b, .int (nI L.length)])), (b, .inl (cB, cap, .inl f))] sz) := by
  refine Met.ofW (cc := prog_2_method_2_code) (maxL := 1) (ret := (some .int)) (by decide) rfl ?_
  intro p e s m args below meth c s₁ B hml hv
  obtain ⟨rfl, hsz, hP, hK, hD0⟩ := hv
  have hx := B.exec
  have hb := B.bytes
  have hr := B.returns
  have hts := fun w h => atoms_spec (ws := w_Row_size) B.pre w (List.mem_cons_of_mem _ h)
  have hown : s.vm.findClass "DemoTape$ByteRow" = some m.cls := findClass_of_methodNamed B.named
  have hlocks := B.notSynchronized
  subst hsz
  have hD := hD0.self (sz := s.heap.size)
  generalize hAe : va_A ([(r, .inr (2, [.ref b, .int (nI L.length)])), (b, .inl (cB, cap, .inl f))] : va_W) s.heap.size = A at hD ⊢
  have hA : ∀ q : Nat, s.heap.size ≤ q → A q := fun q h => by rw [← hAe]; exact Or.inr h
  have hS : va_S A s.heap s.heap [] := va_S.rf
  have hP : va_P (dC, dI) classes [(r, .inr (2, [.ref b, .int (nI L.length)])), (b, .inl (cB, cap, .inl f))] s.heap := hP
  have hl := lv_entry ([.ref r]) (n := 1) (Nat.le_of_ble_eq_true rfl)
  rw [lg_entry_eq]
  generalize (lg_sl ([.ref r]) ++ List.replicate (1 - (lg_sl ([.ref r])).length) Slot.unset).toArray = ls at hl ⊢
  have hl : lv_has ls 1 [(0, .ref r)] := hl
  refine lv_aload_n hx hb d_Row_size_0 rfl (lv_at hl 0 rfl) ?_
  refine va_get (D := (dC, dI)) (ci := 2) (v := .int (nI L.length)) (C := "DemoTape$ByteRow") (T := F_Row) (N := 2) hx hb hts i_Row hown hK hP 0 rfl rfl 1 (by decide) (hts _ mw77) (fun _ h9 => h9) rfl d_Row_size_1 ?_
  exact kr_i (v := nI L.length) () hx hb hr rfl hK (hP.sub [0, 1] (rfl)) (hD.sub [0, 1] (by decide) (rfl)) hS (by first | with_reducible rfl | with_reducible assumption | rfl | omega) d_Row_size_4 hlocks
abbrev Qc_Row_room (dC : Nat → ClassId) (dI : Nat → Nat → Nat) (cI cB cZ : ClassId) (r : Nat) (b : Nat) (cap : Nat) (f : Nat → Int32) (L : List Nat) (A : Nat → Prop) := va_Qi (fun (r9 : Int32) (_ : Unit) => (r9 = nI (cap - L.length))) (ka (dC, dI) classes [(cI, .int), (cB, .byte), (cZ, .boolean)] (fun (_ : Unit) => [(r, .inr (2, [.ref b, .int (nI L.length)])), (b, .inl (cB, cap, .inl f))]) A) A
set_option maxHeartbeats 1000000 in
set_option maxRecDepth 100000 in
/-- ByteRow.room -/
theorem c_Row_room (l : Launch) (dC : Nat → ClassId) (dI : Nat → Nat → Nat) (cI cB cZ : ClassId) (sz : Nat) (r : Nat) (b : Nat) (cap : Nat) (f : Nat → Int32) (L : List Nat) (hB : BRow cap f L) : Met l y_Row_room w_Row_room ({ frames := 0, cells := 0, slots := 0, locals := 0 }) (va_Pc [.ref r] (kp (dC, dI) classes [(cI, .int), (cB, .byte), (cZ, .boolean)] [(r, .inr (2, [.ref b, .int (nI L.length)])), (b, .inl (cB, cap, .inl f))] sz)) (Qc_Row_room dC dI cI cB cZ r b cap f L (va_A [(r, .inr (2, [.ref b, .int (nI L.length)])), (b, .inl (cB, cap, .inl f))] sz)) 0 0 (va_A [(r, .inr (2, [.ref b, .int (nI L.length)])), (b, .inl (cB, cap, .inl f))] sz) := by
  refine Met.ofW (cc := prog_2_method_3_code) (maxL := 1) (ret := (some .int)) (by decide) rfl ?_
  intro p e s m args below meth c s₁ B hml hv
  obtain ⟨rfl, hsz, hP, hK, hD0⟩ := hv
  have hx := B.exec
  have hb := B.bytes
  have hr := B.returns
  have hts := fun w h => atoms_spec (ws := w_Row_room) B.pre w (List.mem_cons_of_mem _ h)
  have hown : s.vm.findClass "DemoTape$ByteRow" = some m.cls := findClass_of_methodNamed B.named
  have hlocks := B.notSynchronized
  subst hsz
  have hD := hD0.self (sz := s.heap.size)
  generalize hAe : va_A ([(r, .inr (2, [.ref b, .int (nI L.length)])), (b, .inl (cB, cap, .inl f))] : va_W) s.heap.size = A at hD ⊢
  have hA : ∀ q : Nat, s.heap.size ≤ q → A q := fun q h => by rw [← hAe]; exact Or.inr h
  have hS : va_S A s.heap s.heap [] := va_S.rf
  have hP : va_P (dC, dI) classes [(r, .inr (2, [.ref b, .int (nI L.length)])), (b, .inl (cB, cap, .inl f))] s.heap := hP
  obtain ⟨hf, hy, hc, hcap⟩ := id hB
  have hl := lv_entry ([.ref r]) (n := 1) (Nat.le_of_ble_eq_true rfl)
  rw [lg_entry_eq]
  generalize (lg_sl ([.ref r]) ++ List.replicate (1 - (lg_sl ([.ref r])).length) Slot.unset).toArray = ls at hl ⊢
  have hl : lv_has ls 1 [(0, .ref r)] := hl
  refine lv_aload_n hx hb d_Row_room_0 rfl (lv_at hl 0 rfl) ?_
  refine va_get (D := (dC, dI)) (ci := 2) (v := .ref b) (C := "DemoTape$ByteRow") (T := F_Row) (N := 2) hx hb hts i_Row hown hK hP 0 rfl rfl 0 (by decide) (hts _ mw76) (fun _ h9 => h9) rfl d_Row_room_1 ?_
  refine va_alen (v := nI cap) hx hb hK hP 1 1 rfl rfl rfl d_Row_room_4 ?_
  refine lv_aload_n hx hb d_Row_room_5 rfl (lv_at hl 0 rfl) ?_
  refine va_get (D := (dC, dI)) (ci := 2) (v := .int (nI L.length)) (C := "DemoTape$ByteRow") (T := F_Row) (N := 2) hx hb hts i_Row hown hK hP 0 rfl rfl 1 (by decide) (hts _ mw77) (fun _ h9 => h9) rfl d_Row_room_6 ?_
  refine lv_isub hx hb d_Row_room_9 ?_
  refine kt_i (y := nI (cap - L.length)) (pk_sub (by omega)) ?_
  exact kr_i (v := nI (cap - L.length)) () hx hb hr rfl hK (hP.sub [0, 1] (rfl)) (hD.sub [0, 1] (by decide) (rfl)) hS (by first | with_reducible rfl | with_reducible assumption | rfl | omega) d_Row_room_10 hlocks
abbrev Qc_Row_get (dC : Nat → ClassId) (dI : Nat → Nat → Nat) (cI cB cZ : ClassId) (r : Nat) (b : Nat) (cap : Nat) (f : Nat → Int32) (L : List Nat) (i : Int32) (A : Nat → Prop) := va_Qi (fun (r9 : Int32) (_ : Unit) => (r9 = kGetB L i)) (ka (dC, dI) classes [(cI, .int), (cB, .byte), (cZ, .boolean)] (fun (_ : Unit) => [(r, .inr (2, [.ref b, .int (nI L.length)])), (b, .inl (cB, cap, .inl f))]) A) A
set_option maxHeartbeats 1000000 in
set_option maxRecDepth 100000 in
/-- ByteRow.get -/
theorem c_Row_get (l : Launch) (dC : Nat → ClassId) (dI : Nat → Nat → Nat) (cI cB cZ : ClassId) (sz : Nat) (r : Nat) (b : Nat) (cap : Nat) (f : Nat → Int32) (L : List Nat) (i : Int32) (hB : BRow cap f L) : Met l y_Row_get w_Row_get ({ frames := 0, cells := 0, slots := 0, locals := 0 }) (va_Pc [.ref r, .int i] (kp (dC, dI) classes [(cI, .int), (cB, .byte), (cZ, .boolean)] [(r, .inr (2, [.ref b, .int (nI L.length)])), (b, .inl (cB, cap, .inl f))] sz)) (Qc_Row_get dC dI cI cB cZ r b cap f L i (va_A [(r, .inr (2, [.ref b, .int (nI L.length)])), (b, .inl (cB, cap, .inl f))] sz)) 0 0 (va_A [(r, .inr (2, [.ref b, .int (nI L.length)])), (b, .inl (cB, cap, .inl f))] sz) := by
  refine Met.ofW (cc := prog_2_method_4_code) (maxL := 2) (ret := (some .int)) (by decide) rfl ?_
  intro p e s m args below meth c s₁ B hml hv
  obtain ⟨rfl, hsz, hP, hK, hD0⟩ := hv
  have hx := B.exec
  have hb := B.bytes
  have hr := B.returns
  have hts := fun w h => atoms_spec (ws := w_Row_get) B.pre w (List.mem_cons_of_mem _ h)
  have hown : s.vm.findClass "DemoTape$ByteRow" = some m.cls := findClass_of_methodNamed B.named
  have hlocks := B.notSynchronized
  subst hsz
  have hD := hD0.self (sz := s.heap.size)
  generalize hAe : va_A ([(r, .inr (2, [.ref b, .int (nI L.length)])), (b, .inl (cB, cap, .inl f))] : va_W) s.heap.size = A at hD ⊢
  have hA : ∀ q : Nat, s.heap.size ≤ q → A q := fun q h => by rw [← hAe]; exact Or.inr h
  have hS : va_S A s.heap s.heap [] := va_S.rf
  have hP : va_P (dC, dI) classes [(r, .inr (2, [.ref b, .int (nI L.length)])), (b, .inl (cB, cap, .inl f))] s.heap := hP
  obtain ⟨hf, hy, hc, hcap⟩ := id hB
  have hl := lv_entry ([.ref r, .int i]) (n := 2) (Nat.le_of_ble_eq_true rfl)
  rw [lg_entry_eq]
  generalize (lg_sl ([.ref r, .int i]) ++ List.replicate (2 - (lg_sl ([.ref r, .int i])).length) Slot.unset).toArray = ls at hl ⊢
  have hl : lv_has ls 2 [(0, .ref r), (1, .int i)] := hl
  refine lv_iload_n hx hb d_Row_get_0 rfl (lv_at hl 1 rfl) ?_
  refine lv_if_lt (tgt := 34) hx hb d_Row_get_1 (by decide) (fun c_1 => ?_) (fun c_1 => ?_)
  · refine lv_iconst (v := -1) hx hb d_Row_get_34 (by decide) ?_
    exact kr_i (v := -1) () hx hb hr rfl hK (hP.sub [0, 1] (rfl)) (hD.sub [0, 1] (by decide) (rfl)) hS ((kGetB_neg c_1).symm) d_Row_get_35 hlocks
  · obtain ⟨j, hj, rfl⟩ := nI_of c_1
    refine lv_iload_n hx hb d_Row_get_4 rfl (lv_at hl 1 rfl) ?_
    refine lv_aload_n hx hb d_Row_get_5 rfl (lv_at hl 0 rfl) ?_
    refine va_get (D := (dC, dI)) (ci := 2) (v := .int (nI L.length)) (C := "DemoTape$ByteRow") (T := F_Row) (N := 2) hx hb hts i_Row hown hK hP 0 rfl rfl 1 (by decide) (hts _ mw77) (fun _ h9 => h9) rfl d_Row_get_6 ?_
    refine lv_icmp_ge (tgt := 34) hx hb d_Row_get_9 (by decide) (fun c_9 => ?_) (fun c_9 => ?_)
    · have n_9 := kn_le (a := L.length) (b := j) c_9 rfl rfl (by omega) (by omega)
      refine lv_iconst (v := -1) hx hb d_Row_get_34 (by decide) ?_
      exact kr_i (v := -1) () hx hb hr rfl hK (hP.sub [0, 1] (rfl)) (hD.sub [0, 1] (by decide) (rfl)) hS (by rw [kGetB_nI hj, List.getElem?_eq_none n_9]; rfl) d_Row_get_35 hlocks
    · have n_9 := kn_nle (a := L.length) (b := j) c_9 rfl rfl (by omega) (by omega)
      refine lv_iload_n hx hb d_Row_get_12 rfl (lv_at hl 1 rfl) ?_
      refine lv_aload_n hx hb d_Row_get_13 rfl (lv_at hl 0 rfl) ?_
      refine va_get (D := (dC, dI)) (ci := 2) (v := .ref b) (C := "DemoTape$ByteRow") (T := F_Row) (N := 2) hx hb hts i_Row hown hK hP 0 rfl rfl 0 (by decide) (hts _ mw76) (fun _ h9 => h9) rfl d_Row_get_14 ?_
      refine va_alen (v := nI cap) hx hb hK hP 1 1 rfl rfl rfl d_Row_get_17 ?_
      refine lv_icmp_ge (tgt := 34) hx hb d_Row_get_18 (by decide) (fun c_18 => ?_) (fun c_18 => ?_)
      · have n_18 := kn_le (a := cap) (b := j) c_18 rfl rfl (by omega) (by omega)
        refine lv_iconst (v := -1) hx hb d_Row_get_34 (by decide) ?_
        exact kr_i (v := -1) () hx hb hr rfl hK (hP.sub [0, 1] (rfl)) (hD.sub [0, 1] (by decide) (rfl)) hS (absurd n_18 (by omega)) d_Row_get_35 hlocks
      · have n_18 := kn_nle (a := cap) (b := j) c_18 rfl rfl (by omega) (by omega)
        refine lv_aload_n hx hb d_Row_get_21 rfl (lv_at hl 0 rfl) ?_
        refine va_get (D := (dC, dI)) (ci := 2) (v := .ref b) (C := "DemoTape$ByteRow") (T := F_Row) (N := 2) hx hb hts i_Row hown hK hP 0 rfl rfl 0 (by decide) (hts _ mw76) (fun _ h9 => h9) rfl d_Row_get_22 ?_
        refine lv_iload_n hx hb d_Row_get_25 rfl (lv_at hl 1 rfl) ?_
        refine kt_bald (j := j) hx hb hK hP 1 1 rfl rfl (by omega) (by omega) d_Row_get_26 ?_
        refine lv_sipush (v := 255) hx hb d_Row_get_27 (by decide) ?_
        refine lv_iand hx hb d_Row_get_30 ?_
        refine lv_goto (tgt := 35) hx hb d_Row_get_31 (by decide) ?_
        exact kr_i (v := (f j) &&& 255) () hx hb hr rfl hK (hP.sub [0, 1] (rfl)) (hD.sub [0, 1] (by decide) (rfl)) hS (by rw [kGetB_nI hj]; exact hf.at hy n_9) d_Row_get_35 hlocks
abbrev Qc_Row_set (dC : Nat → ClassId) (dI : Nat → Nat → Nat) (cI cB cZ : ClassId) (r : Nat) (b : Nat) (cap : Nat) (f : Nat → Int32) (L : List Nat) (j : Nat) (v : Int32) (A : Nat → Prop) := va_Qv (fun (u9 : (Nat → Int32)) => (BRow cap u9 (L.set j (iByte v)))) (ka (dC, dI) classes [(cI, .int), (cB, .byte), (cZ, .boolean)] (fun (u9 : (Nat → Int32)) => [(r, .inr (2, [.ref b, .int (nI (L.set j (iByte v)).length)])), (b, .inl (cB, cap, .inl u9))]) A) A
set_option maxHeartbeats 1000000 in
set_option maxRecDepth 100000 in
/-- ByteRow.set -/
theorem c_Row_set (l : Launch) (dC : Nat → ClassId) (dI : Nat → Nat → Nat) (cI cB cZ : ClassId) (sz : Nat) (r : Nat) (b : Nat) (cap : Nat) (f : Nat → Int32) (L : List Nat) (j : Nat) (v : Int32) (hB : BRow cap f L) (hj : j < L.length) : Met l y_Row_set w_Row_set ({ frames := 0, cells := 0, slots := 0, locals := 0 }) (va_Pc [.ref r, .int (nI j), .int v] (kp (dC, dI) classes [(cI, .int), (cB, .byte), (cZ, .boolean)] [(r, .inr (2, [.ref b, .int (nI L.length)])), (b, .inl (cB, cap, .inl f))] sz)) (Qc_Row_set dC dI cI cB cZ r b cap f L j v (va_A [(r, .inr (2, [.ref b, .int (nI L.length)])), (b, .inl (cB, cap, .inl f))] sz)) 0 0 (va_A [(r, .inr (2, [.ref b, .int (nI L.length)])), (b, .inl (cB, cap, .inl f))] sz) := by
  refine Met.ofW (cc := prog_2_method_5_code) (maxL := 3) (ret := none) (by decide) rfl ?_
  intro p e s m args below meth c s₁ B hml hv
  obtain ⟨rfl, hsz, hP, hK, hD0⟩ := hv
  have hx := B.exec
  have hb := B.bytes
  have hr := B.returns
  have hts := fun w h => atoms_spec (ws := w_Row_set) B.pre w (List.mem_cons_of_mem _ h)
  have hown : s.vm.findClass "DemoTape$ByteRow" = some m.cls := findClass_of_methodNamed B.named
  have hlocks := B.notSynchronized
  subst hsz
  have hD := hD0.self (sz := s.heap.size)
  generalize hAe : va_A ([(r, .inr (2, [.ref b, .int (nI L.length)])), (b, .inl (cB, cap, .inl f))] : va_W) s.heap.size = A at hD ⊢
  have hA : ∀ q : Nat, s.heap.size ≤ q → A q := fun q h => by rw [← hAe]; exact Or.inr h
  have hS : va_S A s.heap s.heap [] := va_S.rf
  have hP : va_P (dC, dI) classes [(r, .inr (2, [.ref b, .int (nI L.length)])), (b, .inl (cB, cap, .inl f))] s.heap := hP
  obtain ⟨hf, hy, hc, hcap⟩ := id hB
  have hl := lv_entry ([.ref r, .int (nI j), .int v]) (n := 3) (Nat.le_of_ble_eq_true rfl)
  rw [lg_entry_eq]
  generalize (lg_sl ([.ref r, .int (nI j), .int v]) ++ List.replicate (3 - (lg_sl ([.ref r, .int (nI j), .int v])).length) Slot.unset).toArray = ls at hl ⊢
  have hl : lv_has ls 3 [(0, .ref r), (1, .int (nI j)), (2, .int v)] := hl
  refine lv_iload_n hx hb d_Row_set_0 rfl (lv_at hl 1 rfl) ?_
  refine lv_if_lt (tgt := 29) hx hb d_Row_set_1 (by decide) (fun c_1 => ?_) (fun c_1 => ?_)
  · exact absurd c_1 (nI_pos (by omega))
  · refine lv_iload_n hx hb d_Row_set_4 rfl (lv_at hl 1 rfl) ?_
    refine lv_aload_n hx hb d_Row_set_5 rfl (lv_at hl 0 rfl) ?_
    refine va_get (D := (dC, dI)) (ci := 2) (v := .int (nI L.length)) (C := "DemoTape$ByteRow") (T := F_Row) (N := 2) hx hb hts i_Row hown hK hP 0 rfl rfl 1 (by decide) (hts _ mw77) (fun _ h9 => h9) rfl d_Row_set_6 ?_
    refine lv_icmp_ge (tgt := 29) hx hb d_Row_set_9 (by decide) (fun c_9 => ?_) (fun c_9 => ?_)
    · exact absurd c_9 (nI_ge (by omega) (by omega))
    · refine lv_iload_n hx hb d_Row_set_12 rfl (lv_at hl 1 rfl) ?_
      refine lv_aload_n hx hb d_Row_set_13 rfl (lv_at hl 0 rfl) ?_
      refine va_get (D := (dC, dI)) (ci := 2) (v := .ref b) (C := "DemoTape$ByteRow") (T := F_Row) (N := 2) hx hb hts i_Row hown hK hP 0 rfl rfl 0 (by decide) (hts _ mw76) (fun _ h9 => h9) rfl d_Row_set_14 ?_
      refine va_alen (v := nI cap) hx hb hK hP 1 1 rfl rfl rfl d_Row_set_17 ?_
      refine lv_icmp_ge (tgt := 29) hx hb d_Row_set_18 (by decide) (fun c_18 => ?_) (fun c_18 => ?_)
      · exact absurd c_18 (nI_ge (by omega) (by omega))
      · refine lv_aload_n hx hb d_Row_set_21 rfl (lv_at hl 0 rfl) ?_
        refine va_get (D := (dC, dI)) (ci := 2) (v := .ref b) (C := "DemoTape$ByteRow") (T := F_Row) (N := 2) hx hb hts i_Row hown hK hP 0 rfl rfl 0 (by decide) (hts _ mw76) (fun _ h9 => h9) rfl d_Row_set_22 ?_
        refine lv_iload_n hx hb d_Row_set_25 rfl (lv_at hl 1 rfl) ?_
        refine lv_iload_n hx hb d_Row_set_26 rfl (lv_at hl 2 rfl) ?_
        refine lv_i2b (v := v.toInt8.toInt32) hx hb d_Row_set_27 rfl ?_
        refine kt_bast (j := j) hx hb hK hP hD hS 1 1 rfl rfl (by omega) (by omega) d_Row_set_28 (fun H locs hP hD hS => ?_)
        have hP : va_P (dC, dI) classes [(r, .inr (2, [.ref b, .int (nI L.length)])), (b, .inl (cB, cap, .inl (upd f j v.toInt8.toInt32.toInt8.toInt32)))] H := hP
        have hD : va_D A [(r, .inr (2, [.ref b, .int (nI L.length)])), (b, .inl (cB, cap, .inl (upd f j v.toInt8.toInt32.toInt8.toInt32)))] := hD
        rw [show nI L.length = nI (L.set j (iByte v)).length by rw [List.length_set]] at hP hD
        exact kr_v (upd f j v.toInt8.toInt32.toInt8.toInt32) hx hb hr hK (hP.sub [0, 1] (rfl)) (hD.sub [0, 1] (by decide) (rfl)) hS (⟨hf.set (iByte_sb v), hy.set (Nat.mod_lt _ (by decide)), by rw [List.length_set]; exact hc, hcap⟩) d_Row_set_29 hlocks
abbrev Qc_Row_addLowest (dC : Nat → ClassId) (dI : Nat → Nat → Nat) (cI cB cZ : ClassId) (r : Nat) (b : Nat) (cap : Nat) (f : Nat → Int32) (L : List Nat) (v : Int64) (k : Nat) (A : Nat → Prop) := va_Qv (fun (u9 : (Nat → Int32)) => (BRow cap u9 (L ++ lowB (lNat v) k))) (ka (dC, dI) classes [(cI, .int), (cB, .byte), (cZ, .boolean)] (fun (u9 : (Nat → Int32)) => [(r, .inr (2, [.ref b, .int (nI (L ++ lowB (lNat v) k).length)])), (b, .inl (cB, cap, .inl u9))]) A) A
set_option maxHeartbeats 1000000 in
set_option maxRecDepth 100000 in
/-- ByteRow.addLowest -/
theorem c_Row_addLowest (l : Launch) (dC : Nat → ClassId) (dI : Nat → Nat → Nat) (cI cB cZ : ClassId) (sz : Nat) (r : Nat) (b : Nat) (cap : Nat) (f : Nat → Int32) (L : List Nat) (v : Int64) (k : Nat) (hB : BRow cap f L) (hk8 : k ≤ 8) (hk : L.length + k ≤ cap) : Met l y_Row_addLowest w_Row_addLowest ({ frames := 0, cells := 0, slots := 0, locals := 0 }) (va_Pc [.ref r, .long v, .int (nI k)] (kp (dC, dI) classes [(cI, .int), (cB, .byte), (cZ, .boolean)] [(r, .inr (2, [.ref b, .int (nI L.length)])), (b, .inl (cB, cap, .inl f))] sz)) (Qc_Row_addLowest dC dI cI cB cZ r b cap f L v k (va_A [(r, .inr (2, [.ref b, .int (nI L.length)])), (b, .inl (cB, cap, .inl f))] sz)) 0 0 (va_A [(r, .inr (2, [.ref b, .int (nI L.length)])), (b, .inl (cB, cap, .inl f))] sz) := by
  refine Met.ofW (cc := prog_2_method_6_code) (maxL := 5) (ret := none) (by decide) rfl ?_
  intro p e s m args below meth c s₁ B hml hv
  obtain ⟨rfl, hsz, hP, hK, hD0⟩ := hv
  have hx := B.exec
  have hb := B.bytes
  have hr := B.returns
  have hts := fun w h => atoms_spec (ws := w_Row_addLowest) B.pre w (List.mem_cons_of_mem _ h)
  have hown : s.vm.findClass "DemoTape$ByteRow" = some m.cls := findClass_of_methodNamed B.named
  have hlocks := B.notSynchronized
  subst hsz
  have hD := hD0.self (sz := s.heap.size)
  generalize hAe : va_A ([(r, .inr (2, [.ref b, .int (nI L.length)])), (b, .inl (cB, cap, .inl f))] : va_W) s.heap.size = A at hD ⊢
  have hA : ∀ q : Nat, s.heap.size ≤ q → A q := fun q h => by rw [← hAe]; exact Or.inr h
  have hS : va_S A s.heap s.heap [] := va_S.rf
  have hP : va_P (dC, dI) classes [(r, .inr (2, [.ref b, .int (nI L.length)])), (b, .inl (cB, cap, .inl f))] s.heap := hP
  obtain ⟨hf, hy, hc, hcap⟩ := id hB
  have hl := lv_entry ([.ref r, .long v, .int (nI k)]) (n := 5) (Nat.le_of_ble_eq_true rfl)
  rw [lg_entry_eq]
  generalize (lg_sl ([.ref r, .long v, .int (nI k)]) ++ List.replicate (5 - (lg_sl ([.ref r, .long v, .int (nI k)])).length) Slot.unset).toArray = ls at hl ⊢
  have hl : lv_has ls 5 [(0, .ref r), (1, .long v), (3, .int (nI k))] := hl
  have J_5 : ∀ (fuel : Nat) (q : Nat) (f2 : Nat → Int32) (M : List Nat), (q < fuel) → (q ≤ 8) → (BRow cap f2 M) → (M ++ lowB (lNat v) q = L ++ lowB (lNat v) k) → (M.length + q ≤ cap) → ∀ (H : Heap) (locs : List Loc), va_P (dC, dI) classes [(r, .inr (2, [.ref b, .int (nI M.length)])), (b, .inl (cB, cap, .inl f2))] H → va_D A [(r, .inr (2, [.ref b, .int (nI M.length)])), (b, .inl (cB, cap, .inl f2))] → va_S A s.heap H locs → ∀ (ls : Array Slot), lv_has ls 5 [(0, .ref r), (1, .long v), (4, .int (nI q - 1))] → W p l e (headSpec w_Row_addLowest ({ frames := 0, cells := 0, slots := 0, locals := 0 })).room s m [.ref r, .long v, .int (nI k)].toArray below meth c H locs 0 0 (MQ below (Qc_Row_addLowest dC dI cI cB cZ r b cap f L v k A) [.ref r, .long v, .int (nI k)].toArray s 0 0 A) (F0 m 5 ls []) := by
    intro fuel
    induction fuel with
    | zero => intro q f2 M hm; exact absurd hm (Nat.not_lt_zero _)
    | succ fuel ih_5 =>
      intro q f2 M hm hq hM he hl2 H locs hP hD hS ls hl
      refine lv_iload hx hb d_Row_addLowest_5 (lv_at hl 2 rfl) ?_
      refine lv_if_lt (tgt := 56) hx hb d_Row_addLowest_7 (by decide) (fun c_7 => ?_) (fun c_7 => ?_)
      · obtain rfl : q = 0 := kq0 c_7 (by omega)
        have hM0 : M = L ++ lowB (lNat v) k := by rw [← he]; exact (List.append_nil M).symm
        rw [hM0] at hP hD hM
        exact kr_v f2 hx hb hr hK (hP.sub [0, 1] (rfl)) (hD.sub [0, 1] (by decide) (rfl)) hS (hM) d_Row_addLowest_56 hlocks
      · obtain ⟨q1, rfl⟩ : ∃ z, q = z + 1 := kq1 c_7
        refine lv_aload_n hx hb d_Row_addLowest_10 rfl (lv_at hl 0 rfl) ?_
        refine va_get (D := (dC, dI)) (ci := 2) (v := .int (nI M.length)) (C := "DemoTape$ByteRow") (T := F_Row) (N := 2) hx hb hts i_Row hown hK hP 0 rfl rfl 1 (by decide) (hts _ mw77) (fun _ h9 => h9) rfl d_Row_addLowest_11 ?_
        refine lv_aload_n hx hb d_Row_addLowest_14 rfl (lv_at hl 0 rfl) ?_
        refine va_get (D := (dC, dI)) (ci := 2) (v := .ref b) (C := "DemoTape$ByteRow") (T := F_Row) (N := 2) hx hb hts i_Row hown hK hP 0 rfl rfl 0 (by decide) (hts _ mw76) (fun _ h9 => h9) rfl d_Row_addLowest_15 ?_
        refine va_alen (v := nI cap) hx hb hK hP 1 1 rfl rfl rfl d_Row_addLowest_18 ?_
        refine lv_icmp_ge (tgt := 56) hx hb d_Row_addLowest_19 (by decide) (fun c_19 => ?_) (fun c_19 => ?_)
        · exact absurd c_19 (nI_ge (by omega) (by omega))
        · have hcap := hM.2.2.2
          refine lv_aload_n hx hb d_Row_addLowest_22 rfl (lv_at hl 0 rfl) ?_
          refine va_get (D := (dC, dI)) (ci := 2) (v := .ref b) (C := "DemoTape$ByteRow") (T := F_Row) (N := 2) hx hb hts i_Row hown hK hP 0 rfl rfl 0 (by decide) (hts _ mw76) (fun _ h9 => h9) rfl d_Row_addLowest_23 ?_
          refine lv_aload_n hx hb d_Row_addLowest_26 rfl (lv_at hl 0 rfl) ?_
          refine va_get (D := (dC, dI)) (ci := 2) (v := .int (nI M.length)) (C := "DemoTape$ByteRow") (T := F_Row) (N := 2) hx hb hts i_Row hown hK hP 0 rfl rfl 1 (by decide) (hts _ mw77) (fun _ h9 => h9) rfl d_Row_addLowest_27 ?_
          refine lv_lload_n hx hb d_Row_addLowest_30 rfl (lv_at hl 1 rfl) ?_
          refine lv_bipush (v := 8) hx hb d_Row_addLowest_31 (by decide) ?_
          refine lv_iload hx hb d_Row_addLowest_33 (lv_at hl 2 rfl) ?_
          refine kt_i (y := nI q1) (nI_pred _) ?_
          refine lv_imul hx hb d_Row_addLowest_35 ?_
          refine kt_i (y := nI (8 * q1)) (pk_mul 8 q1) ?_
          refine lv_lushr (v := (v.toUInt64 >>> ((nI (8 * q1)).toInt64.toUInt64 &&& Int64.toUInt64 63)).toInt64) hx hb d_Row_addLowest_36 rfl ?_
          refine lv_l2i (v := (v.toUInt64 >>> ((nI (8 * q1)).toInt64.toUInt64 &&& Int64.toUInt64 63)).toInt64.toInt32) hx hb d_Row_addLowest_37 rfl ?_
          refine lv_i2b (v := (v.toUInt64 >>> ((nI (8 * q1)).toInt64.toUInt64 &&& Int64.toUInt64 63)).toInt64.toInt32.toInt8.toInt32) hx hb d_Row_addLowest_38 rfl ?_
          refine kt_i (y := sb_b (lNat v / 2 ^ (8 * q1) % 256)) (lNat_byte v q1 (by omega)) ?_
          refine kt_bast (j := M.length) hx hb hK hP hD hS 1 1 rfl rfl (by omega) (by omega) d_Row_addLowest_39 (fun H locs hP hD hS => ?_)
          have hP : va_P (dC, dI) classes [(r, .inr (2, [.ref b, .int (nI M.length)])), (b, .inl (cB, cap, .inl (upd f2 M.length (sb_b (lNat v / 2 ^ (8 * q1) % 256)).toInt8.toInt32)))] H := hP
          have hD : va_D A [(r, .inr (2, [.ref b, .int (nI M.length)])), (b, .inl (cB, cap, .inl (upd f2 M.length (sb_b (lNat v / 2 ^ (8 * q1) % 256)).toInt8.toInt32)))] := hD
          refine lv_aload_n hx hb d_Row_addLowest_40 rfl (lv_at hl 0 rfl) ?_
          refine lv_dup hx hb d_Row_addLowest_41 rfl ?_
          refine va_get (D := (dC, dI)) (ci := 2) (v := .int (nI M.length)) (C := "DemoTape$ByteRow") (T := F_Row) (N := 2) hx hb hts i_Row hown hK hP 0 rfl rfl 1 (by decide) (hts _ mw77) (fun _ h9 => h9) rfl d_Row_addLowest_42 ?_
          refine lv_iconst (v := 1) hx hb d_Row_addLowest_45 (by decide) ?_
          refine lv_iadd hx hb d_Row_addLowest_46 ?_
          refine kt_i (y := nI (M ++ [lNat v / 2 ^ (8 * q1) % 256]).length) (by rw [List.length_append]; exact nI_1 _) ?_
          refine va_put (D := (dC, dI)) (ci := 2) (v := .int (nI (M ++ [lNat v / 2 ^ (8 * q1) % 256]).length)) (ty := .int) (C := "DemoTape$ByteRow") (T := F_Row) (N := 2) hx hb hts i_Row t_Row t_Row_ok n_Row hown hK hP hD hS 0 rfl rfl 1 (by decide) (hts _ mw77) (fun _ h9 => h9) rfl (by decide +kernel) rfl rfl (Nat.le_of_ble_eq_true rfl) d_Row_addLowest_47 (fun H locs hP hD hS => ?_)
          have hP : va_P (dC, dI) classes [(r, .inr (2, [.ref b, .int (nI (M ++ [lNat v / 2 ^ (8 * q1) % 256]).length)])), (b, .inl (cB, cap, .inl (upd f2 M.length (sb_b (lNat v / 2 ^ (8 * q1) % 256)).toInt8.toInt32)))] H := hP
          have hD : va_D A [(r, .inr (2, [.ref b, .int (nI (M ++ [lNat v / 2 ^ (8 * q1) % 256]).length)])), (b, .inl (cB, cap, .inl (upd f2 M.length (sb_b (lNat v / 2 ^ (8 * q1) % 256)).toInt8.toInt32)))] := hD
          refine lv_iinc (v := nI q1 - 1) (lv' := [(4, .int (nI q1 - 1)), (0, .ref r), (1, .long v)]) hx hb d_Row_addLowest_50 hl (k := 2) rfl (by rw [nI_pred, Int32.sub_eq_add_neg]; rfl) (by decide) rfl (fun ls hl => ?_)
          refine lv_goto (tgt := 5) hx hb d_Row_addLowest_53 (by decide) ?_
          exact ih_5 q1 (upd f2 M.length (sb_b (lNat v / 2 ^ (8 * q1) % 256)).toInt8.toInt32) (M ++ [lNat v / 2 ^ (8 * q1) % 256]) (by omega) (by first | with_reducible assumption | omega) (hM.push (by rw [sb8]) (Nat.mod_lt _ (by decide)) (by omega)) (by rw [← he, List.append_assoc]; rfl) (by rw [List.length_append, List.length_singleton]; omega) _ _ (hP.sub [0, 1] (rfl)) (hD.sub [0, 1] (by decide) (rfl)) hS ls (lv_sub hl [1, 2, 0] rfl)
  refine lv_iload_n hx hb d_Row_addLowest_0 rfl (lv_at hl 2 rfl) ?_
  refine lv_iconst (v := 1) hx hb d_Row_addLowest_1 (by decide) ?_
  refine lv_isub hx hb d_Row_addLowest_2 ?_
  refine lv_istore (lv' := [(4, .int ((nI k) - 1)), (0, .ref r), (1, .long v), (3, .int (nI k))]) hx hb d_Row_addLowest_3 hl (by decide) rfl (fun ls hl => ?_)
  exact J_5 _ k f L (Nat.lt_succ_self _) (by first | with_reducible assumption | omega) (hB) (rfl) (hk) _ _ (hP.sub [0, 1] (rfl)) (hD.sub [0, 1] (by decide) (rfl)) hS ls (lv_sub hl [1, 2, 0] rfl)
abbrev Qc_Row_keepFirst (dC : Nat → ClassId) (dI : Nat → Nat → Nat) (cI cB cZ : ClassId) (r : Nat) (b : Nat) (cap : Nat) (f : Nat → Int32) (L : List Nat) (k : Nat) (A : Nat → Prop) := va_Qv (fun (_ : Unit) => (BRow cap f (L.take k))) (ka (dC, dI) classes [(cI, .int), (cB, .byte), (cZ, .boolean)] (fun (_ : Unit) => [(r, .inr (2, [.ref b, .int (nI (L.take k).length)])), (b, .inl (cB, cap, .inl f))]) A) A
set_option maxHeartbeats 1000000 in
set_option maxRecDepth 100000 in
/-- ByteRow.keepFirst -/
theorem c_Row_keepFirst (l : Launch) (dC : Nat → ClassId) (dI : Nat → Nat → Nat) (cI cB cZ : ClassId) (sz : Nat) (r : Nat) (b : Nat) (cap : Nat) (f : Nat → Int32) (L : List Nat) (k : Nat) (hB : BRow cap f L) (hk : k ≤ L.length) : Met l y_Row_keepFirst w_Row_keepFirst ({ frames := 1, cells := 0, slots := 0, locals := 14 }) (va_Pc [.ref r, .int (nI k)] (kp (dC, dI) classes [(cI, .int), (cB, .byte), (cZ, .boolean)] [(r, .inr (2, [.ref b, .int (nI L.length)])), (b, .inl (cB, cap, .inl f))] sz)) (Qc_Row_keepFirst dC dI cI cB cZ r b cap f L k (va_A [(r, .inr (2, [.ref b, .int (nI L.length)])), (b, .inl (cB, cap, .inl f))] sz)) 0 0 (va_A [(r, .inr (2, [.ref b, .int (nI L.length)])), (b, .inl (cB, cap, .inl f))] sz) := by
  refine Met.ofW (cc := prog_2_method_7_code) (maxL := 2) (ret := none) (by decide) rfl ?_
  intro p e s m args below meth c s₁ B hml hv
  obtain ⟨rfl, hsz, hP, hK, hD0⟩ := hv
  have hx := B.exec
  have hb := B.bytes
  have hr := B.returns
  have hts := fun w h => atoms_spec (ws := w_Row_keepFirst) B.pre w (List.mem_cons_of_mem _ h)
  have hown : s.vm.findClass "DemoTape$ByteRow" = some m.cls := findClass_of_methodNamed B.named
  have hlocks := B.notSynchronized
  subst hsz
  have hD := hD0.self (sz := s.heap.size)
  generalize hAe : va_A ([(r, .inr (2, [.ref b, .int (nI L.length)])), (b, .inl (cB, cap, .inl f))] : va_W) s.heap.size = A at hD ⊢
  have hA : ∀ q : Nat, s.heap.size ≤ q → A q := fun q h => by rw [← hAe]; exact Or.inr h
  have hS : va_S A s.heap s.heap [] := va_S.rf
  have hP : va_P (dC, dI) classes [(r, .inr (2, [.ref b, .int (nI L.length)])), (b, .inl (cB, cap, .inl f))] s.heap := hP
  obtain ⟨hf, hy, hc, hcap⟩ := id hB
  have hl := lv_entry ([.ref r, .int (nI k)]) (n := 2) (Nat.le_of_ble_eq_true rfl)
  rw [lg_entry_eq]
  generalize (lg_sl ([.ref r, .int (nI k)]) ++ List.replicate (2 - (lg_sl ([.ref r, .int (nI k)])).length) Slot.unset).toArray = ls at hl ⊢
  have hl : lv_has ls 2 [(0, .ref r), (1, .int (nI k))] := hl
  refine lv_aload_n hx hb d_Row_keepFirst_0 rfl (lv_at hl 0 rfl) ?_
  refine lv_iload_n hx hb d_Row_keepFirst_1 rfl (lv_at hl 1 rfl) ?_
  refine lv_aload_n hx hb d_Row_keepFirst_2 rfl (lv_at hl 0 rfl) ?_
  refine va_get (D := (dC, dI)) (ci := 2) (v := .int (nI L.length)) (C := "DemoTape$ByteRow") (T := F_Row) (N := 2) hx hb hts i_Row hown hK hP 0 rfl rfl 1 (by decide) (hts _ mw77) (fun _ h9 => h9) rfl d_Row_keepFirst_3 ?_
  refine va_mmin hx hb (by rw [hml]; exact hl.1.symm) hown (hts _ mw186) (hts _ mw150) (hts _ mw28) (hts _ mw151) (Nat.le_of_ble_eq_true rfl) (Nat.le_of_ble_eq_true rfl) (Nat.le_of_ble_eq_true rfl) (Nat.le_of_ble_eq_true rfl) d_Row_keepFirst_6 ?_
  refine kt_i (y := nI k) (if_neg (nI_nlt (by omega) (by omega))) ?_
  refine lv_iconst (v := 0) hx hb d_Row_keepFirst_9 (by decide) ?_
  refine va_mmax hx hb (by rw [hml]; exact hl.1.symm) hown (hts _ mw73) (hts _ mw74) (hts _ mw28) (hts _ mw75) (Nat.le_of_ble_eq_true rfl) (Nat.le_of_ble_eq_true rfl) (Nat.le_of_ble_eq_true rfl) (Nat.le_of_ble_eq_true rfl) d_Row_keepFirst_10 ?_
  refine kt_i (y := nI (L.take k).length) (by rw [if_neg (nI_pos (by omega)), List.length_take, Nat.min_eq_left (by omega)]) ?_
  refine va_put (D := (dC, dI)) (ci := 2) (v := .int (nI (L.take k).length)) (ty := .int) (C := "DemoTape$ByteRow") (T := F_Row) (N := 2) hx hb hts i_Row t_Row t_Row_ok n_Row hown hK hP hD hS 0 rfl rfl 1 (by decide) (hts _ mw77) (fun _ h9 => h9) rfl (by decide +kernel) rfl rfl (Nat.le_of_ble_eq_true rfl) d_Row_keepFirst_13 (fun H locs hP hD hS => ?_)
  have hP : va_P (dC, dI) classes [(r, .inr (2, [.ref b, .int (nI (L.take k).length)])), (b, .inl (cB, cap, .inl f))] H := hP
  have hD : va_D A [(r, .inr (2, [.ref b, .int (nI (L.take k).length)])), (b, .inl (cB, cap, .inl f))] := hD
  exact kr_v () hx hb hr hK (hP.sub [0, 1] (rfl)) (hD.sub [0, 1] (by decide) (rfl)) hS (⟨hf.take _, hy.take _, by rw [List.length_take]; omega, hcap⟩) d_Row_keepFirst_16 hlocks
abbrev Qc_Row_become (dC : Nat → ClassId) (dI : Nat → Nat → Nat) (cI cB cZ : ClassId) (r : Nat) (b : Nat) (cap : Nat) (f : Nat → Int32) (L : List Nat) (r2 : Nat) (b2 : Nat) (cap2 : Nat) (f2 : Nat → Int32) (L2 : List Nat) (A : Nat → Prop) := va_Qv (fun (u9 : (Nat → Int32)) => (BRow cap u9 L2)) (ka (dC, dI) classes [(cI, .int), (cB, .byte), (cZ, .boolean)] (fun (u9 : (Nat → Int32)) => [(r, .inr (2, [.ref b, .int (nI L2.length)])), (b, .inl (cB, cap, .inl u9)), (r2, .inr (2, [.ref b2, .int (nI L2.length)])), (b2, .inl (cB, cap2, .inl f2))]) A) A
set_option maxHeartbeats 1000000 in
set_option maxRecDepth 100000 in
/-- ByteRow.become -/
theorem c_Row_become (l : Launch) (dC : Nat → ClassId) (dI : Nat → Nat → Nat) (cI cB cZ : ClassId) (sz : Nat) (r : Nat) (b : Nat) (cap : Nat) (f : Nat → Int32) (L : List Nat) (r2 : Nat) (b2 : Nat) (cap2 : Nat) (f2 : Nat → Int32) (L2 : List Nat) (hB : BRow cap f L) (hB2 : BRow cap2 f2 L2) (hk : L2.length ≤ cap) : Met l y_Row_become w_Row_become ({ frames := 1, cells := 0, slots := 0, locals := 40 }) (va_Pc [.ref r, .ref r2] (kp (dC, dI) classes [(cI, .int), (cB, .byte), (cZ, .boolean)] [(r, .inr (2, [.ref b, .int (nI L.length)])), (b, .inl (cB, cap, .inl f)), (r2, .inr (2, [.ref b2, .int (nI L2.length)])), (b2, .inl (cB, cap2, .inl f2))] sz)) (Qc_Row_become dC dI cI cB cZ r b cap f L r2 b2 cap2 f2 L2 (va_A [(r, .inr (2, [.ref b, .int (nI L.length)])), (b, .inl (cB, cap, .inl f)), (r2, .inr (2, [.ref b2, .int (nI L2.length)])), (b2, .inl (cB, cap2, .inl f2))] sz)) 0 0 (va_A [(r, .inr (2, [.ref b, .int (nI L.length)])), (b, .inl (cB, cap, .inl f)), (r2, .inr (2, [.ref b2, .int (nI L2.length)])), (b2, .inl (cB, cap2, .inl f2))] sz) := by
  refine Met.ofW (cc := prog_2_method_8_code) (maxL := 2) (ret := none) (by decide) rfl ?_
  intro p e s m args below meth c s₁ B hml hv
  obtain ⟨rfl, hsz, hP, hK, hD0⟩ := hv
  have hx := B.exec
  have hb := B.bytes
  have hr := B.returns
  have hts := fun w h => atoms_spec (ws := w_Row_become) B.pre w (List.mem_cons_of_mem _ h)
  have hown : s.vm.findClass "DemoTape$ByteRow" = some m.cls := findClass_of_methodNamed B.named
  have hlocks := B.notSynchronized
  subst hsz
  have hD := hD0.self (sz := s.heap.size)
  generalize hAe : va_A ([(r, .inr (2, [.ref b, .int (nI L.length)])), (b, .inl (cB, cap, .inl f)), (r2, .inr (2, [.ref b2, .int (nI L2.length)])), (b2, .inl (cB, cap2, .inl f2))] : va_W) s.heap.size = A at hD ⊢
  have hA : ∀ q : Nat, s.heap.size ≤ q → A q := fun q h => by rw [← hAe]; exact Or.inr h
  have hS : va_S A s.heap s.heap [] := va_S.rf
  have hP : va_P (dC, dI) classes [(r, .inr (2, [.ref b, .int (nI L.length)])), (b, .inl (cB, cap, .inl f)), (r2, .inr (2, [.ref b2, .int (nI L2.length)])), (b2, .inl (cB, cap2, .inl f2))] s.heap := hP
  obtain ⟨hf, hy, hc, hcap⟩ := id hB
  obtain ⟨hf2, hy2, hc2, hcap2⟩ := id hB2
  have hl := lv_entry ([.ref r, .ref r2]) (n := 2) (Nat.le_of_ble_eq_true rfl)
  rw [lg_entry_eq]
  generalize (lg_sl ([.ref r, .ref r2]) ++ List.replicate (2 - (lg_sl ([.ref r, .ref r2])).length) Slot.unset).toArray = ls at hl ⊢
  have hl : lv_has ls 2 [(0, .ref r), (1, .ref r2)] := hl
  refine lv_aload_n hx hb d_Row_become_0 rfl (lv_at hl 0 rfl) ?_
  refine lv_aload_n hx hb d_Row_become_1 rfl (lv_at hl 1 rfl) ?_
  refine va_get (D := (dC, dI)) (ci := 2) (v := .int (nI L2.length)) (C := "DemoTape$ByteRow") (T := F_Row) (N := 2) hx hb hts i_Row hown hK hP 2 rfl rfl 1 (by decide) (hts _ mw77) (fun _ h9 => h9) rfl d_Row_become_2 ?_
  refine lv_aload_n hx hb d_Row_become_5 rfl (lv_at hl 0 rfl) ?_
  refine va_get (D := (dC, dI)) (ci := 2) (v := .ref b) (C := "DemoTape$ByteRow") (T := F_Row) (N := 2) hx hb hts i_Row hown hK hP 0 rfl rfl 0 (by decide) (hts _ mw76) (fun _ h9 => h9) rfl d_Row_become_6 ?_
  refine va_alen (v := nI cap) hx hb hK hP 1 1 rfl rfl rfl d_Row_become_9 ?_
  refine va_mmin hx hb (by rw [hml]; exact hl.1.symm) hown (hts _ mw186) (hts _ mw150) (hts _ mw28) (hts _ mw151) (Nat.le_of_ble_eq_true rfl) (Nat.le_of_ble_eq_true rfl) (Nat.le_of_ble_eq_true rfl) (Nat.le_of_ble_eq_true rfl) d_Row_become_10 ?_
  refine kt_i (y := nI L2.length) (if_neg (nI_nlt (by omega) (by omega))) ?_
  refine va_put (D := (dC, dI)) (ci := 2) (v := .int (nI L2.length)) (ty := .int) (C := "DemoTape$ByteRow") (T := F_Row) (N := 2) hx hb hts i_Row t_Row t_Row_ok n_Row hown hK hP hD hS 0 rfl rfl 1 (by decide) (hts _ mw77) (fun _ h9 => h9) rfl (by decide +kernel) rfl rfl (Nat.le_of_ble_eq_true rfl) d_Row_become_13 (fun H locs hP hD hS => ?_)
  have hP : va_P (dC, dI) classes [(r, .inr (2, [.ref b, .int (nI L2.length)])), (b, .inl (cB, cap, .inl f)), (r2, .inr (2, [.ref b2, .int (nI L2.length)])), (b2, .inl (cB, cap2, .inl f2))] H := hP
  have hD : va_D A [(r, .inr (2, [.ref b, .int (nI L2.length)])), (b, .inl (cB, cap, .inl f)), (r2, .inr (2, [.ref b2, .int (nI L2.length)])), (b2, .inl (cB, cap2, .inl f2))] := hD
  refine lv_aload_n hx hb d_Row_become_16 rfl (lv_at hl 1 rfl) ?_
  refine va_get (D := (dC, dI)) (ci := 2) (v := .ref b2) (C := "DemoTape$ByteRow") (T := F_Row) (N := 2) hx hb hts i_Row hown hK hP 2 rfl rfl 0 (by decide) (hts _ mw76) (fun _ h9 => h9) rfl d_Row_become_17 ?_
  refine lv_iconst (v := 0) hx hb d_Row_become_20 (by decide) ?_
  refine lv_aload_n hx hb d_Row_become_21 rfl (lv_at hl 0 rfl) ?_
  refine va_get (D := (dC, dI)) (ci := 2) (v := .ref b) (C := "DemoTape$ByteRow") (T := F_Row) (N := 2) hx hb hts i_Row hown hK hP 0 rfl rfl 0 (by decide) (hts _ mw76) (fun _ h9 => h9) rfl d_Row_become_22 ?_
  refine lv_iconst (v := 0) hx hb d_Row_become_25 (by decide) ?_
  refine lv_aload_n hx hb d_Row_become_26 rfl (lv_at hl 0 rfl) ?_
  refine va_get (D := (dC, dI)) (ci := 2) (v := .int (nI L2.length)) (C := "DemoTape$ByteRow") (T := F_Row) (N := 2) hx hb hts i_Row hown hK hP 0 rfl rfl 1 (by decide) (hts _ mw77) (fun _ h9 => h9) rfl d_Row_become_27 ?_
  refine va_copyi (ty := .byte) hx hb (by rw [hml]; exact hl.1.symm) hown (hts _ mw256) (hts _ mw258) (hts _ mw257) (hts _ mw32) hK hP hD hS 3 1 1 1 rfl rfl rfl rfl rfl (by decide) (by decide) (nI_pos (by omega)) (by rw [sb_cl0, nI_clamp (by omega)]; omega) (by rw [sb_cl0, nI_clamp (by omega)]; omega) (fun i hi => by rw [nI_clamp (by omega)] at hi; rw [sb_cl0, Nat.zero_add, hf2 i hi]; exact sb_fitB _) (Nat.le_of_ble_eq_true rfl) (Nat.le_of_ble_eq_true rfl) d_Row_become_30 (fun H locs hP hD hS => ?_)
  have hP : va_P (dC, dI) classes [(r, .inr (2, [.ref b, .int (nI L2.length)])), (b, .inl (cB, cap, .inl (va_cpy f2 f (0 : Int32).toNatClampNeg (0 : Int32).toNatClampNeg (nI L2.length).toNatClampNeg))), (r2, .inr (2, [.ref b2, .int (nI L2.length)])), (b2, .inl (cB, cap2, .inl f2))] H := hP
  have hD : va_D A [(r, .inr (2, [.ref b, .int (nI L2.length)])), (b, .inl (cB, cap, .inl (va_cpy f2 f (0 : Int32).toNatClampNeg (0 : Int32).toNatClampNeg (nI L2.length).toNatClampNeg))), (r2, .inr (2, [.ref b2, .int (nI L2.length)])), (b2, .inl (cB, cap2, .inl f2))] := hD
  rw [nI_clamp (by omega)] at hP hD
  have hP : va_P (dC, dI) classes [(r, .inr (2, [.ref b, .int (nI L2.length)])), (b, .inl (cB, cap, .inl (va_cpy f2 f (0 : Int32).toNatClampNeg (0 : Int32).toNatClampNeg L2.length))), (r2, .inr (2, [.ref b2, .int (nI L2.length)])), (b2, .inl (cB, cap2, .inl f2))] H := hP
  have hD : va_D A [(r, .inr (2, [.ref b, .int (nI L2.length)])), (b, .inl (cB, cap, .inl (va_cpy f2 f (0 : Int32).toNatClampNeg (0 : Int32).toNatClampNeg L2.length))), (r2, .inr (2, [.ref b2, .int (nI L2.length)])), (b2, .inl (cB, cap2, .inl f2))] := hD
  exact kr_v (va_cpy f2 f (0 : Int32).toNatClampNeg (0 : Int32).toNatClampNeg L2.length) hx hb hr hK (hP.sub [0, 1, 2, 3] (rfl)) (hD.sub [0, 1, 2, 3] (by decide) (rfl)) hS (⟨hf2.cpy, hy2, hk, hcap⟩) d_Row_become_33 hlocks
abbrev Qc_Row_checkOfFirst (dC : Nat → ClassId) (dI : Nat → Nat → Nat) (cI cB cZ : ClassId) (r : Nat) (b : Nat) (cap : Nat) (f : Nat → Int32) (L : List Nat) (k : Nat) (A : Nat → Prop) := va_Qi (fun (r9 : Int32) (_ : Unit) => (r9 = kChk (L.take k))) (ka (dC, dI) classes [(cI, .int), (cB, .byte), (cZ, .boolean)] (fun (_ : Unit) => [(r, .inr (2, [.ref b, .int (nI L.length)])), (b, .inl (cB, cap, .inl f))]) A) A
set_option maxHeartbeats 1000000 in
set_option maxRecDepth 100000 in
/-- ByteRow.checkOfFirst -/
theorem c_Row_checkOfFirst (l : Launch) (dC : Nat → ClassId) (dI : Nat → Nat → Nat) (cI cB cZ : ClassId) (sz : Nat) (r : Nat) (b : Nat) (cap : Nat) (f : Nat → Int32) (L : List Nat) (k : Nat) (hB : BRow cap f L) (hk : k ≤ L.length) : Met l y_Row_checkOfFirst w_Row_checkOfFirst ({ frames := 1, cells := 0, slots := 0, locals := 21 }) (va_Pc [.ref r, .int (nI k)] (kp (dC, dI) classes [(cI, .int), (cB, .byte), (cZ, .boolean)] [(r, .inr (2, [.ref b, .int (nI L.length)])), (b, .inl (cB, cap, .inl f))] sz)) (Qc_Row_checkOfFirst dC dI cI cB cZ r b cap f L k (va_A [(r, .inr (2, [.ref b, .int (nI L.length)])), (b, .inl (cB, cap, .inl f))] sz)) 0 0 (va_A [(r, .inr (2, [.ref b, .int (nI L.length)])), (b, .inl (cB, cap, .inl f))] sz) := by
  refine Met.ofW (cc := prog_2_method_9_code) (maxL := 5) (ret := (some .int)) (by decide) rfl ?_
  intro p e s m args below meth c s₁ B hml hv
  obtain ⟨rfl, hsz, hP, hK, hD0⟩ := hv
  have hx := B.exec
  have hb := B.bytes
  have hr := B.returns
  have hts := fun w h => atoms_spec (ws := w_Row_checkOfFirst) B.pre w (List.mem_cons_of_mem _ h)
  have hown : s.vm.findClass "DemoTape$ByteRow" = some m.cls := findClass_of_methodNamed B.named
  have hlocks := B.notSynchronized
  subst hsz
  have hD := hD0.self (sz := s.heap.size)
  generalize hAe : va_A ([(r, .inr (2, [.ref b, .int (nI L.length)])), (b, .inl (cB, cap, .inl f))] : va_W) s.heap.size = A at hD ⊢
  have hA : ∀ q : Nat, s.heap.size ≤ q → A q := fun q h => by rw [← hAe]; exact Or.inr h
  have hS : va_S A s.heap s.heap [] := va_S.rf
  have hP : va_P (dC, dI) classes [(r, .inr (2, [.ref b, .int (nI L.length)])), (b, .inl (cB, cap, .inl f))] s.heap := hP
  obtain ⟨hf, hy, hc, hcap⟩ := id hB
  have hl := lv_entry ([.ref r, .int (nI k)]) (n := 5) (Nat.le_of_ble_eq_true rfl)
  rw [lg_entry_eq]
  generalize (lg_sl ([.ref r, .int (nI k)]) ++ List.replicate (5 - (lg_sl ([.ref r, .int (nI k)])).length) Slot.unset).toArray = ls at hl ⊢
  have hl : lv_has ls 5 [(0, .ref r), (1, .int (nI k))] := hl
  have J_7 : ∀ (fuel : Nat) (j : Nat) (a9 : Nat) (b9 : Nat), (k - j < fuel) → (j ≤ k) → (kCk (L.take j) (1, 0) = (a9, b9)) → (a9 < 65521) → (b9 < 65521) → ∀ (H : Heap) (locs : List Loc), va_P (dC, dI) classes [(r, .inr (2, [.ref b, .int (nI L.length)])), (b, .inl (cB, cap, .inl f))] H → va_D A [(r, .inr (2, [.ref b, .int (nI L.length)])), (b, .inl (cB, cap, .inl f))] → va_S A s.heap H locs → ∀ (ls : Array Slot), lv_has ls 5 [(0, .ref r), (1, .int (nI k)), (2, .int (nI a9)), (3, .int (nI b9)), (4, .int (nI j))] → W p l e (headSpec w_Row_checkOfFirst ({ frames := 1, cells := 0, slots := 0, locals := 21 })).room s m [.ref r, .int (nI k)].toArray below meth c H locs 0 0 (MQ below (Qc_Row_checkOfFirst dC dI cI cB cZ r b cap f L k A) [.ref r, .int (nI k)].toArray s 0 0 A) (F0 m 7 ls []) := by
    intro fuel
    induction fuel with
    | zero => intro j a9 b9 hm; exact absurd hm (Nat.not_lt_zero _)
    | succ fuel ih_7 =>
      intro j a9 b9 hm hj he ha hb9 H locs hP hD hS ls hl
      refine lv_iload hx hb d_Row_checkOfFirst_7 (lv_at hl 4 rfl) ?_
      refine lv_iload_n hx hb d_Row_checkOfFirst_9 rfl (lv_at hl 1 rfl) ?_
      refine lv_icmp_ge (tgt := 47) hx hb d_Row_checkOfFirst_10 (by decide) (fun c_10 => ?_) (fun c_10 => ?_)
      · have n_10 := kn_le (a := k) (b := j) c_10 rfl rfl (by omega) (by omega)
        refine lv_iload_n hx hb d_Row_checkOfFirst_47 rfl (lv_at hl 3 rfl) ?_
        refine lv_bipush (v := 16) hx hb d_Row_checkOfFirst_48 (by decide) ?_
        refine lv_ishl hx hb d_Row_checkOfFirst_50 ?_
        refine lv_iload_n hx hb d_Row_checkOfFirst_51 rfl (lv_at hl 2 rfl) ?_
        refine lv_ior hx hb d_Row_checkOfFirst_52 ?_
        exact kr_i (v := ((nI b9) <<< ((16 : Int32) &&& 31)) ||| (nI a9)) () hx hb hr rfl hK (hP.sub [0, 1] (rfl)) (hD.sub [0, 1] (by decide) (rfl)) hS (by have e9 : k = j := (by omega); rw [e9]; unfold kChk; rw [he]) d_Row_checkOfFirst_53 hlocks
      · have n_10 := kn_nle (a := k) (b := j) c_10 rfl rfl (by omega) (by omega)
        refine lv_iload hx hb d_Row_checkOfFirst_13 (lv_at hl 4 rfl) ?_
        refine lv_aload_n hx hb d_Row_checkOfFirst_15 rfl (lv_at hl 0 rfl) ?_
        refine va_get (D := (dC, dI)) (ci := 2) (v := .int (nI L.length)) (C := "DemoTape$ByteRow") (T := F_Row) (N := 2) hx hb hts i_Row hown hK hP 0 rfl rfl 1 (by decide) (hts _ mw77) (fun _ h9 => h9) rfl d_Row_checkOfFirst_16 ?_
        refine lv_icmp_ge (tgt := 47) hx hb d_Row_checkOfFirst_19 (by decide) (fun c_19 => ?_) (fun c_19 => ?_)
        · exact absurd c_19 (nI_ge (by omega) (by omega))
        · refine lv_iload_n hx hb d_Row_checkOfFirst_22 rfl (lv_at hl 2 rfl) ?_
          refine lv_aload_n hx hb d_Row_checkOfFirst_23 rfl (lv_at hl 0 rfl) ?_
          refine lv_iload hx hb d_Row_checkOfFirst_24 (lv_at hl 4 rfl) ?_
          refine kq_i (wr := []) (va_runV (As := [.int (nI j)]) (rest := [.int (nI a9)]) ⟨hx, hb, hml, hown, hts⟩ (c_Row_get l dC dI cI cB cZ _ r b cap f L (nI j) (by first | with_reducible assumption | omega | decide)) (cwV 1 hts (gV mw233 mw234 mw235 mw27 mw236) rfl rfl rfl (by decide +kernel) ⟨Nat.le_of_ble_eq_true rfl, Nat.le_of_ble_eq_true rfl⟩) (kpV (wc := [(r, .inr (2, [.ref b, .int (nI L.length)])), (b, .inl (cB, cap, .inl f))]) (q0 := 0) (ci := 2) hK hP hD [0, 1] rfl (by decide) rfl rfl rfl) rfl rfl hl.1 rfl (lv_room (Nat.le_of_ble_eq_true rfl)) d_Row_checkOfFirst_26 ⟨Nat.le_of_ble_eq_true rfl, Nat.le_of_ble_eq_true rfl⟩) hP hD hS hA [0, 1] [] [0, 1] rfl rfl (by decide) (by decide) rfl (fun r_26 H locs hw hP hS => ?_)
          have e_26 := hw
          refine kt_i e_26 ?_
          refine kt_i (y := nI (L.getD j 0)) (kGetB_at (by omega) (by omega)) ?_
          have hlt := Byt.getD hy j
          refine lv_iadd hx hb d_Row_checkOfFirst_29 ?_
          refine kt_i (y := nI (a9 + L.getD j 0)) (nI_add _ _) ?_
          refine lv_ldc (v := 65521) hx hb hown (hts _ mw237) d_Row_checkOfFirst_30 ?_
          refine lv_irem hx hb d_Row_checkOfFirst_32 (by decide) ?_
          refine kt_i (y := nI ((a9 + L.getD j 0) % 65521)) (pk_rem (by omega) (by decide) (by decide)) ?_
          refine lv_istore_n (lv' := [(2, .int (nI ((a9 + L.getD j 0) % 65521))), (0, .ref r), (1, .int (nI k)), (3, .int (nI b9)), (4, .int (nI j))]) hx hb d_Row_checkOfFirst_33 rfl hl (by decide) rfl (fun ls hl => ?_)
          refine lv_iload_n hx hb d_Row_checkOfFirst_34 rfl (lv_at hl 3 rfl) ?_
          refine lv_iload_n hx hb d_Row_checkOfFirst_35 rfl (lv_at hl 0 rfl) ?_
          refine lv_iadd hx hb d_Row_checkOfFirst_36 ?_
          refine kt_i (y := nI (b9 + (a9 + L.getD j 0) % 65521)) (nI_add _ _) ?_
          refine lv_ldc (v := 65521) hx hb hown (hts _ mw237) d_Row_checkOfFirst_37 ?_
          refine lv_irem hx hb d_Row_checkOfFirst_39 (by decide) ?_
          refine kt_i (y := nI ((b9 + (a9 + L.getD j 0) % 65521) % 65521)) (pk_rem (by omega) (by decide) (by decide)) ?_
          refine lv_istore_n (lv' := [(3, .int (nI ((b9 + (a9 + L.getD j 0) % 65521) % 65521))), (2, .int (nI ((a9 + L.getD j 0) % 65521))), (0, .ref r), (1, .int (nI k)), (4, .int (nI j))]) hx hb d_Row_checkOfFirst_40 rfl hl (by decide) rfl (fun ls hl => ?_)
          refine lv_iinc (v := nI (j + 1)) (lv' := [(4, .int (nI (j + 1))), (3, .int (nI ((b9 + (a9 + L.getD j 0) % 65521) % 65521))), (2, .int (nI ((a9 + L.getD j 0) % 65521))), (0, .ref r), (1, .int (nI k))]) hx hb d_Row_checkOfFirst_41 hl (k := 4) rfl (by first | rfl | exact nI_1 _) (by decide) rfl (fun ls hl => ?_)
          refine lv_goto (tgt := 7) hx hb d_Row_checkOfFirst_44 (by decide) ?_
          exact ih_7 (j + 1) ((a9 + L.getD j 0) % 65521) ((b9 + (a9 + L.getD j 0) % 65521) % 65521) (by omega) (by first | with_reducible assumption | omega) (kCk_step he (by omega)) (Nat.mod_lt _ (by decide)) (Nat.mod_lt _ (by decide)) _ _ (hP.sub [0, 1] (rfl)) (hD.sub [0, 1] (by decide) (rfl)) hS ls (lv_sub hl [3, 4, 2, 1, 0] rfl)
  refine lv_iconst (v := 1) hx hb d_Row_checkOfFirst_0 (by decide) ?_
  refine lv_istore_n (lv' := [(2, .int 1), (0, .ref r), (1, .int (nI k))]) hx hb d_Row_checkOfFirst_1 rfl hl (by decide) rfl (fun ls hl => ?_)
  refine lv_iconst (v := 0) hx hb d_Row_checkOfFirst_2 (by decide) ?_
  refine lv_istore_n (lv' := [(3, .int 0), (2, .int 1), (0, .ref r), (1, .int (nI k))]) hx hb d_Row_checkOfFirst_3 rfl hl (by decide) rfl (fun ls hl => ?_)
  refine lv_iconst (v := 0) hx hb d_Row_checkOfFirst_4 (by decide) ?_
  refine lv_istore (lv' := [(4, .int 0), (3, .int 0), (2, .int 1), (0, .ref r), (1, .int (nI k))]) hx hb d_Row_checkOfFirst_5 hl (by decide) rfl (fun ls hl => ?_)
  exact J_7 _ 0 1 0 (Nat.lt_succ_self _) (by first | with_reducible assumption | omega) (rfl) (by decide) (by decide) _ _ (hP.sub [0, 1] (rfl)) (hD.sub [0, 1] (by decide) (rfl)) hS ls (lv_sub hl [3, 4, 2, 1, 0] rfl)
end
section
abbrev Qc_Rd_fault (dC : Nat → ClassId) (dI : Nat → Nat → Nat) (cI cB cZ : ClassId) (d : Nat) (r : Nat) (q : RS) (A : Nat → Prop) := va_Qi (fun (r9 : Int32) (_ : Unit) => (r9 = rFt q)) (ka (dC, dI) classes [(cI, .int), (cB, .byte), (cZ, .boolean)] (fun (_ : Unit) => [(d, .inr (3, [.ref r, .int (nI (rNx q)), .int (nI (rAn q)), .int (rFt q), .int (rPl q)]))]) A) A
set_option maxHeartbeats 1000000 in
set_option maxRecDepth 100000 in
/-- Reader.fault -/
theorem c_Rd_fault (l : Launch) (dC : Nat → ClassId) (dI : Nat → Nat → Nat) (cI cB cZ : ClassId) (sz : Nat) (d : Nat) (r : Nat) (q : RS)  : Met l y_Rd_fault w_Rd_fault ({ frames := 0, cells := 0, slots := 0, locals := 0 }) (va_Pc [.ref d] (kp (dC, dI) classes [(cI, .int), (cB, .byte), (cZ, .boolean)] [(d, .inr (3, [.ref r, .int (nI (rNx q)), .int (nI (rAn q)), .int (rFt q), .int (rPl q)]))] sz)) (Qc_Rd_fault dC dI cI cB cZ d r q (va_A [(d, .inr (3, [.ref r, .int (nI (rNx q)), .int (nI (rAn q)), .int (rFt q), .int (rPl q)]))] sz)) 0 0 (va_A [(d, .inr (3, [.ref r, .int (nI (rNx q)), .int (nI (rAn q)), .int (rFt q), .int (rPl q)]))] sz) := by
  refine Met.ofW (cc := prog_4_method_2_code) (maxL := 1) (ret := (some .int)) (by decide) rfl ?_
  intro p e s m args below meth c s₁ B hml hv
  obtain ⟨rfl, hsz, hP, hK, hD0⟩ := hv
  have hx := B.exec
  have hb := B.bytes
  have hr := B.returns
  have hts := fun w h => atoms_spec (ws := w_Rd_fault) B.pre w (List.mem_cons_of_mem _ h)
  have hown : s.vm.findClass "DemoTape$Reader" = some m.cls := findClass_of_methodNamed B.named
  have hlocks := B.notSynchronized
  subst hsz
  have hD := hD0.self (sz := s.heap.size)
  generalize hAe : va_A ([(d, .inr (3, [.ref r, .int (nI (rNx q)), .int (nI (rAn q)), .int (rFt q), .int (rPl q)]))] : va_W) s.heap.size = A at hD ⊢
  have hA : ∀ q : Nat, s.heap.size ≤ q → A q := fun q h => by rw [← hAe]; exact Or.inr h
  have hS : va_S A s.heap s.heap [] := va_S.rf
  have hP : va_P (dC, dI) classes [(d, .inr (3, [.ref r, .int (nI (rNx q)), .int (nI (rAn q)), .int (rFt q), .int (rPl q)]))] s.heap := hP
  have hl := lv_entry ([.ref d]) (n := 1) (Nat.le_of_ble_eq_true rfl)
  rw [lg_entry_eq]
  generalize (lg_sl ([.ref d]) ++ List.replicate (1 - (lg_sl ([.ref d])).length) Slot.unset).toArray = ls at hl ⊢
  have hl : lv_has ls 1 [(0, .ref d)] := hl
  refine lv_aload_n hx hb d_Rd_fault_0 rfl (lv_at hl 0 rfl) ?_
  refine va_get (D := (dC, dI)) (ci := 3) (v := .int (rFt q)) (C := "DemoTape$Reader") (T := F_Rd) (N := 5) hx hb hts i_Rd hown hK hP 0 rfl rfl 3 (by decide) (hts _ mw93) (fun _ h9 => h9) rfl d_Rd_fault_1 ?_
  exact kr_i (v := rFt q) () hx hb hr rfl hK (hP.sub [0] (rfl)) (hD.sub [0] (by decide) (rfl)) hS (by first | with_reducible rfl | with_reducible assumption | rfl | omega) d_Rd_fault_4 hlocks
abbrev Qc_Rd_faultPlace (dC : Nat → ClassId) (dI : Nat → Nat → Nat) (cI cB cZ : ClassId) (d : Nat) (r : Nat) (q : RS) (A : Nat → Prop) := va_Qi (fun (r9 : Int32) (_ : Unit) => (r9 = rPl q)) (ka (dC, dI) classes [(cI, .int), (cB, .byte), (cZ, .boolean)] (fun (_ : Unit) => [(d, .inr (3, [.ref r, .int (nI (rNx q)), .int (nI (rAn q)), .int (rFt q), .int (rPl q)]))]) A) A
set_option maxHeartbeats 1000000 in
set_option maxRecDepth 100000 in
/-- Reader.faultPlace -/
theorem c_Rd_faultPlace (l : Launch) (dC : Nat → ClassId) (dI : Nat → Nat → Nat) (cI cB cZ : ClassId) (sz : Nat) (d : Nat) (r : Nat) (q : RS)  : Met l y_Rd_faultPlace w_Rd_faultPlace ({ frames := 0, cells := 0, slots := 0, locals := 0 }) (va_Pc [.ref d] (kp (dC, dI) classes [(cI, .int), (cB, .byte), (cZ, .boolean)] [(d, .inr (3, [.ref r, .int (nI (rNx q)), .int (nI (rAn q)), .int (rFt q), .int (rPl q)]))] sz)) (Qc_Rd_faultPlace dC dI cI cB cZ d r q (va_A [(d, .inr (3, [.ref r, .int (nI (rNx q)), .int (nI (rAn q)), .int (rFt q), .int (rPl q)]))] sz)) 0 0 (va_A [(d, .inr (3, [.ref r, .int (nI (rNx q)), .int (nI (rAn q)), .int (rFt q), .int (rPl q)]))] sz) := by
  refine Met.ofW (cc := prog_4_method_3_code) (maxL := 1) (ret := (some .int)) (by decide) rfl ?_
  intro p e s m args below meth c s₁ B hml hv
  obtain ⟨rfl, hsz, hP, hK, hD0⟩ := hv
  have hx := B.exec
  have hb := B.bytes
  have hr := B.returns
  have hts := fun w h => atoms_spec (ws := w_Rd_faultPlace) B.pre w (List.mem_cons_of_mem _ h)
  have hown : s.vm.findClass "DemoTape$Reader" = some m.cls := findClass_of_methodNamed B.named
  have hlocks := B.notSynchronized
  subst hsz
  have hD := hD0.self (sz := s.heap.size)
  generalize hAe : va_A ([(d, .inr (3, [.ref r, .int (nI (rNx q)), .int (nI (rAn q)), .int (rFt q), .int (rPl q)]))] : va_W) s.heap.size = A at hD ⊢
  have hA : ∀ q : Nat, s.heap.size ≤ q → A q := fun q h => by rw [← hAe]; exact Or.inr h
  have hS : va_S A s.heap s.heap [] := va_S.rf
  have hP : va_P (dC, dI) classes [(d, .inr (3, [.ref r, .int (nI (rNx q)), .int (nI (rAn q)), .int (rFt q), .int (rPl q)]))] s.heap := hP
  have hl := lv_entry ([.ref d]) (n := 1) (Nat.le_of_ble_eq_true rfl)
  rw [lg_entry_eq]
  generalize (lg_sl ([.ref d]) ++ List.replicate (1 - (lg_sl ([.ref d])).length) Slot.unset).toArray = ls at hl ⊢
  have hl : lv_has ls 1 [(0, .ref d)] := hl
  refine lv_aload_n hx hb d_Rd_faultPlace_0 rfl (lv_at hl 0 rfl) ?_
  refine va_get (D := (dC, dI)) (ci := 3) (v := .int (rPl q)) (C := "DemoTape$Reader") (T := F_Rd) (N := 5) hx hb hts i_Rd hown hK hP 0 rfl rfl 4 (by decide) (hts _ mw94) (fun _ h9 => h9) rfl d_Rd_faultPlace_1 ?_
  exact kr_i (v := rPl q) () hx hb hr rfl hK (hP.sub [0] (rfl)) (hD.sub [0] (by decide) (rfl)) hS (by first | with_reducible rfl | with_reducible assumption | rfl | omega) d_Rd_faultPlace_4 hlocks
abbrev Qc_Rd_fail (dC : Nat → ClassId) (dI : Nat → Nat → Nat) (cI cB cZ : ClassId) (d : Nat) (r : Nat) (q : RS) (nf : Int32) (p0 : Int32) (A : Nat → Prop) := va_Qv (fun (_ : Unit) => True) (ka (dC, dI) classes [(cI, .int), (cB, .byte), (cZ, .boolean)] (fun (_ : Unit) => [(d, .inr (3, [.ref r, .int (nI (rNx (rFail nf p0 q))), .int (nI (rAn (rFail nf p0 q))), .int (rFt (rFail nf p0 q)), .int (rPl (rFail nf p0 q))]))]) A) A
set_option maxHeartbeats 1000000 in
set_option maxRecDepth 100000 in
/-- Reader.fail -/
theorem c_Rd_fail (l : Launch) (dC : Nat → ClassId) (dI : Nat → Nat → Nat) (cI cB cZ : ClassId) (sz : Nat) (d : Nat) (r : Nat) (q : RS) (nf : Int32) (p0 : Int32)  : Met l y_Rd_fail w_Rd_fail ({ frames := 0, cells := 0, slots := 0, locals := 0 }) (va_Pc [.ref d, .int nf, .int p0] (kp (dC, dI) classes [(cI, .int), (cB, .byte), (cZ, .boolean)] [(d, .inr (3, [.ref r, .int (nI (rNx q)), .int (nI (rAn q)), .int (rFt q), .int (rPl q)]))] sz)) (Qc_Rd_fail dC dI cI cB cZ d r q nf p0 (va_A [(d, .inr (3, [.ref r, .int (nI (rNx q)), .int (nI (rAn q)), .int (rFt q), .int (rPl q)]))] sz)) 0 0 (va_A [(d, .inr (3, [.ref r, .int (nI (rNx q)), .int (nI (rAn q)), .int (rFt q), .int (rPl q)]))] sz) := by
  refine Met.ofW (cc := prog_4_method_5_code) (maxL := 3) (ret := none) (by decide) rfl ?_
  intro p e s m args below meth c s₁ B hml hv
  obtain ⟨rfl, hsz, hP, hK, hD0⟩ := hv
  have hx := B.exec
  have hb := B.bytes
  have hr := B.returns
  have hts := fun w h => atoms_spec (ws := w_Rd_fail) B.pre w (List.mem_cons_of_mem _ h)
  have hown : s.vm.findClass "DemoTape$Reader" = some m.cls := findClass_of_methodNamed B.named
  have hlocks := B.notSynchronized
  subst hsz
  have hD := hD0.self (sz := s.heap.size)
  generalize hAe : va_A ([(d, .inr (3, [.ref r, .int (nI (rNx q)), .int (nI (rAn q)), .int (rFt q), .int (rPl q)]))] : va_W) s.heap.size = A at hD ⊢
  have hA : ∀ q : Nat, s.heap.size ≤ q → A q := fun q h => by rw [← hAe]; exact Or.inr h
  have hS : va_S A s.heap s.heap [] := va_S.rf
  have hP : va_P (dC, dI) classes [(d, .inr (3, [.ref r, .int (nI (rNx q)), .int (nI (rAn q)), .int (rFt q), .int (rPl q)]))] s.heap := hP
  have hl := lv_entry ([.ref d, .int nf, .int p0]) (n := 3) (Nat.le_of_ble_eq_true rfl)
  rw [lg_entry_eq]
  generalize (lg_sl ([.ref d, .int nf, .int p0]) ++ List.replicate (3 - (lg_sl ([.ref d, .int nf, .int p0])).length) Slot.unset).toArray = ls at hl ⊢
  have hl : lv_has ls 3 [(0, .ref d), (1, .int nf), (2, .int p0)] := hl
  refine lv_aload_n hx hb d_Rd_fail_0 rfl (lv_at hl 0 rfl) ?_
  refine va_get (D := (dC, dI)) (ci := 3) (v := .int (rFt q)) (C := "DemoTape$Reader") (T := F_Rd) (N := 5) hx hb hts i_Rd hown hK hP 0 rfl rfl 3 (by decide) (hts _ mw93) (fun _ h9 => h9) rfl d_Rd_fail_1 ?_
  refine lv_if_ne (tgt := 17) hx hb d_Rd_fail_4 (by decide) (fun c_4 => ?_) (fun c_4 => ?_)
  · exact kr_v () hx hb hr hK (hP.sub [0] (by rw [rFail_n c_4]; first | done | rfl)) (hD.sub [0] (by decide) (by rw [rFail_n c_4]; first | done | rfl)) hS trivial d_Rd_fail_17 hlocks
  · refine lv_aload_n hx hb d_Rd_fail_7 rfl (lv_at hl 0 rfl) ?_
    refine lv_iload_n hx hb d_Rd_fail_8 rfl (lv_at hl 1 rfl) ?_
    refine va_put (D := (dC, dI)) (ci := 3) (v := .int nf) (ty := .int) (C := "DemoTape$Reader") (T := F_Rd) (N := 5) hx hb hts i_Rd t_Rd t_Rd_ok n_Rd hown hK hP hD hS 0 rfl rfl 3 (by decide) (hts _ mw93) (fun _ h9 => h9) rfl (by decide +kernel) rfl rfl (Nat.le_of_ble_eq_true rfl) d_Rd_fail_9 (fun H locs hP hD hS => ?_)
    have hP : va_P (dC, dI) classes [(d, .inr (3, [.ref r, .int (nI (rNx q)), .int (nI (rAn q)), .int nf, .int (rPl q)]))] H := hP
    have hD : va_D A [(d, .inr (3, [.ref r, .int (nI (rNx q)), .int (nI (rAn q)), .int nf, .int (rPl q)]))] := hD
    refine lv_aload_n hx hb d_Rd_fail_12 rfl (lv_at hl 0 rfl) ?_
    refine lv_iload_n hx hb d_Rd_fail_13 rfl (lv_at hl 2 rfl) ?_
    refine va_put (D := (dC, dI)) (ci := 3) (v := .int p0) (ty := .int) (C := "DemoTape$Reader") (T := F_Rd) (N := 5) hx hb hts i_Rd t_Rd t_Rd_ok n_Rd hown hK hP hD hS 0 rfl rfl 4 (by decide) (hts _ mw94) (fun _ h9 => h9) rfl (by decide +kernel) rfl rfl (Nat.le_of_ble_eq_true rfl) d_Rd_fail_14 (fun H locs hP hD hS => ?_)
    have hP : va_P (dC, dI) classes [(d, .inr (3, [.ref r, .int (nI (rNx q)), .int (nI (rAn q)), .int nf, .int p0]))] H := hP
    have hD : va_D A [(d, .inr (3, [.ref r, .int (nI (rNx q)), .int (nI (rAn q)), .int nf, .int p0]))] := hD
    exact kr_v () hx hb hr hK (hP.sub [0] (by rw [rFail_y c_4]; first | done | rfl)) (hD.sub [0] (by decide) (by rw [rFail_y c_4]; first | done | rfl)) hS trivial d_Rd_fail_17 hlocks
abbrev Qc_Rd_take (dC : Nat → ClassId) (dI : Nat → Nat → Nat) (cI cB cZ : ClassId) (d : Nat) (r : Nat) (q : RS) (b : Nat) (cap : Nat) (f : Nat → Int32) (L : List Nat) (mo : Int32) (A : Nat → Prop) := va_Qi (fun (r9 : Int32) (_ : Unit) => (r9 = (tTake L mo q).1)) (ka (dC, dI) classes [(cI, .int), (cB, .byte), (cZ, .boolean)] (fun (_ : Unit) => [(d, .inr (3, [.ref r, .int (nI (rNx (tTake L mo q).2)), .int (nI (rAn (tTake L mo q).2)), .int (rFt (tTake L mo q).2), .int (rPl (tTake L mo q).2)])), (r, .inr (2, [.ref b, .int (nI L.length)])), (b, .inl (cB, cap, .inl f))]) A) A
set_option maxHeartbeats 1000000 in
set_option maxRecDepth 100000 in
/-- Reader.take -/
theorem c_Rd_take (l : Launch) (dC : Nat → ClassId) (dI : Nat → Nat → Nat) (cI cB cZ : ClassId) (sz : Nat) (d : Nat) (r : Nat) (q : RS) (b : Nat) (cap : Nat) (f : Nat → Int32) (L : List Nat) (mo : Int32) (hB : BRow cap f L) (hq : rNx q ≤ L.length) : Met l y_Rd_take w_Rd_take ({ frames := 1, cells := 0, slots := 0, locals := 22 }) (va_Pc [.ref d, .int mo] (kp (dC, dI) classes [(cI, .int), (cB, .byte), (cZ, .boolean)] [(d, .inr (3, [.ref r, .int (nI (rNx q)), .int (nI (rAn q)), .int (rFt q), .int (rPl q)])), (r, .inr (2, [.ref b, .int (nI L.length)])), (b, .inl (cB, cap, .inl f))] sz)) (Qc_Rd_take dC dI cI cB cZ d r q b cap f L mo (va_A [(d, .inr (3, [.ref r, .int (nI (rNx q)), .int (nI (rAn q)), .int (rFt q), .int (rPl q)])), (r, .inr (2, [.ref b, .int (nI L.length)])), (b, .inl (cB, cap, .inl f))] sz)) 0 0 (va_A [(d, .inr (3, [.ref r, .int (nI (rNx q)), .int (nI (rAn q)), .int (rFt q), .int (rPl q)])), (r, .inr (2, [.ref b, .int (nI L.length)])), (b, .inl (cB, cap, .inl f))] sz) := by
  refine Met.ofW (cc := prog_4_method_6_code) (maxL := 3) (ret := (some .int)) (by decide) rfl ?_
  intro p e s m args below meth c s₁ B hml hv
  obtain ⟨rfl, hsz, hP, hK, hD0⟩ := hv
  have hx := B.exec
  have hb := B.bytes
  have hr := B.returns
  have hts := fun w h => atoms_spec (ws := w_Rd_take) B.pre w (List.mem_cons_of_mem _ h)
  have hown : s.vm.findClass "DemoTape$Reader" = some m.cls := findClass_of_methodNamed B.named
  have hlocks := B.notSynchronized
  subst hsz
  have hD := hD0.self (sz := s.heap.size)
  generalize hAe : va_A ([(d, .inr (3, [.ref r, .int (nI (rNx q)), .int (nI (rAn q)), .int (rFt q), .int (rPl q)])), (r, .inr (2, [.ref b, .int (nI L.length)])), (b, .inl (cB, cap, .inl f))] : va_W) s.heap.size = A at hD ⊢
  have hA : ∀ q : Nat, s.heap.size ≤ q → A q := fun q h => by rw [← hAe]; exact Or.inr h
  have hS : va_S A s.heap s.heap [] := va_S.rf
  have hP : va_P (dC, dI) classes [(d, .inr (3, [.ref r, .int (nI (rNx q)), .int (nI (rAn q)), .int (rFt q), .int (rPl q)])), (r, .inr (2, [.ref b, .int (nI L.length)])), (b, .inl (cB, cap, .inl f))] s.heap := hP
  have hL : L.length ≤ 8192 := Nat.le_trans hB.2.2.1 hB.2.2.2
  have hl := lv_entry ([.ref d, .int mo]) (n := 3) (Nat.le_of_ble_eq_true rfl)
  rw [lg_entry_eq]
  generalize (lg_sl ([.ref d, .int mo]) ++ List.replicate (3 - (lg_sl ([.ref d, .int mo])).length) Slot.unset).toArray = ls at hl ⊢
  have hl : lv_has ls 3 [(0, .ref d), (1, .int mo)] := hl
  refine lv_aload_n hx hb d_Rd_take_0 rfl (lv_at hl 0 rfl) ?_
  refine va_get (D := (dC, dI)) (ci := 3) (v := .int (rFt q)) (C := "DemoTape$Reader") (T := F_Rd) (N := 5) hx hb hts i_Rd hown hK hP 0 rfl rfl 3 (by decide) (hts _ mw93) (fun _ h9 => h9) rfl d_Rd_take_1 ?_
  refine lv_if_eq (tgt := 9) hx hb d_Rd_take_4 (by decide) (fun c_4 => ?_) (fun c_4 => ?_)
  · refine lv_aload_n hx hb d_Rd_take_9 rfl (lv_at hl 0 rfl) ?_
    refine va_get (D := (dC, dI)) (ci := 3) (v := .ref r) (C := "DemoTape$Reader") (T := F_Rd) (N := 5) hx hb hts i_Rd hown hK hP 0 rfl rfl 0 (by decide) (hts _ mw90) (fun _ h9 => h9) rfl d_Rd_take_10 ?_
    refine lv_aload_n hx hb d_Rd_take_13 rfl (lv_at hl 0 rfl) ?_
    refine va_get (D := (dC, dI)) (ci := 3) (v := .int (nI (rNx q))) (C := "DemoTape$Reader") (T := F_Rd) (N := 5) hx hb hts i_Rd hown hK hP 0 rfl rfl 1 (by decide) (hts _ mw91) (fun _ h9 => h9) rfl d_Rd_take_14 ?_
    refine kq_i (wr := [(d, .inr (3, [.ref r, .int (nI (rNx q)), .int (nI (rAn q)), .int (rFt q), .int (rPl q)]))]) (va_runV (As := [.int (nI (rNx q))]) (rest := []) ⟨hx, hb, hml, hown, hts⟩ (c_Row_get l dC dI cI cB cZ _ r b cap f L (nI (rNx q)) (by first | with_reducible assumption | omega | decide)) (cwV 1 hts (gV mw296 mw234 mw235 mw27 mw236) rfl rfl rfl (by decide +kernel) ⟨Nat.le_of_ble_eq_true rfl, Nat.le_of_ble_eq_true rfl⟩) (kpV (wc := [(r, .inr (2, [.ref b, .int (nI L.length)])), (b, .inl (cB, cap, .inl f))]) (q0 := 1) (ci := 2) hK hP hD [1, 2] rfl (by decide) rfl rfl rfl) rfl rfl hl.1 rfl (lv_room (Nat.le_of_ble_eq_true rfl)) d_Rd_take_17 ⟨Nat.le_of_ble_eq_true rfl, Nat.le_of_ble_eq_true rfl⟩) hP hD hS hA [1, 2] [0] [0, 1, 2] rfl rfl (by decide) (by decide) rfl (fun r_17 H locs hw hP hS => ?_)
    have e_17 := hw
    refine kt_i e_17 ?_
    refine lv_istore_n (lv' := [(2, .int (kGetB L (nI (rNx q)))), (0, .ref d), (1, .int mo)]) hx hb d_Rd_take_20 rfl hl (by decide) rfl (fun ls hl => ?_)
    refine lv_iload_n hx hb d_Rd_take_21 rfl (lv_at hl 0 rfl) ?_
    refine lv_iconst (v := -1) hx hb d_Rd_take_22 (by decide) ?_
    refine lv_icmp_ne (tgt := 37) hx hb d_Rd_take_23 (by decide) (fun c_23 => ?_) (fun c_23 => ?_)
    · refine lv_iload_n hx hb d_Rd_take_37 rfl (lv_at hl 0 rfl) ?_
      refine lv_iload_n hx hb d_Rd_take_38 rfl (lv_at hl 2 rfl) ?_
      refine lv_icmp_le (tgt := 53) hx hb d_Rd_take_39 (by decide) (fun c_39 => ?_) (fun c_39 => ?_)
      · refine lv_aload_n hx hb d_Rd_take_53 rfl (lv_at hl 1 rfl) ?_
        refine lv_dup hx hb d_Rd_take_54 rfl ?_
        refine va_get (D := (dC, dI)) (ci := 3) (v := .int (nI (rNx q))) (C := "DemoTape$Reader") (T := F_Rd) (N := 5) hx hb hts i_Rd hown hK hP 0 rfl rfl 1 (by decide) (hts _ mw91) (fun _ h9 => h9) rfl d_Rd_take_55 ?_
        refine lv_iconst (v := 1) hx hb d_Rd_take_58 (by decide) ?_
        refine lv_iadd hx hb d_Rd_take_59 ?_
        refine kt_i (y := nI (rNx q + 1)) (nI_1 _) ?_
        refine va_put (D := (dC, dI)) (ci := 3) (v := .int (nI (rNx q + 1))) (ty := .int) (C := "DemoTape$Reader") (T := F_Rd) (N := 5) hx hb hts i_Rd t_Rd t_Rd_ok n_Rd hown hK hP hD hS 0 rfl rfl 1 (by decide) (hts _ mw91) (fun _ h9 => h9) rfl (by decide +kernel) rfl rfl (Nat.le_of_ble_eq_true rfl) d_Rd_take_60 (fun H locs hP hD hS => ?_)
        have hP : va_P (dC, dI) classes [(d, .inr (3, [.ref r, .int (nI (rNx q + 1)), .int (nI (rAn q)), .int (rFt q), .int (rPl q)])), (r, .inr (2, [.ref b, .int (nI L.length)])), (b, .inl (cB, cap, .inl f))] H := hP
        have hD : va_D A [(d, .inr (3, [.ref r, .int (nI (rNx q + 1)), .int (nI (rAn q)), .int (rFt q), .int (rPl q)])), (r, .inr (2, [.ref b, .int (nI L.length)])), (b, .inl (cB, cap, .inl f))] := hD
        refine lv_iload_n hx hb d_Rd_take_63 rfl (lv_at hl 0 rfl) ?_
        exact kr_i (v := kGetB L (nI (rNx q))) () hx hb hr rfl hK (hP.sub [0, 1, 2] (by rw [tTake_k c_4 c_23 c_39]; first | done | rfl)) (hD.sub [0, 1, 2] (by decide) (by rw [tTake_k c_4 c_23 c_39]; first | done | rfl)) hS (by rw [tTake_k c_4 c_23 c_39]) d_Rd_take_64 hlocks
      · refine lv_aload_n hx hb d_Rd_take_42 rfl (lv_at hl 1 rfl) ?_
        refine lv_iconst (v := 3) hx hb d_Rd_take_43 (by decide) ?_
        refine lv_aload_n hx hb d_Rd_take_44 rfl (lv_at hl 1 rfl) ?_
        refine va_get (D := (dC, dI)) (ci := 3) (v := .int (nI (rNx q))) (C := "DemoTape$Reader") (T := F_Rd) (N := 5) hx hb hts i_Rd hown hK hP 0 rfl rfl 1 (by decide) (hts _ mw91) (fun _ h9 => h9) rfl d_Rd_take_45 ?_
        refine kc_v (wr := [(r, .inr (2, [.ref b, .int (nI L.length)])), (b, .inl (cB, cap, .inl f))]) (w2 := fun (_ : Unit) => [(d, .inr (3, [.ref r, .int (nI (rNx (rFail 3 (nI (rNx q)) q))), .int (nI (rAn (rFail 3 (nI (rNx q)) q))), .int (rFt (rFail 3 (nI (rNx q)) q)), .int (rPl (rFail 3 (nI (rNx q)) q))])), (r, .inr (2, [.ref b, .int (nI L.length)])), (b, .inl (cB, cap, .inl f))]) (va_runV (As := [.int 3, .int (nI (rNx q))]) (rest := []) ⟨hx, hb, hml, hown, hts⟩ (c_Rd_fail l dC dI cI cB cZ _ d r q 3 (nI (rNx q)) ) (cwV 2 hts (gV mw297 mw299 mw5 mw29 mw300) rfl rfl rfl (by decide +kernel) ⟨Nat.le_of_ble_eq_true rfl, Nat.le_of_ble_eq_true rfl⟩) (kpV (wc := [(d, .inr (3, [.ref r, .int (nI (rNx q)), .int (nI (rAn q)), .int (rFt q), .int (rPl q)]))]) (q0 := 0) (ci := 3) hK hP hD [0] rfl (by decide) rfl rfl rfl) rfl rfl hl.1 rfl (lv_room (Nat.le_of_ble_eq_true rfl)) d_Rd_take_48 ⟨Nat.le_of_ble_eq_true rfl, Nat.le_of_ble_eq_true rfl⟩) hP hD hS hA [0] [1, 2] [2, 0, 1] rfl rfl (by decide) (by decide) (fun _ => rfl) (by decide) (fun _ => rfl) (fun u9 H locs hw hP hD hS => ?_)
        have hP : va_P (dC, dI) classes [(d, .inr (3, [.ref r, .int (nI (rNx (rFail 3 (nI (rNx q)) q))), .int (nI (rAn (rFail 3 (nI (rNx q)) q))), .int (rFt (rFail 3 (nI (rNx q)) q)), .int (rPl (rFail 3 (nI (rNx q)) q))])), (r, .inr (2, [.ref b, .int (nI L.length)])), (b, .inl (cB, cap, .inl f))] H := hP
        have hD : va_D A [(d, .inr (3, [.ref r, .int (nI (rNx (rFail 3 (nI (rNx q)) q))), .int (nI (rAn (rFail 3 (nI (rNx q)) q))), .int (rFt (rFail 3 (nI (rNx q)) q)), .int (rPl (rFail 3 (nI (rNx q)) q))])), (r, .inr (2, [.ref b, .int (nI L.length)])), (b, .inl (cB, cap, .inl f))] := hD
        refine lv_iconst (v := -1) hx hb d_Rd_take_51 (by decide) ?_
        exact kr_i (v := -1) () hx hb hr rfl hK (hP.sub [0, 1, 2] (by rw [tTake_b c_4 c_23 c_39]; first | done | rfl)) (hD.sub [0, 1, 2] (by decide) (by rw [tTake_b c_4 c_23 c_39]; first | done | rfl)) hS (by rw [tTake_b c_4 c_23 c_39]) d_Rd_take_52 hlocks
    · refine lv_aload_n hx hb d_Rd_take_26 rfl (lv_at hl 1 rfl) ?_
      refine lv_iconst (v := 1) hx hb d_Rd_take_27 (by decide) ?_
      refine lv_aload_n hx hb d_Rd_take_28 rfl (lv_at hl 1 rfl) ?_
      refine va_get (D := (dC, dI)) (ci := 3) (v := .int (nI (rNx q))) (C := "DemoTape$Reader") (T := F_Rd) (N := 5) hx hb hts i_Rd hown hK hP 0 rfl rfl 1 (by decide) (hts _ mw91) (fun _ h9 => h9) rfl d_Rd_take_29 ?_
      refine kc_v (wr := [(r, .inr (2, [.ref b, .int (nI L.length)])), (b, .inl (cB, cap, .inl f))]) (w2 := fun (_ : Unit) => [(d, .inr (3, [.ref r, .int (nI (rNx (rFail 1 (nI (rNx q)) q))), .int (nI (rAn (rFail 1 (nI (rNx q)) q))), .int (rFt (rFail 1 (nI (rNx q)) q)), .int (rPl (rFail 1 (nI (rNx q)) q))])), (r, .inr (2, [.ref b, .int (nI L.length)])), (b, .inl (cB, cap, .inl f))]) (va_runV (As := [.int 1, .int (nI (rNx q))]) (rest := []) ⟨hx, hb, hml, hown, hts⟩ (c_Rd_fail l dC dI cI cB cZ _ d r q 1 (nI (rNx q)) ) (cwV 2 hts (gV mw297 mw299 mw5 mw29 mw300) rfl rfl rfl (by decide +kernel) ⟨Nat.le_of_ble_eq_true rfl, Nat.le_of_ble_eq_true rfl⟩) (kpV (wc := [(d, .inr (3, [.ref r, .int (nI (rNx q)), .int (nI (rAn q)), .int (rFt q), .int (rPl q)]))]) (q0 := 0) (ci := 3) hK hP hD [0] rfl (by decide) rfl rfl rfl) rfl rfl hl.1 rfl (lv_room (Nat.le_of_ble_eq_true rfl)) d_Rd_take_32 ⟨Nat.le_of_ble_eq_true rfl, Nat.le_of_ble_eq_true rfl⟩) hP hD hS hA [0] [1, 2] [2, 0, 1] rfl rfl (by decide) (by decide) (fun _ => rfl) (by decide) (fun _ => rfl) (fun u9 H locs hw hP hD hS => ?_)
      have hP : va_P (dC, dI) classes [(d, .inr (3, [.ref r, .int (nI (rNx (rFail 1 (nI (rNx q)) q))), .int (nI (rAn (rFail 1 (nI (rNx q)) q))), .int (rFt (rFail 1 (nI (rNx q)) q)), .int (rPl (rFail 1 (nI (rNx q)) q))])), (r, .inr (2, [.ref b, .int (nI L.length)])), (b, .inl (cB, cap, .inl f))] H := hP
      have hD : va_D A [(d, .inr (3, [.ref r, .int (nI (rNx (rFail 1 (nI (rNx q)) q))), .int (nI (rAn (rFail 1 (nI (rNx q)) q))), .int (rFt (rFail 1 (nI (rNx q)) q)), .int (rPl (rFail 1 (nI (rNx q)) q))])), (r, .inr (2, [.ref b, .int (nI L.length)])), (b, .inl (cB, cap, .inl f))] := hD
      refine lv_iconst (v := -1) hx hb d_Rd_take_35 (by decide) ?_
      exact kr_i (v := -1) () hx hb hr rfl hK (hP.sub [0, 1, 2] (by rw [tTake_e c_4 c_23]; first | done | rfl)) (hD.sub [0, 1, 2] (by decide) (by rw [tTake_e c_4 c_23]; first | done | rfl)) hS (by rw [tTake_e c_4 c_23]) d_Rd_take_36 hlocks
  · refine lv_iconst (v := -1) hx hb d_Rd_take_7 (by decide) ?_
    exact kr_i (v := -1) () hx hb hr rfl hK (hP.sub [0, 1, 2] (by rw [tTake_f c_4]; first | done | rfl)) (hD.sub [0, 1, 2] (by decide) (by rw [tTake_f c_4]; first | done | rfl)) hS (by rw [tTake_f c_4]) d_Rd_take_8 hlocks
abbrev Qc_Rd_takeOnly (dC : Nat → ClassId) (dI : Nat → Nat → Nat) (cI cB cZ : ClassId) (d : Nat) (r : Nat) (q : RS) (b : Nat) (cap : Nat) (f : Nat → Int32) (L : List Nat) (du : Int32) (nf : Int32) (A : Nat → Prop) := va_Qv (fun (_ : Unit) => True) (ka (dC, dI) classes [(cI, .int), (cB, .byte), (cZ, .boolean)] (fun (_ : Unit) => [(d, .inr (3, [.ref r, .int (nI (rNx (tOnly L du nf q))), .int (nI (rAn (tOnly L du nf q))), .int (rFt (tOnly L du nf q)), .int (rPl (tOnly L du nf q))])), (r, .inr (2, [.ref b, .int (nI L.length)])), (b, .inl (cB, cap, .inl f))]) A) A
set_option maxHeartbeats 1000000 in
set_option maxRecDepth 100000 in
/-- Reader.takeOnly -/
theorem c_Rd_takeOnly (l : Launch) (dC : Nat → ClassId) (dI : Nat → Nat → Nat) (cI cB cZ : ClassId) (sz : Nat) (d : Nat) (r : Nat) (q : RS) (b : Nat) (cap : Nat) (f : Nat → Int32) (L : List Nat) (du : Int32) (nf : Int32) (hB : BRow cap f L) (hq : rNx q ≤ L.length) : Met l y_Rd_takeOnly w_Rd_takeOnly ({ frames := 2, cells := 0, slots := 0, locals := 44 }) (va_Pc [.ref d, .int du, .int nf] (kp (dC, dI) classes [(cI, .int), (cB, .byte), (cZ, .boolean)] [(d, .inr (3, [.ref r, .int (nI (rNx q)), .int (nI (rAn q)), .int (rFt q), .int (rPl q)])), (r, .inr (2, [.ref b, .int (nI L.length)])), (b, .inl (cB, cap, .inl f))] sz)) (Qc_Rd_takeOnly dC dI cI cB cZ d r q b cap f L du nf (va_A [(d, .inr (3, [.ref r, .int (nI (rNx q)), .int (nI (rAn q)), .int (rFt q), .int (rPl q)])), (r, .inr (2, [.ref b, .int (nI L.length)])), (b, .inl (cB, cap, .inl f))] sz)) 0 0 (va_A [(d, .inr (3, [.ref r, .int (nI (rNx q)), .int (nI (rAn q)), .int (rFt q), .int (rPl q)])), (r, .inr (2, [.ref b, .int (nI L.length)])), (b, .inl (cB, cap, .inl f))] sz) := by
  refine Met.ofW (cc := prog_4_method_7_code) (maxL := 4) (ret := none) (by decide) rfl ?_
  intro p e s m args below meth c s₁ B hml hv
  obtain ⟨rfl, hsz, hP, hK, hD0⟩ := hv
  have hx := B.exec
  have hb := B.bytes
  have hr := B.returns
  have hts := fun w h => atoms_spec (ws := w_Rd_takeOnly) B.pre w (List.mem_cons_of_mem _ h)
  have hown : s.vm.findClass "DemoTape$Reader" = some m.cls := findClass_of_methodNamed B.named
  have hlocks := B.notSynchronized
  subst hsz
  have hD := hD0.self (sz := s.heap.size)
  generalize hAe : va_A ([(d, .inr (3, [.ref r, .int (nI (rNx q)), .int (nI (rAn q)), .int (rFt q), .int (rPl q)])), (r, .inr (2, [.ref b, .int (nI L.length)])), (b, .inl (cB, cap, .inl f))] : va_W) s.heap.size = A at hD ⊢
  have hA : ∀ q : Nat, s.heap.size ≤ q → A q := fun q h => by rw [← hAe]; exact Or.inr h
  have hS : va_S A s.heap s.heap [] := va_S.rf
  have hP : va_P (dC, dI) classes [(d, .inr (3, [.ref r, .int (nI (rNx q)), .int (nI (rAn q)), .int (rFt q), .int (rPl q)])), (r, .inr (2, [.ref b, .int (nI L.length)])), (b, .inl (cB, cap, .inl f))] s.heap := hP
  have hL : L.length ≤ 8192 := Nat.le_trans hB.2.2.1 hB.2.2.2
  have hl := lv_entry ([.ref d, .int du, .int nf]) (n := 4) (Nat.le_of_ble_eq_true rfl)
  rw [lg_entry_eq]
  generalize (lg_sl ([.ref d, .int du, .int nf]) ++ List.replicate (4 - (lg_sl ([.ref d, .int du, .int nf])).length) Slot.unset).toArray = ls at hl ⊢
  have hl : lv_has ls 4 [(0, .ref d), (1, .int du), (2, .int nf)] := hl
  refine lv_aload_n hx hb d_Rd_takeOnly_0 rfl (lv_at hl 0 rfl) ?_
  refine va_get (D := (dC, dI)) (ci := 3) (v := .int (nI (rNx q))) (C := "DemoTape$Reader") (T := F_Rd) (N := 5) hx hb hts i_Rd hown hK hP 0 rfl rfl 1 (by decide) (hts _ mw91) (fun _ h9 => h9) rfl d_Rd_takeOnly_1 ?_
  refine lv_istore_n (lv' := [(3, .int (nI (rNx q))), (0, .ref d), (1, .int du), (2, .int nf)]) hx hb d_Rd_takeOnly_4 rfl hl (by decide) rfl (fun ls hl => ?_)
  refine lv_aload_n hx hb d_Rd_takeOnly_5 rfl (lv_at hl 1 rfl) ?_
  refine lv_sipush (v := 255) hx hb d_Rd_takeOnly_6 (by decide) ?_
  refine kc_i (wr := []) (w2 := fun (_ : Unit) => [(d, .inr (3, [.ref r, .int (nI (rNx (tTake L 255 q).2)), .int (nI (rAn (tTake L 255 q).2)), .int (rFt (tTake L 255 q).2), .int (rPl (tTake L 255 q).2)])), (r, .inr (2, [.ref b, .int (nI L.length)])), (b, .inl (cB, cap, .inl f))]) (va_runV (As := [.int 255]) (rest := []) ⟨hx, hb, hml, hown, hts⟩ (c_Rd_take l dC dI cI cB cZ _ d r q b cap f L 255 (by first | with_reducible assumption | omega | decide) (by first | with_reducible assumption | omega | decide)) (cwV 1 hts (gV mw292 mw294 mw4 mw29 mw295) rfl rfl rfl (by decide +kernel) ⟨Nat.le_of_ble_eq_true rfl, Nat.le_of_ble_eq_true rfl⟩) (kpV (wc := [(d, .inr (3, [.ref r, .int (nI (rNx q)), .int (nI (rAn q)), .int (rFt q), .int (rPl q)])), (r, .inr (2, [.ref b, .int (nI L.length)])), (b, .inl (cB, cap, .inl f))]) (q0 := 0) (ci := 3) hK hP hD [0, 1, 2] rfl (by decide) rfl rfl rfl) rfl rfl hl.1 rfl (lv_room (Nat.le_of_ble_eq_true rfl)) d_Rd_takeOnly_9 ⟨Nat.le_of_ble_eq_true rfl, Nat.le_of_ble_eq_true rfl⟩) hP hD hS hA [0, 1, 2] [] [0, 1, 2] rfl rfl (by decide) (by decide) (fun _ => rfl) (by decide) (fun _ => rfl) (fun r_9 u9 H locs hw hP hD hS => ?_)
  have hP : va_P (dC, dI) classes [(d, .inr (3, [.ref r, .int (nI (rNx (tTake L 255 q).2)), .int (nI (rAn (tTake L 255 q).2)), .int (rFt (tTake L 255 q).2), .int (rPl (tTake L 255 q).2)])), (r, .inr (2, [.ref b, .int (nI L.length)])), (b, .inl (cB, cap, .inl f))] H := hP
  have hD : va_D A [(d, .inr (3, [.ref r, .int (nI (rNx (tTake L 255 q).2)), .int (nI (rAn (tTake L 255 q).2)), .int (rFt (tTake L 255 q).2), .int (rPl (tTake L 255 q).2)])), (r, .inr (2, [.ref b, .int (nI L.length)])), (b, .inl (cB, cap, .inl f))] := hD
  have e_9 := hw
  refine kt_i e_9 ?_
  refine lv_iload_n hx hb d_Rd_takeOnly_12 rfl (lv_at hl 2 rfl) ?_
  refine lv_icmp_eq (tgt := 22) hx hb d_Rd_takeOnly_13 (by decide) (fun c_13 => ?_) (fun c_13 => ?_)
  · exact kr_v () hx hb hr hK (hP.sub [0, 1, 2] (by rw [tOnly_y c_13]; first | done | rfl)) (hD.sub [0, 1, 2] (by decide) (by rw [tOnly_y c_13]; first | done | rfl)) hS trivial d_Rd_takeOnly_22 hlocks
  · refine lv_aload_n hx hb d_Rd_takeOnly_16 rfl (lv_at hl 1 rfl) ?_
    refine lv_iload_n hx hb d_Rd_takeOnly_17 rfl (lv_at hl 3 rfl) ?_
    refine lv_iload_n hx hb d_Rd_takeOnly_18 rfl (lv_at hl 0 rfl) ?_
    refine kc_v (wr := [(r, .inr (2, [.ref b, .int (nI L.length)])), (b, .inl (cB, cap, .inl f))]) (w2 := fun (_ : Unit) => [(d, .inr (3, [.ref r, .int (nI (rNx (rFail nf (nI (rNx q)) (tTake L 255 q).2))), .int (nI (rAn (rFail nf (nI (rNx q)) (tTake L 255 q).2))), .int (rFt (rFail nf (nI (rNx q)) (tTake L 255 q).2)), .int (rPl (rFail nf (nI (rNx q)) (tTake L 255 q).2))])), (r, .inr (2, [.ref b, .int (nI L.length)])), (b, .inl (cB, cap, .inl f))]) (va_runV (As := [.int nf, .int (nI (rNx q))]) (rest := []) ⟨hx, hb, hml, hown, hts⟩ (c_Rd_fail l dC dI cI cB cZ _ d r (tTake L 255 q).2 nf (nI (rNx q)) ) (cwV 2 hts (gV mw297 mw299 mw5 mw29 mw300) rfl rfl rfl (by decide +kernel) ⟨Nat.le_of_ble_eq_true rfl, Nat.le_of_ble_eq_true rfl⟩) (kpV (wc := [(d, .inr (3, [.ref r, .int (nI (rNx (tTake L 255 q).2)), .int (nI (rAn (tTake L 255 q).2)), .int (rFt (tTake L 255 q).2), .int (rPl (tTake L 255 q).2)]))]) (q0 := 0) (ci := 3) hK hP hD [0] rfl (by decide) rfl rfl rfl) rfl rfl hl.1 rfl (lv_room (Nat.le_of_ble_eq_true rfl)) d_Rd_takeOnly_19 ⟨Nat.le_of_ble_eq_true rfl, Nat.le_of_ble_eq_true rfl⟩) hP hD hS hA [0] [1, 2] [2, 0, 1] rfl rfl (by decide) (by decide) (fun _ => rfl) (by decide) (fun _ => rfl) (fun u9 H locs hw hP hD hS => ?_)
    have hP : va_P (dC, dI) classes [(d, .inr (3, [.ref r, .int (nI (rNx (rFail nf (nI (rNx q)) (tTake L 255 q).2))), .int (nI (rAn (rFail nf (nI (rNx q)) (tTake L 255 q).2))), .int (rFt (rFail nf (nI (rNx q)) (tTake L 255 q).2)), .int (rPl (rFail nf (nI (rNx q)) (tTake L 255 q).2))])), (r, .inr (2, [.ref b, .int (nI L.length)])), (b, .inl (cB, cap, .inl f))] H := hP
    have hD : va_D A [(d, .inr (3, [.ref r, .int (nI (rNx (rFail nf (nI (rNx q)) (tTake L 255 q).2))), .int (nI (rAn (rFail nf (nI (rNx q)) (tTake L 255 q).2))), .int (rFt (rFail nf (nI (rNx q)) (tTake L 255 q).2)), .int (rPl (rFail nf (nI (rNx q)) (tTake L 255 q).2))])), (r, .inr (2, [.ref b, .int (nI L.length)])), (b, .inl (cB, cap, .inl f))] := hD
    exact kr_v () hx hb hr hK (hP.sub [0, 1, 2] (by rw [tOnly_n c_13]; first | done | rfl)) (hD.sub [0, 1, 2] (by decide) (by rw [tOnly_n c_13]; first | done | rfl)) hS trivial d_Rd_takeOnly_22 hlocks
abbrev Qc_Rd_takePlace (dC : Nat → ClassId) (dI : Nat → Nat → Nat) (cI cB cZ : ClassId) (d : Nat) (r : Nat) (q : RS) (b : Nat) (cap : Nat) (f : Nat → Int32) (L : List Nat) (A : Nat → Prop) := va_Qi (fun (r9 : Int32) (_ : Unit) => (r9 = (tPlace L q).1)) (ka (dC, dI) classes [(cI, .int), (cB, .byte), (cZ, .boolean)] (fun (_ : Unit) => [(d, .inr (3, [.ref r, .int (nI (rNx (tPlace L q).2)), .int (nI (rAn (tPlace L q).2)), .int (rFt (tPlace L q).2), .int (rPl (tPlace L q).2)])), (r, .inr (2, [.ref b, .int (nI L.length)])), (b, .inl (cB, cap, .inl f))]) A) A
set_option maxHeartbeats 1000000 in
set_option maxRecDepth 100000 in
/-- Reader.takePlace -/
theorem c_Rd_takePlace (l : Launch) (dC : Nat → ClassId) (dI : Nat → Nat → Nat) (cI cB cZ : ClassId) (sz : Nat) (d : Nat) (r : Nat) (q : RS) (b : Nat) (cap : Nat) (f : Nat → Int32) (L : List Nat) (hB : BRow cap f L) (hq : rNx q ≤ L.length) : Met l y_Rd_takePlace w_Rd_takePlace ({ frames := 2, cells := 0, slots := 0, locals := 44 }) (va_Pc [.ref d] (kp (dC, dI) classes [(cI, .int), (cB, .byte), (cZ, .boolean)] [(d, .inr (3, [.ref r, .int (nI (rNx q)), .int (nI (rAn q)), .int (rFt q), .int (rPl q)])), (r, .inr (2, [.ref b, .int (nI L.length)])), (b, .inl (cB, cap, .inl f))] sz)) (Qc_Rd_takePlace dC dI cI cB cZ d r q b cap f L (va_A [(d, .inr (3, [.ref r, .int (nI (rNx q)), .int (nI (rAn q)), .int (rFt q), .int (rPl q)])), (r, .inr (2, [.ref b, .int (nI L.length)])), (b, .inl (cB, cap, .inl f))] sz)) 0 0 (va_A [(d, .inr (3, [.ref r, .int (nI (rNx q)), .int (nI (rAn q)), .int (rFt q), .int (rPl q)])), (r, .inr (2, [.ref b, .int (nI L.length)])), (b, .inl (cB, cap, .inl f))] sz) := by
  refine Met.ofW (cc := prog_4_method_10_code) (maxL := 4) (ret := (some .int)) (by decide) rfl ?_
  intro p e s m args below meth c s₁ B hml hv
  obtain ⟨rfl, hsz, hP, hK, hD0⟩ := hv
  have hx := B.exec
  have hb := B.bytes
  have hr := B.returns
  have hts := fun w h => atoms_spec (ws := w_Rd_takePlace) B.pre w (List.mem_cons_of_mem _ h)
  have hown : s.vm.findClass "DemoTape$Reader" = some m.cls := findClass_of_methodNamed B.named
  have hlocks := B.notSynchronized
  subst hsz
  have hD := hD0.self (sz := s.heap.size)
  generalize hAe : va_A ([(d, .inr (3, [.ref r, .int (nI (rNx q)), .int (nI (rAn q)), .int (rFt q), .int (rPl q)])), (r, .inr (2, [.ref b, .int (nI L.length)])), (b, .inl (cB, cap, .inl f))] : va_W) s.heap.size = A at hD ⊢
  have hA : ∀ q : Nat, s.heap.size ≤ q → A q := fun q h => by rw [← hAe]; exact Or.inr h
  have hS : va_S A s.heap s.heap [] := va_S.rf
  have hP : va_P (dC, dI) classes [(d, .inr (3, [.ref r, .int (nI (rNx q)), .int (nI (rAn q)), .int (rFt q), .int (rPl q)])), (r, .inr (2, [.ref b, .int (nI L.length)])), (b, .inl (cB, cap, .inl f))] s.heap := hP
  have hL : L.length ≤ 8192 := Nat.le_trans hB.2.2.1 hB.2.2.2
  have hl := lv_entry ([.ref d]) (n := 4) (Nat.le_of_ble_eq_true rfl)
  rw [lg_entry_eq]
  generalize (lg_sl ([.ref d]) ++ List.replicate (4 - (lg_sl ([.ref d])).length) Slot.unset).toArray = ls at hl ⊢
  have hl : lv_has ls 4 [(0, .ref d)] := hl
  refine lv_aload_n hx hb d_Rd_takePlace_0 rfl (lv_at hl 0 rfl) ?_
  refine lv_sipush (v := 255) hx hb d_Rd_takePlace_1 (by decide) ?_
  refine kc_i (wr := []) (w2 := fun (_ : Unit) => [(d, .inr (3, [.ref r, .int (nI (rNx (tTake L 255 q).2)), .int (nI (rAn (tTake L 255 q).2)), .int (rFt (tTake L 255 q).2), .int (rPl (tTake L 255 q).2)])), (r, .inr (2, [.ref b, .int (nI L.length)])), (b, .inl (cB, cap, .inl f))]) (va_runV (As := [.int 255]) (rest := []) ⟨hx, hb, hml, hown, hts⟩ (c_Rd_take l dC dI cI cB cZ _ d r q b cap f L 255 (by first | with_reducible assumption | omega | decide) (by first | with_reducible assumption | omega | decide)) (cwV 1 hts (gV mw292 mw294 mw4 mw29 mw295) rfl rfl rfl (by decide +kernel) ⟨Nat.le_of_ble_eq_true rfl, Nat.le_of_ble_eq_true rfl⟩) (kpV (wc := [(d, .inr (3, [.ref r, .int (nI (rNx q)), .int (nI (rAn q)), .int (rFt q), .int (rPl q)])), (r, .inr (2, [.ref b, .int (nI L.length)])), (b, .inl (cB, cap, .inl f))]) (q0 := 0) (ci := 3) hK hP hD [0, 1, 2] rfl (by decide) rfl rfl rfl) rfl rfl hl.1 rfl (lv_room (Nat.le_of_ble_eq_true rfl)) d_Rd_takePlace_4 ⟨Nat.le_of_ble_eq_true rfl, Nat.le_of_ble_eq_true rfl⟩) hP hD hS hA [0, 1, 2] [] [0, 1, 2] rfl rfl (by decide) (by decide) (fun _ => rfl) (by decide) (fun _ => rfl) (fun r_4 u9 H locs hw hP hD hS => ?_)
  have hP : va_P (dC, dI) classes [(d, .inr (3, [.ref r, .int (nI (rNx (tTake L 255 q).2)), .int (nI (rAn (tTake L 255 q).2)), .int (rFt (tTake L 255 q).2), .int (rPl (tTake L 255 q).2)])), (r, .inr (2, [.ref b, .int (nI L.length)])), (b, .inl (cB, cap, .inl f))] H := hP
  have hD : va_D A [(d, .inr (3, [.ref r, .int (nI (rNx (tTake L 255 q).2)), .int (nI (rAn (tTake L 255 q).2)), .int (rFt (tTake L 255 q).2), .int (rPl (tTake L 255 q).2)])), (r, .inr (2, [.ref b, .int (nI L.length)])), (b, .inl (cB, cap, .inl f))] := hD
  have e_4 := hw
  refine kt_i e_4 ?_
  refine lv_istore_n (lv' := [(1, .int (tTake L 255 q).1), (0, .ref d)]) hx hb d_Rd_takePlace_7 rfl hl (by decide) rfl (fun ls hl => ?_)
  refine lv_aload_n hx hb d_Rd_takePlace_8 rfl (lv_at hl 1 rfl) ?_
  refine lv_sipush (v := 255) hx hb d_Rd_takePlace_9 (by decide) ?_
  refine kc_i (wr := []) (w2 := fun (_ : Unit) => [(d, .inr (3, [.ref r, .int (nI (rNx (tTake L 255 (tTake L 255 q).2).2)), .int (nI (rAn (tTake L 255 (tTake L 255 q).2).2)), .int (rFt (tTake L 255 (tTake L 255 q).2).2), .int (rPl (tTake L 255 (tTake L 255 q).2).2)])), (r, .inr (2, [.ref b, .int (nI L.length)])), (b, .inl (cB, cap, .inl f))]) (va_runV (As := [.int 255]) (rest := []) ⟨hx, hb, hml, hown, hts⟩ (c_Rd_take l dC dI cI cB cZ _ d r (tTake L 255 q).2 b cap f L 255 (by first | with_reducible assumption | omega | decide) (tTake_nx _ hq hL)) (cwV 1 hts (gV mw292 mw294 mw4 mw29 mw295) rfl rfl rfl (by decide +kernel) ⟨Nat.le_of_ble_eq_true rfl, Nat.le_of_ble_eq_true rfl⟩) (kpV (wc := [(d, .inr (3, [.ref r, .int (nI (rNx (tTake L 255 q).2)), .int (nI (rAn (tTake L 255 q).2)), .int (rFt (tTake L 255 q).2), .int (rPl (tTake L 255 q).2)])), (r, .inr (2, [.ref b, .int (nI L.length)])), (b, .inl (cB, cap, .inl f))]) (q0 := 0) (ci := 3) hK hP hD [0, 1, 2] rfl (by decide) rfl rfl rfl) rfl rfl hl.1 rfl (lv_room (Nat.le_of_ble_eq_true rfl)) d_Rd_takePlace_12 ⟨Nat.le_of_ble_eq_true rfl, Nat.le_of_ble_eq_true rfl⟩) hP hD hS hA [0, 1, 2] [] [0, 1, 2] rfl rfl (by decide) (by decide) (fun _ => rfl) (by decide) (fun _ => rfl) (fun r_12 u9 H locs hw hP hD hS => ?_)
  have hP : va_P (dC, dI) classes [(d, .inr (3, [.ref r, .int (nI (rNx (tTake L 255 (tTake L 255 q).2).2)), .int (nI (rAn (tTake L 255 (tTake L 255 q).2).2)), .int (rFt (tTake L 255 (tTake L 255 q).2).2), .int (rPl (tTake L 255 (tTake L 255 q).2).2)])), (r, .inr (2, [.ref b, .int (nI L.length)])), (b, .inl (cB, cap, .inl f))] H := hP
  have hD : va_D A [(d, .inr (3, [.ref r, .int (nI (rNx (tTake L 255 (tTake L 255 q).2).2)), .int (nI (rAn (tTake L 255 (tTake L 255 q).2).2)), .int (rFt (tTake L 255 (tTake L 255 q).2).2), .int (rPl (tTake L 255 (tTake L 255 q).2).2)])), (r, .inr (2, [.ref b, .int (nI L.length)])), (b, .inl (cB, cap, .inl f))] := hD
  have e_12 := hw
  refine kt_i e_12 ?_
  refine lv_istore_n (lv' := [(2, .int (tTake L 255 (tTake L 255 q).2).1), (1, .int (tTake L 255 q).1), (0, .ref d)]) hx hb d_Rd_takePlace_15 rfl hl (by decide) rfl (fun ls hl => ?_)
  refine lv_iload_n hx hb d_Rd_takePlace_16 rfl (lv_at hl 1 rfl) ?_
  refine lv_sipush (v := 256) hx hb d_Rd_takePlace_17 (by decide) ?_
  refine lv_imul hx hb d_Rd_takePlace_20 ?_
  refine lv_iload_n hx hb d_Rd_takePlace_21 rfl (lv_at hl 0 rfl) ?_
  refine lv_iadd hx hb d_Rd_takePlace_22 ?_
  refine lv_istore_n (lv' := [(3, .int (((tTake L 255 q).1 * 256) + (tTake L 255 (tTake L 255 q).2).1)), (2, .int (tTake L 255 (tTake L 255 q).2).1), (1, .int (tTake L 255 q).1), (0, .ref d)]) hx hb d_Rd_takePlace_23 rfl hl (by decide) rfl (fun ls hl => ?_)
  refine lv_iload_n hx hb d_Rd_takePlace_24 rfl (lv_at hl 0 rfl) ?_
  refine lv_sipush (v := 32767) hx hb d_Rd_takePlace_25 (by decide) ?_
  refine lv_icmp_le (tgt := 38) hx hb d_Rd_takePlace_28 (by decide) (fun c_28 => ?_) (fun c_28 => ?_)
  · refine lv_iload_n hx hb d_Rd_takePlace_38 rfl (lv_at hl 0 rfl) ?_
    exact kr_i (v := ((tTake L 255 q).1 * 256) + (tTake L 255 (tTake L 255 q).2).1) () hx hb hr rfl hK (hP.sub [0, 1, 2] (rfl)) (hD.sub [0, 1, 2] (by decide) (rfl)) hS (by show _ = kPlace _ _; unfold kPlace; rw [if_pos c_28]) d_Rd_takePlace_39 hlocks
  · refine lv_iload_n hx hb d_Rd_takePlace_31 rfl (lv_at hl 0 rfl) ?_
    refine lv_ldc (v := 65536) hx hb hown (hts _ mw309) d_Rd_takePlace_32 ?_
    refine lv_isub hx hb d_Rd_takePlace_34 ?_
    refine lv_goto (tgt := 39) hx hb d_Rd_takePlace_35 (by decide) ?_
    exact kr_i (v := (((tTake L 255 q).1 * 256) + (tTake L 255 (tTake L 255 q).2).1) - 65536) () hx hb hr rfl hK (hP.sub [0, 1, 2] (rfl)) (hD.sub [0, 1, 2] (by decide) (rfl)) hS (by show _ = kPlace _ _; unfold kPlace; rw [if_neg c_28]) d_Rd_takePlace_39 hlocks
abbrev Qc_Rd_takeCode (dC : Nat → ClassId) (dI : Nat → Nat → Nat) (cI cB cZ : ClassId) (d : Nat) (r : Nat) (q : RS) (b : Nat) (cap : Nat) (f : Nat → Int32) (L : List Nat) (fi : Int32) (A : Nat → Prop) := va_Qi (fun (r9 : Int32) (_ : Unit) => (r9 = (tCode L fi q).1)) (ka (dC, dI) classes [(cI, .int), (cB, .byte), (cZ, .boolean)] (fun (_ : Unit) => [(d, .inr (3, [.ref r, .int (nI (rNx (tCode L fi q).2)), .int (nI (rAn (tCode L fi q).2)), .int (rFt (tCode L fi q).2), .int (rPl (tCode L fi q).2)])), (r, .inr (2, [.ref b, .int (nI L.length)])), (b, .inl (cB, cap, .inl f))]) A) A
set_option maxHeartbeats 1000000 in
set_option maxRecDepth 100000 in
/-- Reader.takeCode -/
theorem c_Rd_takeCode (l : Launch) (dC : Nat → ClassId) (dI : Nat → Nat → Nat) (cI cB cZ : ClassId) (sz : Nat) (d : Nat) (r : Nat) (q : RS) (b : Nat) (cap : Nat) (f : Nat → Int32) (L : List Nat) (fi : Int32) (hB : BRow cap f L) (hq : rNx q ≤ L.length) : Met l y_Rd_takeCode w_Rd_takeCode ({ frames := 2, cells := 0, slots := 0, locals := 44 }) (va_Pc [.ref d, .int fi] (kp (dC, dI) classes [(cI, .int), (cB, .byte), (cZ, .boolean)] [(d, .inr (3, [.ref r, .int (nI (rNx q)), .int (nI (rAn q)), .int (rFt q), .int (rPl q)])), (r, .inr (2, [.ref b, .int (nI L.length)])), (b, .inl (cB, cap, .inl f))] sz)) (Qc_Rd_takeCode dC dI cI cB cZ d r q b cap f L fi (va_A [(d, .inr (3, [.ref r, .int (nI (rNx q)), .int (nI (rAn q)), .int (rFt q), .int (rPl q)])), (r, .inr (2, [.ref b, .int (nI L.length)])), (b, .inl (cB, cap, .inl f))] sz)) 0 0 (va_A [(d, .inr (3, [.ref r, .int (nI (rNx q)), .int (nI (rAn q)), .int (rFt q), .int (rPl q)])), (r, .inr (2, [.ref b, .int (nI L.length)])), (b, .inl (cB, cap, .inl f))] sz) := by
  refine Met.ofW (cc := prog_4_method_13_code) (maxL := 7) (ret := (some .int)) (by decide) rfl ?_
  intro p e s m args below meth c s₁ B hml hv
  obtain ⟨rfl, hsz, hP, hK, hD0⟩ := hv
  have hx := B.exec
  have hb := B.bytes
  have hr := B.returns
  have hts := fun w h => atoms_spec (ws := w_Rd_takeCode) B.pre w (List.mem_cons_of_mem _ h)
  have hown : s.vm.findClass "DemoTape$Reader" = some m.cls := findClass_of_methodNamed B.named
  have hlocks := B.notSynchronized
  subst hsz
  have hD := hD0.self (sz := s.heap.size)
  generalize hAe : va_A ([(d, .inr (3, [.ref r, .int (nI (rNx q)), .int (nI (rAn q)), .int (rFt q), .int (rPl q)])), (r, .inr (2, [.ref b, .int (nI L.length)])), (b, .inl (cB, cap, .inl f))] : va_W) s.heap.size = A at hD ⊢
  have hA : ∀ q : Nat, s.heap.size ≤ q → A q := fun q h => by rw [← hAe]; exact Or.inr h
  have hS : va_S A s.heap s.heap [] := va_S.rf
  have hP : va_P (dC, dI) classes [(d, .inr (3, [.ref r, .int (nI (rNx q)), .int (nI (rAn q)), .int (rFt q), .int (rPl q)])), (r, .inr (2, [.ref b, .int (nI L.length)])), (b, .inl (cB, cap, .inl f))] s.heap := hP
  have hL : L.length ≤ 8192 := Nat.le_trans hB.2.2.1 hB.2.2.2
  have hl := lv_entry ([.ref d, .int fi]) (n := 7) (Nat.le_of_ble_eq_true rfl)
  rw [lg_entry_eq]
  generalize (lg_sl ([.ref d, .int fi]) ++ List.replicate (7 - (lg_sl ([.ref d, .int fi])).length) Slot.unset).toArray = ls at hl ⊢
  have hl : lv_has ls 7 [(0, .ref d), (1, .int fi)] := hl
  have J_83 : ∀ (u2 : Int32) (q9 : RS), (u2 = (if fi &&& 64 = 0 then 0 else 1)) → (¬ fi &&& 128 = 0) → (q9 = (tCode L fi q).2) → ∀ (H : Heap) (locs : List Loc), va_P (dC, dI) classes [(d, .inr (3, [.ref r, .int (nI (rNx q9)), .int (nI (rAn q9)), .int (rFt q9), .int (rPl q9)])), (r, .inr (2, [.ref b, .int (nI L.length)])), (b, .inl (cB, cap, .inl f))] H → va_D A [(d, .inr (3, [.ref r, .int (nI (rNx q9)), .int (nI (rAn q9)), .int (rFt q9), .int (rPl q9)])), (r, .inr (2, [.ref b, .int (nI L.length)])), (b, .inl (cB, cap, .inl f))] → va_S A s.heap H locs → ∀ (ls : Array Slot), lv_has ls 7 [(0, .ref d), (1, .int fi), (2, .int u2), (3, .int (tTake L 128 q).1), (4, .int (tTake L 128 (tTake L 128 q).2).1), (6, .int (tTake L 32 (tTake L 128 (tTake L 128 q).2).2).1)] → W p l e (headSpec w_Rd_takeCode ({ frames := 2, cells := 0, slots := 0, locals := 44 })).room s m [.ref d, .int fi].toArray below meth c H locs 0 0 (MQ below (Qc_Rd_takeCode dC dI cI cB cZ d r q b cap f L fi A) [.ref d, .int fi].toArray s 0 0 A) (F0 m 83 ls []) := by
    intro u2 q9 hu h8 hq9 H locs hP hD hS ls hl
    refine lv_iload_n hx hb d_Rd_takeCode_83 rfl (lv_at hl 2 rfl) ?_
    refine lv_iload_n hx hb d_Rd_takeCode_84 rfl (lv_at hl 3 rfl) ?_
    refine lv_iload hx hb d_Rd_takeCode_85 (lv_at hl 4 rfl) ?_
    refine lv_iload hx hb d_Rd_takeCode_87 (lv_at hl 5 rfl) ?_
    refine kq_i (wr := [(d, .inr (3, [.ref r, .int (nI (rNx q9)), .int (nI (rAn q9)), .int (rFt q9), .int (rPl q9)])), (r, .inr (2, [.ref b, .int (nI L.length)])), (b, .inl (cB, cap, .inl f))]) (va_runS (As := [.int u2, .int (tTake L 128 q).1, .int (tTake L 128 (tTake L 128 q).2).1, .int (tTake L 32 (tTake L 128 (tTake L 128 q).2).2).1]) (rest := []) ⟨hx, hb, hml, hown, hts⟩ (c_Code_of l dC dI cI cB cZ _ u2 (tTake L 128 q).1 (tTake L 128 (tTake L 128 q).2).1 (tTake L 32 (tTake L 128 (tTake L 128 q).2).2).1 ) (va_cwS 4 hts (gS mw324 mw142 mw31 mw143) rfl rfl rfl (by decide +kernel) ⟨Nat.le_of_ble_eq_true rfl, Nat.le_of_ble_eq_true rfl⟩) (kpS (wc := []) hK hP hD [] rfl (by decide) rfl) rfl rfl hl.1 rfl (lv_room (Nat.le_of_ble_eq_true rfl)) d_Rd_takeCode_89 ⟨Nat.le_of_ble_eq_true rfl, Nat.le_of_ble_eq_true rfl⟩) hP hD hS hA [] [0, 1, 2] [0, 1, 2] rfl rfl (by decide) (by decide) rfl (fun r_89 H locs hw hP hS => ?_)
    have e_89 := hw
    refine kt_i e_89 ?_
    subst hq9
    exact kr_i (v := kCode u2 (tTake L 128 q).1 (tTake L 128 (tTake L 128 q).2).1 (tTake L 32 (tTake L 128 (tTake L 128 q).2).2).1) () hx hb hr rfl hK (hP.sub [0, 1, 2] (rfl)) (hD.sub [0, 1, 2] (by decide) (rfl)) hS (by rw [hu, tCode_v h8]) d_Rd_takeCode_92 hlocks
  have J_12 : ∀ (u2 : Int32), (u2 = (if fi &&& 64 = 0 then 0 else 1)) → ∀ (H : Heap) (locs : List Loc), va_P (dC, dI) classes [(d, .inr (3, [.ref r, .int (nI (rNx q)), .int (nI (rAn q)), .int (rFt q), .int (rPl q)])), (r, .inr (2, [.ref b, .int (nI L.length)])), (b, .inl (cB, cap, .inl f))] H → va_D A [(d, .inr (3, [.ref r, .int (nI (rNx q)), .int (nI (rAn q)), .int (rFt q), .int (rPl q)])), (r, .inr (2, [.ref b, .int (nI L.length)])), (b, .inl (cB, cap, .inl f))] → va_S A s.heap H locs → ∀ (ls : Array Slot), lv_has ls 7 [(0, .ref d), (1, .int fi)] → W p l e (headSpec w_Rd_takeCode ({ frames := 2, cells := 0, slots := 0, locals := 44 })).room s m [.ref d, .int fi].toArray below meth c H locs 0 0 (MQ below (Qc_Rd_takeCode dC dI cI cB cZ d r q b cap f L fi A) [.ref d, .int fi].toArray s 0 0 A) (F0 m 12 ls [.int u2]) := by
    intro u2 hu H locs hP hD hS ls hl
    refine lv_istore_n (lv' := [(2, .int u2), (0, .ref d), (1, .int fi)]) hx hb d_Rd_takeCode_12 rfl hl (by decide) rfl (fun ls hl => ?_)
    refine lv_aload_n hx hb d_Rd_takeCode_13 rfl (lv_at hl 1 rfl) ?_
    refine lv_sipush (v := 128) hx hb d_Rd_takeCode_14 (by decide) ?_
    refine kc_i (wr := []) (w2 := fun (_ : Unit) => [(d, .inr (3, [.ref r, .int (nI (rNx (tTake L 128 q).2)), .int (nI (rAn (tTake L 128 q).2)), .int (rFt (tTake L 128 q).2), .int (rPl (tTake L 128 q).2)])), (r, .inr (2, [.ref b, .int (nI L.length)])), (b, .inl (cB, cap, .inl f))]) (va_runV (As := [.int 128]) (rest := []) ⟨hx, hb, hml, hown, hts⟩ (c_Rd_take l dC dI cI cB cZ _ d r q b cap f L 128 (by first | with_reducible assumption | omega | decide) (by first | with_reducible assumption | omega | decide)) (cwV 1 hts (gV mw292 mw294 mw4 mw29 mw295) rfl rfl rfl (by decide +kernel) ⟨Nat.le_of_ble_eq_true rfl, Nat.le_of_ble_eq_true rfl⟩) (kpV (wc := [(d, .inr (3, [.ref r, .int (nI (rNx q)), .int (nI (rAn q)), .int (rFt q), .int (rPl q)])), (r, .inr (2, [.ref b, .int (nI L.length)])), (b, .inl (cB, cap, .inl f))]) (q0 := 0) (ci := 3) hK hP hD [0, 1, 2] rfl (by decide) rfl rfl rfl) rfl rfl hl.1 rfl (lv_room (Nat.le_of_ble_eq_true rfl)) d_Rd_takeCode_17 ⟨Nat.le_of_ble_eq_true rfl, Nat.le_of_ble_eq_true rfl⟩) hP hD hS hA [0, 1, 2] [] [0, 1, 2] rfl rfl (by decide) (by decide) (fun _ => rfl) (by decide) (fun _ => rfl) (fun r_17 u9 H locs hw hP hD hS => ?_)
    have hP : va_P (dC, dI) classes [(d, .inr (3, [.ref r, .int (nI (rNx (tTake L 128 q).2)), .int (nI (rAn (tTake L 128 q).2)), .int (rFt (tTake L 128 q).2), .int (rPl (tTake L 128 q).2)])), (r, .inr (2, [.ref b, .int (nI L.length)])), (b, .inl (cB, cap, .inl f))] H := hP
    have hD : va_D A [(d, .inr (3, [.ref r, .int (nI (rNx (tTake L 128 q).2)), .int (nI (rAn (tTake L 128 q).2)), .int (rFt (tTake L 128 q).2), .int (rPl (tTake L 128 q).2)])), (r, .inr (2, [.ref b, .int (nI L.length)])), (b, .inl (cB, cap, .inl f))] := hD
    have e_17 := hw
    refine kt_i e_17 ?_
    refine lv_istore_n (lv' := [(3, .int (tTake L 128 q).1), (2, .int u2), (0, .ref d), (1, .int fi)]) hx hb d_Rd_takeCode_20 rfl hl (by decide) rfl (fun ls hl => ?_)
    refine lv_iload_n hx hb d_Rd_takeCode_21 rfl (lv_at hl 3 rfl) ?_
    refine lv_sipush (v := 128) hx hb d_Rd_takeCode_22 (by decide) ?_
    refine lv_iand hx hb d_Rd_takeCode_25 ?_
    refine lv_if_ne (tgt := 39) hx hb d_Rd_takeCode_26 (by decide) (fun c_26 => ?_) (fun c_26 => ?_)
    · refine lv_aload_n hx hb d_Rd_takeCode_39 rfl (lv_at hl 2 rfl) ?_
      refine lv_sipush (v := 128) hx hb d_Rd_takeCode_40 (by decide) ?_
      refine kc_i (wr := []) (w2 := fun (_ : Unit) => [(d, .inr (3, [.ref r, .int (nI (rNx (tTake L 128 (tTake L 128 q).2).2)), .int (nI (rAn (tTake L 128 (tTake L 128 q).2).2)), .int (rFt (tTake L 128 (tTake L 128 q).2).2), .int (rPl (tTake L 128 (tTake L 128 q).2).2)])), (r, .inr (2, [.ref b, .int (nI L.length)])), (b, .inl (cB, cap, .inl f))]) (va_runV (As := [.int 128]) (rest := []) ⟨hx, hb, hml, hown, hts⟩ (c_Rd_take l dC dI cI cB cZ _ d r (tTake L 128 q).2 b cap f L 128 (by first | with_reducible assumption | omega | decide) (tTake_nx _ hq hL)) (cwV 1 hts (gV mw292 mw294 mw4 mw29 mw295) rfl rfl rfl (by decide +kernel) ⟨Nat.le_of_ble_eq_true rfl, Nat.le_of_ble_eq_true rfl⟩) (kpV (wc := [(d, .inr (3, [.ref r, .int (nI (rNx (tTake L 128 q).2)), .int (nI (rAn (tTake L 128 q).2)), .int (rFt (tTake L 128 q).2), .int (rPl (tTake L 128 q).2)])), (r, .inr (2, [.ref b, .int (nI L.length)])), (b, .inl (cB, cap, .inl f))]) (q0 := 0) (ci := 3) hK hP hD [0, 1, 2] rfl (by decide) rfl rfl rfl) rfl rfl hl.1 rfl (lv_room (Nat.le_of_ble_eq_true rfl)) d_Rd_takeCode_43 ⟨Nat.le_of_ble_eq_true rfl, Nat.le_of_ble_eq_true rfl⟩) hP hD hS hA [0, 1, 2] [] [0, 1, 2] rfl rfl (by decide) (by decide) (fun _ => rfl) (by decide) (fun _ => rfl) (fun r_43 u9 H locs hw hP hD hS => ?_)
      have hP : va_P (dC, dI) classes [(d, .inr (3, [.ref r, .int (nI (rNx (tTake L 128 (tTake L 128 q).2).2)), .int (nI (rAn (tTake L 128 (tTake L 128 q).2).2)), .int (rFt (tTake L 128 (tTake L 128 q).2).2), .int (rPl (tTake L 128 (tTake L 128 q).2).2)])), (r, .inr (2, [.ref b, .int (nI L.length)])), (b, .inl (cB, cap, .inl f))] H := hP
      have hD : va_D A [(d, .inr (3, [.ref r, .int (nI (rNx (tTake L 128 (tTake L 128 q).2).2)), .int (nI (rAn (tTake L 128 (tTake L 128 q).2).2)), .int (rFt (tTake L 128 (tTake L 128 q).2).2), .int (rPl (tTake L 128 (tTake L 128 q).2).2)])), (r, .inr (2, [.ref b, .int (nI L.length)])), (b, .inl (cB, cap, .inl f))] := hD
      have e_43 := hw
      refine kt_i e_43 ?_
      refine lv_istore (lv' := [(4, .int (tTake L 128 (tTake L 128 q).2).1), (3, .int (tTake L 128 q).1), (2, .int u2), (0, .ref d), (1, .int fi)]) hx hb d_Rd_takeCode_46 hl (by decide) rfl (fun ls hl => ?_)
      refine lv_aload_n hx hb d_Rd_takeCode_48 rfl (lv_at hl 3 rfl) ?_
      refine va_get (D := (dC, dI)) (ci := 3) (v := .int (nI (rNx (tTake L 128 (tTake L 128 q).2).2))) (C := "DemoTape$Reader") (T := F_Rd) (N := 5) hx hb hts i_Rd hown hK hP 0 rfl rfl 1 (by decide) (hts _ mw91) (fun _ h9 => h9) rfl d_Rd_takeCode_49 ?_
      refine lv_istore (lv' := [(5, .int (nI (rNx (tTake L 128 (tTake L 128 q).2).2))), (4, .int (tTake L 128 (tTake L 128 q).2).1), (3, .int (tTake L 128 q).1), (2, .int u2), (0, .ref d), (1, .int fi)]) hx hb d_Rd_takeCode_52 hl (by decide) rfl (fun ls hl => ?_)
      refine lv_aload_n hx hb d_Rd_takeCode_54 rfl (lv_at hl 4 rfl) ?_
      refine lv_bipush (v := 32) hx hb d_Rd_takeCode_55 (by decide) ?_
      refine kc_i (wr := []) (w2 := fun (_ : Unit) => [(d, .inr (3, [.ref r, .int (nI (rNx (tTake L 32 (tTake L 128 (tTake L 128 q).2).2).2)), .int (nI (rAn (tTake L 32 (tTake L 128 (tTake L 128 q).2).2).2)), .int (rFt (tTake L 32 (tTake L 128 (tTake L 128 q).2).2).2), .int (rPl (tTake L 32 (tTake L 128 (tTake L 128 q).2).2).2)])), (r, .inr (2, [.ref b, .int (nI L.length)])), (b, .inl (cB, cap, .inl f))]) (va_runV (As := [.int 32]) (rest := []) ⟨hx, hb, hml, hown, hts⟩ (c_Rd_take l dC dI cI cB cZ _ d r (tTake L 128 (tTake L 128 q).2).2 b cap f L 32 (by first | with_reducible assumption | omega | decide) (tTake_nx _ (tTake_nx _ hq hL) hL)) (cwV 1 hts (gV mw292 mw294 mw4 mw29 mw295) rfl rfl rfl (by decide +kernel) ⟨Nat.le_of_ble_eq_true rfl, Nat.le_of_ble_eq_true rfl⟩) (kpV (wc := [(d, .inr (3, [.ref r, .int (nI (rNx (tTake L 128 (tTake L 128 q).2).2)), .int (nI (rAn (tTake L 128 (tTake L 128 q).2).2)), .int (rFt (tTake L 128 (tTake L 128 q).2).2), .int (rPl (tTake L 128 (tTake L 128 q).2).2)])), (r, .inr (2, [.ref b, .int (nI L.length)])), (b, .inl (cB, cap, .inl f))]) (q0 := 0) (ci := 3) hK hP hD [0, 1, 2] rfl (by decide) rfl rfl rfl) rfl rfl hl.1 rfl (lv_room (Nat.le_of_ble_eq_true rfl)) d_Rd_takeCode_57 ⟨Nat.le_of_ble_eq_true rfl, Nat.le_of_ble_eq_true rfl⟩) hP hD hS hA [0, 1, 2] [] [0, 1, 2] rfl rfl (by decide) (by decide) (fun _ => rfl) (by decide) (fun _ => rfl) (fun r_57 u9 H locs hw hP hD hS => ?_)
      have hP : va_P (dC, dI) classes [(d, .inr (3, [.ref r, .int (nI (rNx (tTake L 32 (tTake L 128 (tTake L 128 q).2).2).2)), .int (nI (rAn (tTake L 32 (tTake L 128 (tTake L 128 q).2).2).2)), .int (rFt (tTake L 32 (tTake L 128 (tTake L 128 q).2).2).2), .int (rPl (tTake L 32 (tTake L 128 (tTake L 128 q).2).2).2)])), (r, .inr (2, [.ref b, .int (nI L.length)])), (b, .inl (cB, cap, .inl f))] H := hP
      have hD : va_D A [(d, .inr (3, [.ref r, .int (nI (rNx (tTake L 32 (tTake L 128 (tTake L 128 q).2).2).2)), .int (nI (rAn (tTake L 32 (tTake L 128 (tTake L 128 q).2).2).2)), .int (rFt (tTake L 32 (tTake L 128 (tTake L 128 q).2).2).2), .int (rPl (tTake L 32 (tTake L 128 (tTake L 128 q).2).2).2)])), (r, .inr (2, [.ref b, .int (nI L.length)])), (b, .inl (cB, cap, .inl f))] := hD
      have e_57 := hw
      refine kt_i e_57 ?_
      refine lv_istore (lv' := [(6, .int (tTake L 32 (tTake L 128 (tTake L 128 q).2).2).1), (5, .int (nI (rNx (tTake L 128 (tTake L 128 q).2).2))), (4, .int (tTake L 128 (tTake L 128 q).2).1), (3, .int (tTake L 128 q).1), (2, .int u2), (0, .ref d), (1, .int fi)]) hx hb d_Rd_takeCode_60 hl (by decide) rfl (fun ls hl => ?_)
      refine lv_iload hx hb d_Rd_takeCode_62 (lv_at hl 2 rfl) ?_
      refine lv_bipush (v := 64) hx hb d_Rd_takeCode_64 (by decide) ?_
      refine lv_icmp_ne (tgt := 83) hx hb d_Rd_takeCode_66 (by decide) (fun c_66 => ?_) (fun c_66 => ?_)
      · exact J_83 u2 (tTake L 32 (tTake L 128 (tTake L 128 q).2).2).2 (by first | with_reducible assumption | omega) (c_26) ((tCode_g c_26 (fun z => c_66 z.1)).symm) _ _ (hP.sub [0, 1, 2] (rfl)) (hD.sub [0, 1, 2] (by decide) (rfl)) hS ls (lv_sub hl [5, 6, 4, 3, 2, 0] rfl)
      · refine lv_iload hx hb d_Rd_takeCode_69 (lv_at hl 0 rfl) ?_
        refine lv_bipush (v := 16) hx hb d_Rd_takeCode_71 (by decide) ?_
        refine lv_icmp_ne (tgt := 83) hx hb d_Rd_takeCode_73 (by decide) (fun c_73 => ?_) (fun c_73 => ?_)
        · exact J_83 u2 (tTake L 32 (tTake L 128 (tTake L 128 q).2).2).2 (by first | with_reducible assumption | omega) (c_26) ((tCode_g c_26 (fun z => c_73 z.2)).symm) _ _ (hP.sub [0, 1, 2] (rfl)) (hD.sub [0, 1, 2] (by decide) (rfl)) hS ls (lv_sub hl [5, 6, 4, 3, 2, 0] rfl)
        · refine lv_aload_n hx hb d_Rd_takeCode_76 rfl (lv_at hl 5 rfl) ?_
          refine lv_iconst (v := 3) hx hb d_Rd_takeCode_77 (by decide) ?_
          refine lv_iload hx hb d_Rd_takeCode_78 (lv_at hl 1 rfl) ?_
          refine kc_v (wr := [(r, .inr (2, [.ref b, .int (nI L.length)])), (b, .inl (cB, cap, .inl f))]) (w2 := fun (_ : Unit) => [(d, .inr (3, [.ref r, .int (nI (rNx (rFail 3 (nI (rNx (tTake L 128 (tTake L 128 q).2).2)) (tTake L 32 (tTake L 128 (tTake L 128 q).2).2).2))), .int (nI (rAn (rFail 3 (nI (rNx (tTake L 128 (tTake L 128 q).2).2)) (tTake L 32 (tTake L 128 (tTake L 128 q).2).2).2))), .int (rFt (rFail 3 (nI (rNx (tTake L 128 (tTake L 128 q).2).2)) (tTake L 32 (tTake L 128 (tTake L 128 q).2).2).2)), .int (rPl (rFail 3 (nI (rNx (tTake L 128 (tTake L 128 q).2).2)) (tTake L 32 (tTake L 128 (tTake L 128 q).2).2).2))])), (r, .inr (2, [.ref b, .int (nI L.length)])), (b, .inl (cB, cap, .inl f))]) (va_runV (As := [.int 3, .int (nI (rNx (tTake L 128 (tTake L 128 q).2).2))]) (rest := []) ⟨hx, hb, hml, hown, hts⟩ (c_Rd_fail l dC dI cI cB cZ _ d r (tTake L 32 (tTake L 128 (tTake L 128 q).2).2).2 3 (nI (rNx (tTake L 128 (tTake L 128 q).2).2)) ) (cwV 2 hts (gV mw297 mw299 mw5 mw29 mw300) rfl rfl rfl (by decide +kernel) ⟨Nat.le_of_ble_eq_true rfl, Nat.le_of_ble_eq_true rfl⟩) (kpV (wc := [(d, .inr (3, [.ref r, .int (nI (rNx (tTake L 32 (tTake L 128 (tTake L 128 q).2).2).2)), .int (nI (rAn (tTake L 32 (tTake L 128 (tTake L 128 q).2).2).2)), .int (rFt (tTake L 32 (tTake L 128 (tTake L 128 q).2).2).2), .int (rPl (tTake L 32 (tTake L 128 (tTake L 128 q).2).2).2)]))]) (q0 := 0) (ci := 3) hK hP hD [0] rfl (by decide) rfl rfl rfl) rfl rfl hl.1 rfl (lv_room (Nat.le_of_ble_eq_true rfl)) d_Rd_takeCode_80 ⟨Nat.le_of_ble_eq_true rfl, Nat.le_of_ble_eq_true rfl⟩) hP hD hS hA [0] [1, 2] [2, 0, 1] rfl rfl (by decide) (by decide) (fun _ => rfl) (by decide) (fun _ => rfl) (fun u9 H locs hw hP hD hS => ?_)
          have hP : va_P (dC, dI) classes [(d, .inr (3, [.ref r, .int (nI (rNx (rFail 3 (nI (rNx (tTake L 128 (tTake L 128 q).2).2)) (tTake L 32 (tTake L 128 (tTake L 128 q).2).2).2))), .int (nI (rAn (rFail 3 (nI (rNx (tTake L 128 (tTake L 128 q).2).2)) (tTake L 32 (tTake L 128 (tTake L 128 q).2).2).2))), .int (rFt (rFail 3 (nI (rNx (tTake L 128 (tTake L 128 q).2).2)) (tTake L 32 (tTake L 128 (tTake L 128 q).2).2).2)), .int (rPl (rFail 3 (nI (rNx (tTake L 128 (tTake L 128 q).2).2)) (tTake L 32 (tTake L 128 (tTake L 128 q).2).2).2))])), (r, .inr (2, [.ref b, .int (nI L.length)])), (b, .inl (cB, cap, .inl f))] H := hP
          have hD : va_D A [(d, .inr (3, [.ref r, .int (nI (rNx (rFail 3 (nI (rNx (tTake L 128 (tTake L 128 q).2).2)) (tTake L 32 (tTake L 128 (tTake L 128 q).2).2).2))), .int (nI (rAn (rFail 3 (nI (rNx (tTake L 128 (tTake L 128 q).2).2)) (tTake L 32 (tTake L 128 (tTake L 128 q).2).2).2))), .int (rFt (rFail 3 (nI (rNx (tTake L 128 (tTake L 128 q).2).2)) (tTake L 32 (tTake L 128 (tTake L 128 q).2).2).2)), .int (rPl (rFail 3 (nI (rNx (tTake L 128 (tTake L 128 q).2).2)) (tTake L 32 (tTake L 128 (tTake L 128 q).2).2).2))])), (r, .inr (2, [.ref b, .int (nI L.length)])), (b, .inl (cB, cap, .inl f))] := hD
          exact J_83 u2 (rFail 3 (nI (rNx (tTake L 128 (tTake L 128 q).2).2)) (tTake L 32 (tTake L 128 (tTake L 128 q).2).2).2) (by first | with_reducible assumption | omega) (c_26) ((tCode_f c_26 ⟨c_66, c_73⟩).symm) _ _ (hP.sub [0, 1, 2] (rfl)) (hD.sub [0, 1, 2] (by decide) (rfl)) hS ls (lv_sub hl [5, 6, 4, 3, 2, 0] rfl)
    · refine lv_iload_n hx hb d_Rd_takeCode_29 rfl (lv_at hl 1 rfl) ?_
      refine lv_iload_n hx hb d_Rd_takeCode_30 rfl (lv_at hl 0 rfl) ?_
      refine lv_bipush (v := 64) hx hb d_Rd_takeCode_31 (by decide) ?_
      refine lv_bipush (v := 16) hx hb d_Rd_takeCode_33 (by decide) ?_
      refine kq_i (wr := [(d, .inr (3, [.ref r, .int (nI (rNx (tTake L 128 q).2)), .int (nI (rAn (tTake L 128 q).2)), .int (rFt (tTake L 128 q).2), .int (rPl (tTake L 128 q).2)])), (r, .inr (2, [.ref b, .int (nI L.length)])), (b, .inl (cB, cap, .inl f))]) (va_runS (As := [.int u2, .int (tTake L 128 q).1, .int 64, .int 16]) (rest := []) ⟨hx, hb, hml, hown, hts⟩ (c_Code_of l dC dI cI cB cZ _ u2 (tTake L 128 q).1 64 16 ) (va_cwS 4 hts (gS mw324 mw142 mw31 mw143) rfl rfl rfl (by decide +kernel) ⟨Nat.le_of_ble_eq_true rfl, Nat.le_of_ble_eq_true rfl⟩) (kpS (wc := []) hK hP hD [] rfl (by decide) rfl) rfl rfl hl.1 rfl (lv_room (Nat.le_of_ble_eq_true rfl)) d_Rd_takeCode_35 ⟨Nat.le_of_ble_eq_true rfl, Nat.le_of_ble_eq_true rfl⟩) hP hD hS hA [] [0, 1, 2] [0, 1, 2] rfl rfl (by decide) (by decide) rfl (fun r_35 H locs hw hP hS => ?_)
      have e_35 := hw
      refine kt_i e_35 ?_
      exact kr_i (v := kCode u2 (tTake L 128 q).1 64 16) () hx hb hr rfl hK (hP.sub [0, 1, 2] (by rw [tCode_s c_26]; first | done | rfl)) (hD.sub [0, 1, 2] (by decide) (by rw [tCode_s c_26]; first | done | rfl)) hS (by rw [hu, tCode_s c_26]) d_Rd_takeCode_38 hlocks
  refine lv_iload_n hx hb d_Rd_takeCode_0 rfl (lv_at hl 1 rfl) ?_
  refine lv_bipush (v := 64) hx hb d_Rd_takeCode_1 (by decide) ?_
  refine lv_iand hx hb d_Rd_takeCode_3 ?_
  refine lv_if_eq (tgt := 11) hx hb d_Rd_takeCode_4 (by decide) (fun c_4 => ?_) (fun c_4 => ?_)
  · refine lv_iconst (v := 0) hx hb d_Rd_takeCode_11 (by decide) ?_
    exact J_12 0 ((if_pos c_4).symm) _ _ (hP.sub [0, 1, 2] (rfl)) (hD.sub [0, 1, 2] (by decide) (rfl)) hS ls (lv_sub hl [0, 1] rfl)
  · refine lv_iconst (v := 1) hx hb d_Rd_takeCode_7 (by decide) ?_
    refine lv_goto (tgt := 12) hx hb d_Rd_takeCode_8 (by decide) ?_
    exact J_12 1 ((if_neg c_4).symm) _ _ (hP.sub [0, 1, 2] (rfl)) (hD.sub [0, 1, 2] (by decide) (rfl)) hS ls (lv_sub hl [0, 1] rfl)
abbrev Qc_Rd_takeMark (dC : Nat → ClassId) (dI : Nat → Nat → Nat) (cI cB cZ : ClassId) (tM : Nat) (d : Nat) (r : Nat) (q : RS) (b : Nat) (cap : Nat) (f : Nat → Int32) (L : List Nat) (A : Nat → Prop) := va_Qv (fun (_ : Unit) => True) (ka (dC, dI) classes [(cI, .int), (cB, .byte), (cZ, .boolean)] (fun (_ : Unit) => [(d, .inr (3, [.ref r, .int (nI (rNx (tMark L q))), .int (nI (rAn (tMark L q))), .int (rFt (tMark L q)), .int (rPl (tMark L q))])), (r, .inr (2, [.ref b, .int (nI L.length)])), (b, .inl (cB, cap, .inl f))]) A) A
set_option maxHeartbeats 1000000 in
set_option maxRecDepth 100000 in
/-- Reader.takeMark -/
theorem c_Rd_takeMark (l : Launch) (dC : Nat → ClassId) (dI : Nat → Nat → Nat) (cI cB cZ : ClassId) (sz : Nat) (tM : Nat) (d : Nat) (r : Nat) (q : RS) (b : Nat) (cap : Nat) (f : Nat → Int32) (L : List Nat) (hB : BRow cap f L) (hq : rNx q ≤ L.length) : Met l y_Rd_takeMark w_Rd_takeMark ({ frames := 3, cells := 0, slots := 0, locals := 67 }) (va_Pc [.ref d] (kps (dC, dI) classes [(cI, .int), (cB, .byte), (cZ, .boolean)] [(d, .inr (3, [.ref r, .int (nI (rNx q)), .int (nI (rAn q)), .int (rFt q), .int (rPl q)])), (r, .inr (2, [.ref b, .int (nI L.length)])), (b, .inl (cB, cap, .inl f))] sz tM)) (Qc_Rd_takeMark dC dI cI cB cZ tM d r q b cap f L (va_A [(d, .inr (3, [.ref r, .int (nI (rNx q)), .int (nI (rAn q)), .int (rFt q), .int (rPl q)])), (r, .inr (2, [.ref b, .int (nI L.length)])), (b, .inl (cB, cap, .inl f))] sz)) 0 0 (va_A [(d, .inr (3, [.ref r, .int (nI (rNx q)), .int (nI (rAn q)), .int (rFt q), .int (rPl q)])), (r, .inr (2, [.ref b, .int (nI L.length)])), (b, .inl (cB, cap, .inl f))] sz) := by
  refine Met.ofW (cc := prog_4_method_8_code) (maxL := 2) (ret := none) (by decide) rfl ?_
  intro p e s m args below meth c s₁ B hml hv
  obtain ⟨rfl, ⟨hsz, hP, hK, hD0⟩, hMk⟩ := hv
  have hx := B.exec
  have hb := B.bytes
  have hr := B.returns
  have hts := fun w h => atoms_spec (ws := w_Rd_takeMark) B.pre w (List.mem_cons_of_mem _ h)
  have hown : s.vm.findClass "DemoTape$Reader" = some m.cls := findClass_of_methodNamed B.named
  have hlocks := B.notSynchronized
  subst hsz
  have hD := hD0.self (sz := s.heap.size)
  generalize hAe : va_A ([(d, .inr (3, [.ref r, .int (nI (rNx q)), .int (nI (rAn q)), .int (rFt q), .int (rPl q)])), (r, .inr (2, [.ref b, .int (nI L.length)])), (b, .inl (cB, cap, .inl f))] : va_W) s.heap.size = A at hD hMk ⊢
  have hA : ∀ q : Nat, s.heap.size ≤ q → A q := fun q h => by rw [← hAe]; exact Or.inr h
  have hS : va_S A s.heap s.heap [] := va_S.rf
  have hP : va_P (dC, dI) classes [(d, .inr (3, [.ref r, .int (nI (rNx q)), .int (nI (rAn q)), .int (rFt q), .int (rPl q)])), (r, .inr (2, [.ref b, .int (nI L.length)])), (b, .inl (cB, cap, .inl f))] s.heap := hP
  have hL : L.length ≤ 8192 := Nat.le_trans hB.2.2.1 hB.2.2.2
  have hl := lv_entry ([.ref d]) (n := 2) (Nat.le_of_ble_eq_true rfl)
  rw [lg_entry_eq]
  generalize (lg_sl ([.ref d]) ++ List.replicate (2 - (lg_sl ([.ref d])).length) Slot.unset).toArray = ls at hl ⊢
  have hl : lv_has ls 2 [(0, .ref d)] := hl
  refine lv_iconst (v := 0) hx hb d_Rd_takeMark_0 (by decide) ?_
  refine lv_istore_n (lv' := [(1, .int 0), (0, .ref d)]) hx hb d_Rd_takeMark_1 rfl hl (by decide) rfl (fun ls hl => ?_)
  refine lv_iload_n hx hb d_Rd_takeMark_2 rfl (lv_at hl 0 rfl) ?_
  refine va_getsN (C := "DemoTape") (n := "MARK") (d := "[I") (ref := "DemoTape") (host := "DemoTape") hx hb hMk.1 hS hown (hMk.2.2.2.1.use rfl) (fun _ h9 => h9) d_Rd_takeMark_3 ?_
  refine va_tlen (v := 3) hx hb hMk.2.1 hS rfl d_Rd_takeMark_6 ?_
  refine lv_icmp_ge (tgt := 26) hx hb d_Rd_takeMark_7 (by decide) (fun c_7 => ?_) (fun c_7 => ?_)
  · exact absurd c_7 (by decide)
  · refine lv_aload_n hx hb d_Rd_takeMark_10 rfl (lv_at hl 1 rfl) ?_
    refine va_getsN (C := "DemoTape") (n := "MARK") (d := "[I") (ref := "DemoTape") (host := "DemoTape") hx hb hMk.1 hS hown (hMk.2.2.2.1.use rfl) (fun _ h9 => h9) d_Rd_takeMark_11 ?_
    refine lv_iload_n hx hb d_Rd_takeMark_14 rfl (lv_at hl 0 rfl) ?_
    refine va_ti (v := .int 77) (i := 0) hx hb hMk.2.1 hS (vp_in_nI (n := 0) (N := 3) (by decide) (by decide)) rfl d_Rd_takeMark_15 ?_
    refine lv_iconst (v := 2) hx hb d_Rd_takeMark_16 (by decide) ?_
    refine kc_v (wr := []) (w2 := fun (_ : Unit) => [(d, .inr (3, [.ref r, .int (nI (rNx (tOnly L 77 2 q))), .int (nI (rAn (tOnly L 77 2 q))), .int (rFt (tOnly L 77 2 q)), .int (rPl (tOnly L 77 2 q))])), (r, .inr (2, [.ref b, .int (nI L.length)])), (b, .inl (cB, cap, .inl f))]) (va_runV (As := [.int 77, .int 2]) (rest := []) ⟨hx, hb, hml, hown, hts⟩ (c_Rd_takeOnly l dC dI cI cB cZ _ d r q b cap f L 77 2 (by first | with_reducible assumption | omega | decide) (hq)) (cwV 2 hts (gV mw288 mw290 mw3 mw29 mw291) rfl rfl rfl (by decide +kernel) ⟨Nat.le_of_ble_eq_true rfl, Nat.le_of_ble_eq_true rfl⟩) (kpV (wc := [(d, .inr (3, [.ref r, .int (nI (rNx q)), .int (nI (rAn q)), .int (rFt q), .int (rPl q)])), (r, .inr (2, [.ref b, .int (nI L.length)])), (b, .inl (cB, cap, .inl f))]) (q0 := 0) (ci := 3) hK hP hD [0, 1, 2] rfl (by decide) rfl rfl rfl) rfl rfl hl.1 rfl (lv_room (Nat.le_of_ble_eq_true rfl)) d_Rd_takeMark_17 ⟨Nat.le_of_ble_eq_true rfl, Nat.le_of_ble_eq_true rfl⟩) hP hD hS hA [0, 1, 2] [] [0, 1, 2] rfl rfl (by decide) (by decide) (fun _ => rfl) (by decide) (fun _ => rfl) (fun u9 H locs hw hP hD hS => ?_)
    have hP : va_P (dC, dI) classes [(d, .inr (3, [.ref r, .int (nI (rNx (tOnly L 77 2 q))), .int (nI (rAn (tOnly L 77 2 q))), .int (rFt (tOnly L 77 2 q)), .int (rPl (tOnly L 77 2 q))])), (r, .inr (2, [.ref b, .int (nI L.length)])), (b, .inl (cB, cap, .inl f))] H := hP
    have hD : va_D A [(d, .inr (3, [.ref r, .int (nI (rNx (tOnly L 77 2 q))), .int (nI (rAn (tOnly L 77 2 q))), .int (rFt (tOnly L 77 2 q)), .int (rPl (tOnly L 77 2 q))])), (r, .inr (2, [.ref b, .int (nI L.length)])), (b, .inl (cB, cap, .inl f))] := hD
    refine lv_iinc (v := 1) (lv' := [(1, .int 1), (0, .ref d)]) hx hb d_Rd_takeMark_20 hl (k := 0) rfl (by decide) (by decide) rfl (fun ls hl => ?_)
    refine lv_goto (tgt := 2) hx hb d_Rd_takeMark_23 (by decide) ?_
    refine lv_iload_n hx hb d_Rd_takeMark_2 rfl (lv_at hl 0 rfl) ?_
    refine va_getsN (C := "DemoTape") (n := "MARK") (d := "[I") (ref := "DemoTape") (host := "DemoTape") hx hb hMk.1 hS hown (hMk.2.2.2.1.use rfl) (fun _ h9 => h9) d_Rd_takeMark_3 ?_
    refine va_tlen (v := 3) hx hb hMk.2.1 hS rfl d_Rd_takeMark_6 ?_
    refine lv_icmp_ge (tgt := 26) hx hb d_Rd_takeMark_7 (by decide) (fun c_7 => ?_) (fun c_7 => ?_)
    · exact absurd c_7 (by decide)
    · refine lv_aload_n hx hb d_Rd_takeMark_10 rfl (lv_at hl 1 rfl) ?_
      refine va_getsN (C := "DemoTape") (n := "MARK") (d := "[I") (ref := "DemoTape") (host := "DemoTape") hx hb hMk.1 hS hown (hMk.2.2.2.1.use rfl) (fun _ h9 => h9) d_Rd_takeMark_11 ?_
      refine lv_iload_n hx hb d_Rd_takeMark_14 rfl (lv_at hl 0 rfl) ?_
      refine va_ti (v := .int 68) (i := 1) hx hb hMk.2.1 hS (vp_in_nI (n := 1) (N := 3) (by decide) (by decide)) rfl d_Rd_takeMark_15 ?_
      refine lv_iconst (v := 2) hx hb d_Rd_takeMark_16 (by decide) ?_
      refine kc_v (wr := []) (w2 := fun (_ : Unit) => [(d, .inr (3, [.ref r, .int (nI (rNx (tOnly L 68 2 (tOnly L 77 2 q)))), .int (nI (rAn (tOnly L 68 2 (tOnly L 77 2 q)))), .int (rFt (tOnly L 68 2 (tOnly L 77 2 q))), .int (rPl (tOnly L 68 2 (tOnly L 77 2 q)))])), (r, .inr (2, [.ref b, .int (nI L.length)])), (b, .inl (cB, cap, .inl f))]) (va_runV (As := [.int 68, .int 2]) (rest := []) ⟨hx, hb, hml, hown, hts⟩ (c_Rd_takeOnly l dC dI cI cB cZ _ d r (tOnly L 77 2 q) b cap f L 68 2 (by first | with_reducible assumption | omega | decide) (tOnly_nx _ _ (hq) hL)) (cwV 2 hts (gV mw288 mw290 mw3 mw29 mw291) rfl rfl rfl (by decide +kernel) ⟨Nat.le_of_ble_eq_true rfl, Nat.le_of_ble_eq_true rfl⟩) (kpV (wc := [(d, .inr (3, [.ref r, .int (nI (rNx (tOnly L 77 2 q))), .int (nI (rAn (tOnly L 77 2 q))), .int (rFt (tOnly L 77 2 q)), .int (rPl (tOnly L 77 2 q))])), (r, .inr (2, [.ref b, .int (nI L.length)])), (b, .inl (cB, cap, .inl f))]) (q0 := 0) (ci := 3) hK hP hD [0, 1, 2] rfl (by decide) rfl rfl rfl) rfl rfl hl.1 rfl (lv_room (Nat.le_of_ble_eq_true rfl)) d_Rd_takeMark_17 ⟨Nat.le_of_ble_eq_true rfl, Nat.le_of_ble_eq_true rfl⟩) hP hD hS hA [0, 1, 2] [] [0, 1, 2] rfl rfl (by decide) (by decide) (fun _ => rfl) (by decide) (fun _ => rfl) (fun u9 H locs hw hP hD hS => ?_)
      have hP : va_P (dC, dI) classes [(d, .inr (3, [.ref r, .int (nI (rNx (tOnly L 68 2 (tOnly L 77 2 q)))), .int (nI (rAn (tOnly L 68 2 (tOnly L 77 2 q)))), .int (rFt (tOnly L 68 2 (tOnly L 77 2 q))), .int (rPl (tOnly L 68 2 (tOnly L 77 2 q)))])), (r, .inr (2, [.ref b, .int (nI L.length)])), (b, .inl (cB, cap, .inl f))] H := hP
      have hD : va_D A [(d, .inr (3, [.ref r, .int (nI (rNx (tOnly L 68 2 (tOnly L 77 2 q)))), .int (nI (rAn (tOnly L 68 2 (tOnly L 77 2 q)))), .int (rFt (tOnly L 68 2 (tOnly L 77 2 q))), .int (rPl (tOnly L 68 2 (tOnly L 77 2 q)))])), (r, .inr (2, [.ref b, .int (nI L.length)])), (b, .inl (cB, cap, .inl f))] := hD
      refine lv_iinc (v := 2) (lv' := [(1, .int 2), (0, .ref d)]) hx hb d_Rd_takeMark_20 hl (k := 0) rfl (by decide) (by decide) rfl (fun ls hl => ?_)
      refine lv_goto (tgt := 2) hx hb d_Rd_takeMark_23 (by decide) ?_
      refine lv_iload_n hx hb d_Rd_takeMark_2 rfl (lv_at hl 0 rfl) ?_
      refine va_getsN (C := "DemoTape") (n := "MARK") (d := "[I") (ref := "DemoTape") (host := "DemoTape") hx hb hMk.1 hS hown (hMk.2.2.2.1.use rfl) (fun _ h9 => h9) d_Rd_takeMark_3 ?_
      refine va_tlen (v := 3) hx hb hMk.2.1 hS rfl d_Rd_takeMark_6 ?_
      refine lv_icmp_ge (tgt := 26) hx hb d_Rd_takeMark_7 (by decide) (fun c_7 => ?_) (fun c_7 => ?_)
      · exact absurd c_7 (by decide)
      · refine lv_aload_n hx hb d_Rd_takeMark_10 rfl (lv_at hl 1 rfl) ?_
        refine va_getsN (C := "DemoTape") (n := "MARK") (d := "[I") (ref := "DemoTape") (host := "DemoTape") hx hb hMk.1 hS hown (hMk.2.2.2.1.use rfl) (fun _ h9 => h9) d_Rd_takeMark_11 ?_
        refine lv_iload_n hx hb d_Rd_takeMark_14 rfl (lv_at hl 0 rfl) ?_
        refine va_ti (v := .int 1) (i := 2) hx hb hMk.2.1 hS (vp_in_nI (n := 2) (N := 3) (by decide) (by decide)) rfl d_Rd_takeMark_15 ?_
        refine lv_iconst (v := 2) hx hb d_Rd_takeMark_16 (by decide) ?_
        refine kc_v (wr := []) (w2 := fun (_ : Unit) => [(d, .inr (3, [.ref r, .int (nI (rNx (tOnly L 1 2 (tOnly L 68 2 (tOnly L 77 2 q))))), .int (nI (rAn (tOnly L 1 2 (tOnly L 68 2 (tOnly L 77 2 q))))), .int (rFt (tOnly L 1 2 (tOnly L 68 2 (tOnly L 77 2 q)))), .int (rPl (tOnly L 1 2 (tOnly L 68 2 (tOnly L 77 2 q))))])), (r, .inr (2, [.ref b, .int (nI L.length)])), (b, .inl (cB, cap, .inl f))]) (va_runV (As := [.int 1, .int 2]) (rest := []) ⟨hx, hb, hml, hown, hts⟩ (c_Rd_takeOnly l dC dI cI cB cZ _ d r (tOnly L 68 2 (tOnly L 77 2 q)) b cap f L 1 2 (by first | with_reducible assumption | omega | decide) (tOnly_nx _ _ (tOnly_nx _ _ (hq) hL) hL)) (cwV 2 hts (gV mw288 mw290 mw3 mw29 mw291) rfl rfl rfl (by decide +kernel) ⟨Nat.le_of_ble_eq_true rfl, Nat.le_of_ble_eq_true rfl⟩) (kpV (wc := [(d, .inr (3, [.ref r, .int (nI (rNx (tOnly L 68 2 (tOnly L 77 2 q)))), .int (nI (rAn (tOnly L 68 2 (tOnly L 77 2 q)))), .int (rFt (tOnly L 68 2 (tOnly L 77 2 q))), .int (rPl (tOnly L 68 2 (tOnly L 77 2 q)))])), (r, .inr (2, [.ref b, .int (nI L.length)])), (b, .inl (cB, cap, .inl f))]) (q0 := 0) (ci := 3) hK hP hD [0, 1, 2] rfl (by decide) rfl rfl rfl) rfl rfl hl.1 rfl (lv_room (Nat.le_of_ble_eq_true rfl)) d_Rd_takeMark_17 ⟨Nat.le_of_ble_eq_true rfl, Nat.le_of_ble_eq_true rfl⟩) hP hD hS hA [0, 1, 2] [] [0, 1, 2] rfl rfl (by decide) (by decide) (fun _ => rfl) (by decide) (fun _ => rfl) (fun u9 H locs hw hP hD hS => ?_)
        have hP : va_P (dC, dI) classes [(d, .inr (3, [.ref r, .int (nI (rNx (tOnly L 1 2 (tOnly L 68 2 (tOnly L 77 2 q))))), .int (nI (rAn (tOnly L 1 2 (tOnly L 68 2 (tOnly L 77 2 q))))), .int (rFt (tOnly L 1 2 (tOnly L 68 2 (tOnly L 77 2 q)))), .int (rPl (tOnly L 1 2 (tOnly L 68 2 (tOnly L 77 2 q))))])), (r, .inr (2, [.ref b, .int (nI L.length)])), (b, .inl (cB, cap, .inl f))] H := hP
        have hD : va_D A [(d, .inr (3, [.ref r, .int (nI (rNx (tOnly L 1 2 (tOnly L 68 2 (tOnly L 77 2 q))))), .int (nI (rAn (tOnly L 1 2 (tOnly L 68 2 (tOnly L 77 2 q))))), .int (rFt (tOnly L 1 2 (tOnly L 68 2 (tOnly L 77 2 q)))), .int (rPl (tOnly L 1 2 (tOnly L 68 2 (tOnly L 77 2 q))))])), (r, .inr (2, [.ref b, .int (nI L.length)])), (b, .inl (cB, cap, .inl f))] := hD
        refine lv_iinc (v := 3) (lv' := [(1, .int 3), (0, .ref d)]) hx hb d_Rd_takeMark_20 hl (k := 0) rfl (by decide) (by decide) rfl (fun ls hl => ?_)
        refine lv_goto (tgt := 2) hx hb d_Rd_takeMark_23 (by decide) ?_
        refine lv_iload_n hx hb d_Rd_takeMark_2 rfl (lv_at hl 0 rfl) ?_
        refine va_getsN (C := "DemoTape") (n := "MARK") (d := "[I") (ref := "DemoTape") (host := "DemoTape") hx hb hMk.1 hS hown (hMk.2.2.2.1.use rfl) (fun _ h9 => h9) d_Rd_takeMark_3 ?_
        refine va_tlen (v := 3) hx hb hMk.2.1 hS rfl d_Rd_takeMark_6 ?_
        refine lv_icmp_ge (tgt := 26) hx hb d_Rd_takeMark_7 (by decide) (fun c_7 => ?_) (fun c_7 => ?_)
        · exact kr_v () hx hb hr hK (hP.sub [0, 1, 2] (rfl)) (hD.sub [0, 1, 2] (by decide) (rfl)) hS trivial d_Rd_takeMark_26 hlocks
        · exact absurd (by decide) c_7
abbrev Qc_Rd_takeCheck (dC : Nat → ClassId) (dI : Nat → Nat → Nat) (cI cB cZ : ClassId) (d : Nat) (r : Nat) (q : RS) (b : Nat) (cap : Nat) (f : Nat → Int32) (L : List Nat) (A : Nat → Prop) := va_Qv (fun (_ : Unit) => True) (ka (dC, dI) classes [(cI, .int), (cB, .byte), (cZ, .boolean)] (fun (_ : Unit) => [(d, .inr (3, [.ref r, .int (nI (rNx (tCheck L q))), .int (nI (rAn (tCheck L q))), .int (rFt (tCheck L q)), .int (rPl (tCheck L q))])), (r, .inr (2, [.ref b, .int (nI L.length)])), (b, .inl (cB, cap, .inl f))]) A) A
set_option maxHeartbeats 1000000 in
set_option maxRecDepth 100000 in
/-- Reader.takeCheck -/
theorem c_Rd_takeCheck (l : Launch) (dC : Nat → ClassId) (dI : Nat → Nat → Nat) (cI cB cZ : ClassId) (sz : Nat) (d : Nat) (r : Nat) (q : RS) (b : Nat) (cap : Nat) (f : Nat → Int32) (L : List Nat) (hB : BRow cap f L) (hq : rNx q ≤ L.length) : Met l y_Rd_takeCheck w_Rd_takeCheck ({ frames := 3, cells := 0, slots := 0, locals := 67 }) (va_Pc [.ref d] (kp (dC, dI) classes [(cI, .int), (cB, .byte), (cZ, .boolean)] [(d, .inr (3, [.ref r, .int (nI (rNx q)), .int (nI (rAn q)), .int (rFt q), .int (rPl q)])), (r, .inr (2, [.ref b, .int (nI L.length)])), (b, .inl (cB, cap, .inl f))] sz)) (Qc_Rd_takeCheck dC dI cI cB cZ d r q b cap f L (va_A [(d, .inr (3, [.ref r, .int (nI (rNx q)), .int (nI (rAn q)), .int (rFt q), .int (rPl q)])), (r, .inr (2, [.ref b, .int (nI L.length)])), (b, .inl (cB, cap, .inl f))] sz)) 0 0 (va_A [(d, .inr (3, [.ref r, .int (nI (rNx q)), .int (nI (rAn q)), .int (rFt q), .int (rPl q)])), (r, .inr (2, [.ref b, .int (nI L.length)])), (b, .inl (cB, cap, .inl f))] sz) := by
  refine Met.ofW (cc := prog_4_method_14_code) (maxL := 3) (ret := none) (by decide) rfl ?_
  intro p e s m args below meth c s₁ B hml hv
  obtain ⟨rfl, hsz, hP, hK, hD0⟩ := hv
  have hx := B.exec
  have hb := B.bytes
  have hr := B.returns
  have hts := fun w h => atoms_spec (ws := w_Rd_takeCheck) B.pre w (List.mem_cons_of_mem _ h)
  have hown : s.vm.findClass "DemoTape$Reader" = some m.cls := findClass_of_methodNamed B.named
  have hlocks := B.notSynchronized
  subst hsz
  have hD := hD0.self (sz := s.heap.size)
  generalize hAe : va_A ([(d, .inr (3, [.ref r, .int (nI (rNx q)), .int (nI (rAn q)), .int (rFt q), .int (rPl q)])), (r, .inr (2, [.ref b, .int (nI L.length)])), (b, .inl (cB, cap, .inl f))] : va_W) s.heap.size = A at hD ⊢
  have hA : ∀ q : Nat, s.heap.size ≤ q → A q := fun q h => by rw [← hAe]; exact Or.inr h
  have hS : va_S A s.heap s.heap [] := va_S.rf
  have hP : va_P (dC, dI) classes [(d, .inr (3, [.ref r, .int (nI (rNx q)), .int (nI (rAn q)), .int (rFt q), .int (rPl q)])), (r, .inr (2, [.ref b, .int (nI L.length)])), (b, .inl (cB, cap, .inl f))] s.heap := hP
  have hL : L.length ≤ 8192 := Nat.le_trans hB.2.2.1 hB.2.2.2
  have hl := lv_entry ([.ref d]) (n := 3) (Nat.le_of_ble_eq_true rfl)
  rw [lg_entry_eq]
  generalize (lg_sl ([.ref d]) ++ List.replicate (3 - (lg_sl ([.ref d])).length) Slot.unset).toArray = ls at hl ⊢
  have hl : lv_has ls 3 [(0, .ref d)] := hl
  refine lv_aload_n hx hb d_Rd_takeCheck_0 rfl (lv_at hl 0 rfl) ?_
  refine va_get (D := (dC, dI)) (ci := 3) (v := .ref r) (C := "DemoTape$Reader") (T := F_Rd) (N := 5) hx hb hts i_Rd hown hK hP 0 rfl rfl 0 (by decide) (hts _ mw90) (fun _ h9 => h9) rfl d_Rd_takeCheck_1 ?_
  refine lv_aload_n hx hb d_Rd_takeCheck_4 rfl (lv_at hl 0 rfl) ?_
  refine va_get (D := (dC, dI)) (ci := 3) (v := .int (nI (rNx q))) (C := "DemoTape$Reader") (T := F_Rd) (N := 5) hx hb hts i_Rd hown hK hP 0 rfl rfl 1 (by decide) (hts _ mw91) (fun _ h9 => h9) rfl d_Rd_takeCheck_5 ?_
  refine kq_i (wr := [(d, .inr (3, [.ref r, .int (nI (rNx q)), .int (nI (rAn q)), .int (rFt q), .int (rPl q)]))]) (va_runV (As := [.int (nI (rNx q))]) (rest := []) ⟨hx, hb, hml, hown, hts⟩ (c_Row_checkOfFirst l dC dI cI cB cZ _ r b cap f L (rNx q) (by first | with_reducible assumption | omega | decide) (hq)) (cwV 1 hts (gV mw332 mw230 mw231 mw27 mw232) rfl rfl rfl (by decide +kernel) ⟨Nat.le_of_ble_eq_true rfl, Nat.le_of_ble_eq_true rfl⟩) (kpV (wc := [(r, .inr (2, [.ref b, .int (nI L.length)])), (b, .inl (cB, cap, .inl f))]) (q0 := 1) (ci := 2) hK hP hD [1, 2] rfl (by decide) rfl rfl rfl) rfl rfl hl.1 rfl (lv_room (Nat.le_of_ble_eq_true rfl)) d_Rd_takeCheck_8 ⟨Nat.le_of_ble_eq_true rfl, Nat.le_of_ble_eq_true rfl⟩) hP hD hS hA [1, 2] [0] [0, 1, 2] rfl rfl (by decide) (by decide) rfl (fun r_8 H locs hw hP hS => ?_)
  have e_8 := hw
  refine kt_i e_8 ?_
  refine lv_istore_n (lv' := [(1, .int (kChk (L.take (rNx q)))), (0, .ref d)]) hx hb d_Rd_takeCheck_11 rfl hl (by decide) rfl (fun ls hl => ?_)
  refine lv_iconst (v := 3) hx hb d_Rd_takeCheck_12 (by decide) ?_
  refine lv_istore_n (lv' := [(2, .int 3), (1, .int (kChk (L.take (rNx q)))), (0, .ref d)]) hx hb d_Rd_takeCheck_13 rfl hl (by decide) rfl (fun ls hl => ?_)
  refine lv_iload_n hx hb d_Rd_takeCheck_14 rfl (lv_at hl 0 rfl) ?_
  refine lv_if_lt (tgt := 40) hx hb d_Rd_takeCheck_15 (by decide) (fun c_15 => ?_) (fun c_15 => ?_)
  · exact absurd c_15 (by decide)
  · refine lv_aload_n hx hb d_Rd_takeCheck_18 rfl (lv_at hl 2 rfl) ?_
    refine lv_iload_n hx hb d_Rd_takeCheck_19 rfl (lv_at hl 1 rfl) ?_
    refine lv_bipush (v := 8) hx hb d_Rd_takeCheck_20 (by decide) ?_
    refine lv_iload_n hx hb d_Rd_takeCheck_22 rfl (lv_at hl 0 rfl) ?_
    refine lv_imul hx hb d_Rd_takeCheck_23 ?_
    refine kt_i (y := nI (8 * 3)) (by decide) ?_
    refine lv_iushr (v := ((kChk (L.take (rNx q))).toUInt32 >>> ((nI (8 * 3)).toUInt32 &&& Int32.toUInt32 31)).toInt32) hx hb d_Rd_takeCheck_24 rfl ?_
    refine lv_sipush (v := 255) hx hb d_Rd_takeCheck_25 (by decide) ?_
    refine lv_iand hx hb d_Rd_takeCheck_28 ?_
    refine kt_i (y := kByteOf (kChk (L.take (rNx q))) 3) (rfl) ?_
    refine lv_bipush (v := 6) hx hb d_Rd_takeCheck_29 (by decide) ?_
    refine kc_v (wr := []) (w2 := fun (_ : Unit) => [(d, .inr (3, [.ref r, .int (nI (rNx (tOnly L (kByteOf (kChk (L.take (rNx q))) 3) 6 q))), .int (nI (rAn (tOnly L (kByteOf (kChk (L.take (rNx q))) 3) 6 q))), .int (rFt (tOnly L (kByteOf (kChk (L.take (rNx q))) 3) 6 q)), .int (rPl (tOnly L (kByteOf (kChk (L.take (rNx q))) 3) 6 q))])), (r, .inr (2, [.ref b, .int (nI L.length)])), (b, .inl (cB, cap, .inl f))]) (va_runV (As := [.int (kByteOf (kChk (L.take (rNx q))) 3), .int 6]) (rest := []) ⟨hx, hb, hml, hown, hts⟩ (c_Rd_takeOnly l dC dI cI cB cZ _ d r q b cap f L (kByteOf (kChk (L.take (rNx q))) 3) 6 (by first | with_reducible assumption | omega | decide) (hq)) (cwV 2 hts (gV mw288 mw290 mw3 mw29 mw291) rfl rfl rfl (by decide +kernel) ⟨Nat.le_of_ble_eq_true rfl, Nat.le_of_ble_eq_true rfl⟩) (kpV (wc := [(d, .inr (3, [.ref r, .int (nI (rNx q)), .int (nI (rAn q)), .int (rFt q), .int (rPl q)])), (r, .inr (2, [.ref b, .int (nI L.length)])), (b, .inl (cB, cap, .inl f))]) (q0 := 0) (ci := 3) hK hP hD [0, 1, 2] rfl (by decide) rfl rfl rfl) rfl rfl hl.1 rfl (lv_room (Nat.le_of_ble_eq_true rfl)) d_Rd_takeCheck_31 ⟨Nat.le_of_ble_eq_true rfl, Nat.le_of_ble_eq_true rfl⟩) hP hD hS hA [0, 1, 2] [] [0, 1, 2] rfl rfl (by decide) (by decide) (fun _ => rfl) (by decide) (fun _ => rfl) (fun u9 H locs hw hP hD hS => ?_)
    have hP : va_P (dC, dI) classes [(d, .inr (3, [.ref r, .int (nI (rNx (tOnly L (kByteOf (kChk (L.take (rNx q))) 3) 6 q))), .int (nI (rAn (tOnly L (kByteOf (kChk (L.take (rNx q))) 3) 6 q))), .int (rFt (tOnly L (kByteOf (kChk (L.take (rNx q))) 3) 6 q)), .int (rPl (tOnly L (kByteOf (kChk (L.take (rNx q))) 3) 6 q))])), (r, .inr (2, [.ref b, .int (nI L.length)])), (b, .inl (cB, cap, .inl f))] H := hP
    have hD : va_D A [(d, .inr (3, [.ref r, .int (nI (rNx (tOnly L (kByteOf (kChk (L.take (rNx q))) 3) 6 q))), .int (nI (rAn (tOnly L (kByteOf (kChk (L.take (rNx q))) 3) 6 q))), .int (rFt (tOnly L (kByteOf (kChk (L.take (rNx q))) 3) 6 q)), .int (rPl (tOnly L (kByteOf (kChk (L.take (rNx q))) 3) 6 q))])), (r, .inr (2, [.ref b, .int (nI L.length)])), (b, .inl (cB, cap, .inl f))] := hD
    refine lv_iinc (v := 2) (lv' := [(2, .int 2), (1, .int (kChk (L.take (rNx q)))), (0, .ref d)]) hx hb d_Rd_takeCheck_34 hl (k := 0) rfl (by decide) (by decide) rfl (fun ls hl => ?_)
    refine lv_goto (tgt := 14) hx hb d_Rd_takeCheck_37 (by decide) ?_
    refine lv_iload_n hx hb d_Rd_takeCheck_14 rfl (lv_at hl 0 rfl) ?_
    refine lv_if_lt (tgt := 40) hx hb d_Rd_takeCheck_15 (by decide) (fun c_15 => ?_) (fun c_15 => ?_)
    · exact absurd c_15 (by decide)
    · refine lv_aload_n hx hb d_Rd_takeCheck_18 rfl (lv_at hl 2 rfl) ?_
      refine lv_iload_n hx hb d_Rd_takeCheck_19 rfl (lv_at hl 1 rfl) ?_
      refine lv_bipush (v := 8) hx hb d_Rd_takeCheck_20 (by decide) ?_
      refine lv_iload_n hx hb d_Rd_takeCheck_22 rfl (lv_at hl 0 rfl) ?_
      refine lv_imul hx hb d_Rd_takeCheck_23 ?_
      refine kt_i (y := nI (8 * 2)) (by decide) ?_
      refine lv_iushr (v := ((kChk (L.take (rNx q))).toUInt32 >>> ((nI (8 * 2)).toUInt32 &&& Int32.toUInt32 31)).toInt32) hx hb d_Rd_takeCheck_24 rfl ?_
      refine lv_sipush (v := 255) hx hb d_Rd_takeCheck_25 (by decide) ?_
      refine lv_iand hx hb d_Rd_takeCheck_28 ?_
      refine kt_i (y := kByteOf (kChk (L.take (rNx q))) 2) (rfl) ?_
      refine lv_bipush (v := 6) hx hb d_Rd_takeCheck_29 (by decide) ?_
      refine kc_v (wr := []) (w2 := fun (_ : Unit) => [(d, .inr (3, [.ref r, .int (nI (rNx (tOnly L (kByteOf (kChk (L.take (rNx q))) 2) 6 (tOnly L (kByteOf (kChk (L.take (rNx q))) 3) 6 q)))), .int (nI (rAn (tOnly L (kByteOf (kChk (L.take (rNx q))) 2) 6 (tOnly L (kByteOf (kChk (L.take (rNx q))) 3) 6 q)))), .int (rFt (tOnly L (kByteOf (kChk (L.take (rNx q))) 2) 6 (tOnly L (kByteOf (kChk (L.take (rNx q))) 3) 6 q))), .int (rPl (tOnly L (kByteOf (kChk (L.take (rNx q))) 2) 6 (tOnly L (kByteOf (kChk (L.take (rNx q))) 3) 6 q)))])), (r, .inr (2, [.ref b, .int (nI L.length)])), (b, .inl (cB, cap, .inl f))]) (va_runV (As := [.int (kByteOf (kChk (L.take (rNx q))) 2), .int 6]) (rest := []) ⟨hx, hb, hml, hown, hts⟩ (c_Rd_takeOnly l dC dI cI cB cZ _ d r (tOnly L (kByteOf (kChk (L.take (rNx q))) 3) 6 q) b cap f L (kByteOf (kChk (L.take (rNx q))) 2) 6 (by first | with_reducible assumption | omega | decide) (tOnly_nx _ _ (hq) hL)) (cwV 2 hts (gV mw288 mw290 mw3 mw29 mw291) rfl rfl rfl (by decide +kernel) ⟨Nat.le_of_ble_eq_true rfl, Nat.le_of_ble_eq_true rfl⟩) (kpV (wc := [(d, .inr (3, [.ref r, .int (nI (rNx (tOnly L (kByteOf (kChk (L.take (rNx q))) 3) 6 q))), .int (nI (rAn (tOnly L (kByteOf (kChk (L.take (rNx q))) 3) 6 q))), .int (rFt (tOnly L (kByteOf (kChk (L.take (rNx q))) 3) 6 q)), .int (rPl (tOnly L (kByteOf (kChk (L.take (rNx q))) 3) 6 q))])), (r, .inr (2, [.ref b, .int (nI L.length)])), (b, .inl (cB, cap, .inl f))]) (q0 := 0) (ci := 3) hK hP hD [0, 1, 2] rfl (by decide) rfl rfl rfl) rfl rfl hl.1 rfl (lv_room (Nat.le_of_ble_eq_true rfl)) d_Rd_takeCheck_31 ⟨Nat.le_of_ble_eq_true rfl, Nat.le_of_ble_eq_true rfl⟩) hP hD hS hA [0, 1, 2] [] [0, 1, 2] rfl rfl (by decide) (by decide) (fun _ => rfl) (by decide) (fun _ => rfl) (fun u9 H locs hw hP hD hS => ?_)
      have hP : va_P (dC, dI) classes [(d, .inr (3, [.ref r, .int (nI (rNx (tOnly L (kByteOf (kChk (L.take (rNx q))) 2) 6 (tOnly L (kByteOf (kChk (L.take (rNx q))) 3) 6 q)))), .int (nI (rAn (tOnly L (kByteOf (kChk (L.take (rNx q))) 2) 6 (tOnly L (kByteOf (kChk (L.take (rNx q))) 3) 6 q)))), .int (rFt (tOnly L (kByteOf (kChk (L.take (rNx q))) 2) 6 (tOnly L (kByteOf (kChk (L.take (rNx q))) 3) 6 q))), .int (rPl (tOnly L (kByteOf (kChk (L.take (rNx q))) 2) 6 (tOnly L (kByteOf (kChk (L.take (rNx q))) 3) 6 q)))])), (r, .inr (2, [.ref b, .int (nI L.length)])), (b, .inl (cB, cap, .inl f))] H := hP
      have hD : va_D A [(d, .inr (3, [.ref r, .int (nI (rNx (tOnly L (kByteOf (kChk (L.take (rNx q))) 2) 6 (tOnly L (kByteOf (kChk (L.take (rNx q))) 3) 6 q)))), .int (nI (rAn (tOnly L (kByteOf (kChk (L.take (rNx q))) 2) 6 (tOnly L (kByteOf (kChk (L.take (rNx q))) 3) 6 q)))), .int (rFt (tOnly L (kByteOf (kChk (L.take (rNx q))) 2) 6 (tOnly L (kByteOf (kChk (L.take (rNx q))) 3) 6 q))), .int (rPl (tOnly L (kByteOf (kChk (L.take (rNx q))) 2) 6 (tOnly L (kByteOf (kChk (L.take (rNx q))) 3) 6 q)))])), (r, .inr (2, [.ref b, .int (nI L.length)])), (b, .inl (cB, cap, .inl f))] := hD
      refine lv_iinc (v := 1) (lv' := [(2, .int 1), (1, .int (kChk (L.take (rNx q)))), (0, .ref d)]) hx hb d_Rd_takeCheck_34 hl (k := 0) rfl (by decide) (by decide) rfl (fun ls hl => ?_)
      refine lv_goto (tgt := 14) hx hb d_Rd_takeCheck_37 (by decide) ?_
      refine lv_iload_n hx hb d_Rd_takeCheck_14 rfl (lv_at hl 0 rfl) ?_
      refine lv_if_lt (tgt := 40) hx hb d_Rd_takeCheck_15 (by decide) (fun c_15 => ?_) (fun c_15 => ?_)
      · exact absurd c_15 (by decide)
      · refine lv_aload_n hx hb d_Rd_takeCheck_18 rfl (lv_at hl 2 rfl) ?_
        refine lv_iload_n hx hb d_Rd_takeCheck_19 rfl (lv_at hl 1 rfl) ?_
        refine lv_bipush (v := 8) hx hb d_Rd_takeCheck_20 (by decide) ?_
        refine lv_iload_n hx hb d_Rd_takeCheck_22 rfl (lv_at hl 0 rfl) ?_
        refine lv_imul hx hb d_Rd_takeCheck_23 ?_
        refine kt_i (y := nI (8 * 1)) (by decide) ?_
        refine lv_iushr (v := ((kChk (L.take (rNx q))).toUInt32 >>> ((nI (8 * 1)).toUInt32 &&& Int32.toUInt32 31)).toInt32) hx hb d_Rd_takeCheck_24 rfl ?_
        refine lv_sipush (v := 255) hx hb d_Rd_takeCheck_25 (by decide) ?_
        refine lv_iand hx hb d_Rd_takeCheck_28 ?_
        refine kt_i (y := kByteOf (kChk (L.take (rNx q))) 1) (rfl) ?_
        refine lv_bipush (v := 6) hx hb d_Rd_takeCheck_29 (by decide) ?_
        refine kc_v (wr := []) (w2 := fun (_ : Unit) => [(d, .inr (3, [.ref r, .int (nI (rNx (tOnly L (kByteOf (kChk (L.take (rNx q))) 1) 6 (tOnly L (kByteOf (kChk (L.take (rNx q))) 2) 6 (tOnly L (kByteOf (kChk (L.take (rNx q))) 3) 6 q))))), .int (nI (rAn (tOnly L (kByteOf (kChk (L.take (rNx q))) 1) 6 (tOnly L (kByteOf (kChk (L.take (rNx q))) 2) 6 (tOnly L (kByteOf (kChk (L.take (rNx q))) 3) 6 q))))), .int (rFt (tOnly L (kByteOf (kChk (L.take (rNx q))) 1) 6 (tOnly L (kByteOf (kChk (L.take (rNx q))) 2) 6 (tOnly L (kByteOf (kChk (L.take (rNx q))) 3) 6 q)))), .int (rPl (tOnly L (kByteOf (kChk (L.take (rNx q))) 1) 6 (tOnly L (kByteOf (kChk (L.take (rNx q))) 2) 6 (tOnly L (kByteOf (kChk (L.take (rNx q))) 3) 6 q))))])), (r, .inr (2, [.ref b, .int (nI L.length)])), (b, .inl (cB, cap, .inl f))]) (va_runV (As := [.int (kByteOf (kChk (L.take (rNx q))) 1), .int 6]) (rest := []) ⟨hx, hb, hml, hown, hts⟩ (c_Rd_takeOnly l dC dI cI cB cZ _ d r (tOnly L (kByteOf (kChk (L.take (rNx q))) 2) 6 (tOnly L (kByteOf (kChk (L.take (rNx q))) 3) 6 q)) b cap f L (kByteOf (kChk (L.take (rNx q))) 1) 6 (by first | with_reducible assumption | omega | decide) (tOnly_nx _ _ (tOnly_nx _ _ (hq) hL) hL)) (cwV 2 hts (gV mw288 mw290 mw3 mw29 mw291) rfl rfl rfl (by decide +kernel) ⟨Nat.le_of_ble_eq_true rfl, Nat.le_of_ble_eq_true rfl⟩) (kpV (wc := [(d, .inr (3, [.ref r, .int (nI (rNx (tOnly L (kByteOf (kChk (L.take (rNx q))) 2) 6 (tOnly L (kByteOf (kChk (L.take (rNx q))) 3) 6 q)))), .int (nI (rAn (tOnly L (kByteOf (kChk (L.take (rNx q))) 2) 6 (tOnly L (kByteOf (kChk (L.take (rNx q))) 3) 6 q)))), .int (rFt (tOnly L (kByteOf (kChk (L.take (rNx q))) 2) 6 (tOnly L (kByteOf (kChk (L.take (rNx q))) 3) 6 q))), .int (rPl (tOnly L (kByteOf (kChk (L.take (rNx q))) 2) 6 (tOnly L (kByteOf (kChk (L.take (rNx q))) 3) 6 q)))])), (r, .inr (2, [.ref b, .int (nI L.length)])), (b, .inl (cB, cap, .inl f))]) (q0 := 0) (ci := 3) hK hP hD [0, 1, 2] rfl (by decide) rfl rfl rfl) rfl rfl hl.1 rfl (lv_room (Nat.le_of_ble_eq_true rfl)) d_Rd_takeCheck_31 ⟨Nat.le_of_ble_eq_true rfl, Nat.le_of_ble_eq_true rfl⟩) hP hD hS hA [0, 1, 2] [] [0, 1, 2] rfl rfl (by decide) (by decide) (fun _ => rfl) (by decide) (fun _ => rfl) (fun u9 H locs hw hP hD hS => ?_)
        have hP : va_P (dC, dI) classes [(d, .inr (3, [.ref r, .int (nI (rNx (tOnly L (kByteOf (kChk (L.take (rNx q))) 1) 6 (tOnly L (kByteOf (kChk (L.take (rNx q))) 2) 6 (tOnly L (kByteOf (kChk (L.take (rNx q))) 3) 6 q))))), .int (nI (rAn (tOnly L (kByteOf (kChk (L.take (rNx q))) 1) 6 (tOnly L (kByteOf (kChk (L.take (rNx q))) 2) 6 (tOnly L (kByteOf (kChk (L.take (rNx q))) 3) 6 q))))), .int (rFt (tOnly L (kByteOf (kChk (L.take (rNx q))) 1) 6 (tOnly L (kByteOf (kChk (L.take (rNx q))) 2) 6 (tOnly L (kByteOf (kChk (L.take (rNx q))) 3) 6 q)))), .int (rPl (tOnly L (kByteOf (kChk (L.take (rNx q))) 1) 6 (tOnly L (kByteOf (kChk (L.take (rNx q))) 2) 6 (tOnly L (kByteOf (kChk (L.take (rNx q))) 3) 6 q))))])), (r, .inr (2, [.ref b, .int (nI L.length)])), (b, .inl (cB, cap, .inl f))] H := hP
        have hD : va_D A [(d, .inr (3, [.ref r, .int (nI (rNx (tOnly L (kByteOf (kChk (L.take (rNx q))) 1) 6 (tOnly L (kByteOf (kChk (L.take (rNx q))) 2) 6 (tOnly L (kByteOf (kChk (L.take (rNx q))) 3) 6 q))))), .int (nI (rAn (tOnly L (kByteOf (kChk (L.take (rNx q))) 1) 6 (tOnly L (kByteOf (kChk (L.take (rNx q))) 2) 6 (tOnly L (kByteOf (kChk (L.take (rNx q))) 3) 6 q))))), .int (rFt (tOnly L (kByteOf (kChk (L.take (rNx q))) 1) 6 (tOnly L (kByteOf (kChk (L.take (rNx q))) 2) 6 (tOnly L (kByteOf (kChk (L.take (rNx q))) 3) 6 q)))), .int (rPl (tOnly L (kByteOf (kChk (L.take (rNx q))) 1) 6 (tOnly L (kByteOf (kChk (L.take (rNx q))) 2) 6 (tOnly L (kByteOf (kChk (L.take (rNx q))) 3) 6 q))))])), (r, .inr (2, [.ref b, .int (nI L.length)])), (b, .inl (cB, cap, .inl f))] := hD
        refine lv_iinc (v := 0) (lv' := [(2, .int 0), (1, .int (kChk (L.take (rNx q)))), (0, .ref d)]) hx hb d_Rd_takeCheck_34 hl (k := 0) rfl (by decide) (by decide) rfl (fun ls hl => ?_)
        refine lv_goto (tgt := 14) hx hb d_Rd_takeCheck_37 (by decide) ?_
        refine lv_iload_n hx hb d_Rd_takeCheck_14 rfl (lv_at hl 0 rfl) ?_
        refine lv_if_lt (tgt := 40) hx hb d_Rd_takeCheck_15 (by decide) (fun c_15 => ?_) (fun c_15 => ?_)
        · exact absurd c_15 (by decide)
        · refine lv_aload_n hx hb d_Rd_takeCheck_18 rfl (lv_at hl 2 rfl) ?_
          refine lv_iload_n hx hb d_Rd_takeCheck_19 rfl (lv_at hl 1 rfl) ?_
          refine lv_bipush (v := 8) hx hb d_Rd_takeCheck_20 (by decide) ?_
          refine lv_iload_n hx hb d_Rd_takeCheck_22 rfl (lv_at hl 0 rfl) ?_
          refine lv_imul hx hb d_Rd_takeCheck_23 ?_
          refine kt_i (y := nI (8 * 0)) (by decide) ?_
          refine lv_iushr (v := ((kChk (L.take (rNx q))).toUInt32 >>> ((nI (8 * 0)).toUInt32 &&& Int32.toUInt32 31)).toInt32) hx hb d_Rd_takeCheck_24 rfl ?_
          refine lv_sipush (v := 255) hx hb d_Rd_takeCheck_25 (by decide) ?_
          refine lv_iand hx hb d_Rd_takeCheck_28 ?_
          refine kt_i (y := kByteOf (kChk (L.take (rNx q))) 0) (rfl) ?_
          refine lv_bipush (v := 6) hx hb d_Rd_takeCheck_29 (by decide) ?_
          refine kc_v (wr := []) (w2 := fun (_ : Unit) => [(d, .inr (3, [.ref r, .int (nI (rNx (tOnly L (kByteOf (kChk (L.take (rNx q))) 0) 6 (tOnly L (kByteOf (kChk (L.take (rNx q))) 1) 6 (tOnly L (kByteOf (kChk (L.take (rNx q))) 2) 6 (tOnly L (kByteOf (kChk (L.take (rNx q))) 3) 6 q)))))), .int (nI (rAn (tOnly L (kByteOf (kChk (L.take (rNx q))) 0) 6 (tOnly L (kByteOf (kChk (L.take (rNx q))) 1) 6 (tOnly L (kByteOf (kChk (L.take (rNx q))) 2) 6 (tOnly L (kByteOf (kChk (L.take (rNx q))) 3) 6 q)))))), .int (rFt (tOnly L (kByteOf (kChk (L.take (rNx q))) 0) 6 (tOnly L (kByteOf (kChk (L.take (rNx q))) 1) 6 (tOnly L (kByteOf (kChk (L.take (rNx q))) 2) 6 (tOnly L (kByteOf (kChk (L.take (rNx q))) 3) 6 q))))), .int (rPl (tOnly L (kByteOf (kChk (L.take (rNx q))) 0) 6 (tOnly L (kByteOf (kChk (L.take (rNx q))) 1) 6 (tOnly L (kByteOf (kChk (L.take (rNx q))) 2) 6 (tOnly L (kByteOf (kChk (L.take (rNx q))) 3) 6 q)))))])), (r, .inr (2, [.ref b, .int (nI L.length)])), (b, .inl (cB, cap, .inl f))]) (va_runV (As := [.int (kByteOf (kChk (L.take (rNx q))) 0), .int 6]) (rest := []) ⟨hx, hb, hml, hown, hts⟩ (c_Rd_takeOnly l dC dI cI cB cZ _ d r (tOnly L (kByteOf (kChk (L.take (rNx q))) 1) 6 (tOnly L (kByteOf (kChk (L.take (rNx q))) 2) 6 (tOnly L (kByteOf (kChk (L.take (rNx q))) 3) 6 q))) b cap f L (kByteOf (kChk (L.take (rNx q))) 0) 6 (by first | with_reducible assumption | omega | decide) (tOnly_nx _ _ (tOnly_nx _ _ (tOnly_nx _ _ (hq) hL) hL) hL)) (cwV 2 hts (gV mw288 mw290 mw3 mw29 mw291) rfl rfl rfl (by decide +kernel) ⟨Nat.le_of_ble_eq_true rfl, Nat.le_of_ble_eq_true rfl⟩) (kpV (wc := [(d, .inr (3, [.ref r, .int (nI (rNx (tOnly L (kByteOf (kChk (L.take (rNx q))) 1) 6 (tOnly L (kByteOf (kChk (L.take (rNx q))) 2) 6 (tOnly L (kByteOf (kChk (L.take (rNx q))) 3) 6 q))))), .int (nI (rAn (tOnly L (kByteOf (kChk (L.take (rNx q))) 1) 6 (tOnly L (kByteOf (kChk (L.take (rNx q))) 2) 6 (tOnly L (kByteOf (kChk (L.take (rNx q))) 3) 6 q))))), .int (rFt (tOnly L (kByteOf (kChk (L.take (rNx q))) 1) 6 (tOnly L (kByteOf (kChk (L.take (rNx q))) 2) 6 (tOnly L (kByteOf (kChk (L.take (rNx q))) 3) 6 q)))), .int (rPl (tOnly L (kByteOf (kChk (L.take (rNx q))) 1) 6 (tOnly L (kByteOf (kChk (L.take (rNx q))) 2) 6 (tOnly L (kByteOf (kChk (L.take (rNx q))) 3) 6 q))))])), (r, .inr (2, [.ref b, .int (nI L.length)])), (b, .inl (cB, cap, .inl f))]) (q0 := 0) (ci := 3) hK hP hD [0, 1, 2] rfl (by decide) rfl rfl rfl) rfl rfl hl.1 rfl (lv_room (Nat.le_of_ble_eq_true rfl)) d_Rd_takeCheck_31 ⟨Nat.le_of_ble_eq_true rfl, Nat.le_of_ble_eq_true rfl⟩) hP hD hS hA [0, 1, 2] [] [0, 1, 2] rfl rfl (by decide) (by decide) (fun _ => rfl) (by decide) (fun _ => rfl) (fun u9 H locs hw hP hD hS => ?_)
          have hP : va_P (dC, dI) classes [(d, .inr (3, [.ref r, .int (nI (rNx (tOnly L (kByteOf (kChk (L.take (rNx q))) 0) 6 (tOnly L (kByteOf (kChk (L.take (rNx q))) 1) 6 (tOnly L (kByteOf (kChk (L.take (rNx q))) 2) 6 (tOnly L (kByteOf (kChk (L.take (rNx q))) 3) 6 q)))))), .int (nI (rAn (tOnly L (kByteOf (kChk (L.take (rNx q))) 0) 6 (tOnly L (kByteOf (kChk (L.take (rNx q))) 1) 6 (tOnly L (kByteOf (kChk (L.take (rNx q))) 2) 6 (tOnly L (kByteOf (kChk (L.take (rNx q))) 3) 6 q)))))), .int (rFt (tOnly L (kByteOf (kChk (L.take (rNx q))) 0) 6 (tOnly L (kByteOf (kChk (L.take (rNx q))) 1) 6 (tOnly L (kByteOf (kChk (L.take (rNx q))) 2) 6 (tOnly L (kByteOf (kChk (L.take (rNx q))) 3) 6 q))))), .int (rPl (tOnly L (kByteOf (kChk (L.take (rNx q))) 0) 6 (tOnly L (kByteOf (kChk (L.take (rNx q))) 1) 6 (tOnly L (kByteOf (kChk (L.take (rNx q))) 2) 6 (tOnly L (kByteOf (kChk (L.take (rNx q))) 3) 6 q)))))])), (r, .inr (2, [.ref b, .int (nI L.length)])), (b, .inl (cB, cap, .inl f))] H := hP
          have hD : va_D A [(d, .inr (3, [.ref r, .int (nI (rNx (tOnly L (kByteOf (kChk (L.take (rNx q))) 0) 6 (tOnly L (kByteOf (kChk (L.take (rNx q))) 1) 6 (tOnly L (kByteOf (kChk (L.take (rNx q))) 2) 6 (tOnly L (kByteOf (kChk (L.take (rNx q))) 3) 6 q)))))), .int (nI (rAn (tOnly L (kByteOf (kChk (L.take (rNx q))) 0) 6 (tOnly L (kByteOf (kChk (L.take (rNx q))) 1) 6 (tOnly L (kByteOf (kChk (L.take (rNx q))) 2) 6 (tOnly L (kByteOf (kChk (L.take (rNx q))) 3) 6 q)))))), .int (rFt (tOnly L (kByteOf (kChk (L.take (rNx q))) 0) 6 (tOnly L (kByteOf (kChk (L.take (rNx q))) 1) 6 (tOnly L (kByteOf (kChk (L.take (rNx q))) 2) 6 (tOnly L (kByteOf (kChk (L.take (rNx q))) 3) 6 q))))), .int (rPl (tOnly L (kByteOf (kChk (L.take (rNx q))) 0) 6 (tOnly L (kByteOf (kChk (L.take (rNx q))) 1) 6 (tOnly L (kByteOf (kChk (L.take (rNx q))) 2) 6 (tOnly L (kByteOf (kChk (L.take (rNx q))) 3) 6 q)))))])), (r, .inr (2, [.ref b, .int (nI L.length)])), (b, .inl (cB, cap, .inl f))] := hD
          refine lv_iinc (v := -1) (lv' := [(2, .int (-1)), (1, .int (kChk (L.take (rNx q)))), (0, .ref d)]) hx hb d_Rd_takeCheck_34 hl (k := 0) rfl (by decide) (by decide) rfl (fun ls hl => ?_)
          refine lv_goto (tgt := 14) hx hb d_Rd_takeCheck_37 (by decide) ?_
          refine lv_iload_n hx hb d_Rd_takeCheck_14 rfl (lv_at hl 0 rfl) ?_
          refine lv_if_lt (tgt := 40) hx hb d_Rd_takeCheck_15 (by decide) (fun c_15 => ?_) (fun c_15 => ?_)
          · exact kr_v () hx hb hr hK (hP.sub [0, 1, 2] (rfl)) (hD.sub [0, 1, 2] (by decide) (rfl)) hS trivial d_Rd_takeCheck_40 hlocks
          · exact absurd (by decide) c_15
abbrev Qc_Rd_takeGroup (dC : Nat → ClassId) (dI : Nat → Nat → Nat) (cI cB cZ : ClassId) (d : Nat) (r : Nat) (q : RS) (b : Nat) (cap : Nat) (f : Nat → Int32) (L : List Nat) (w : Nat) (a : Nat) (fw : Nat → Int32) (M : List Int32) (x : Int32) (y : Int32) (g : Int32) (t : Int32) (A : Nat → Prop) := va_Qi (fun (r9 : Int32) (u9 : (Nat → Int32)) => (r9 = (tGroup L M q).1) ∧ (WRow u9 (tGroup L M q).2.1)) (ka (dC, dI) classes [(cI, .int), (cB, .byte), (cZ, .boolean)] (fun (u9 : (Nat → Int32)) => [(d, .inr (3, [.ref r, .int (nI (rNx (tGroup L M q).2.2)), .int (nI (rAn (tGroup L M q).2.2)), .int (rFt (tGroup L M q).2.2), .int (rPl (tGroup L M q).2.2)])), (r, .inr (2, [.ref b, .int (nI L.length)])), (b, .inl (cB, cap, .inl f)), (w, .inr (1, [.ref a, .int (nI (tGroup L M q).2.1.length), .int x, .int y, .int g, .int t])), (a, .inl (cI, 1024, .inl u9))]) A) A
set_option maxHeartbeats 1000000 in
set_option maxRecDepth 100000 in
/-- Reader.takeGroup -/
theorem c_Rd_takeGroup (l : Launch) (dC : Nat → ClassId) (dI : Nat → Nat → Nat) (cI cB cZ : ClassId) (sz : Nat) (d : Nat) (r : Nat) (q : RS) (b : Nat) (cap : Nat) (f : Nat → Int32) (L : List Nat) (w : Nat) (a : Nat) (fw : Nat → Int32) (M : List Int32) (x : Int32) (y : Int32) (g : Int32) (t : Int32) (hB : BRow cap f L) (hq : rNx q ≤ L.length) (hW : WRow fw M) (hn : rAn q ≤ 63) : Met l y_Rd_takeGroup w_Rd_takeGroup ({ frames := 3, cells := 0, slots := 0, locals := 70 }) (va_Pc [.ref d, .ref w] (kp (dC, dI) classes [(cI, .int), (cB, .byte), (cZ, .boolean)] [(d, .inr (3, [.ref r, .int (nI (rNx q)), .int (nI (rAn q)), .int (rFt q), .int (rPl q)])), (r, .inr (2, [.ref b, .int (nI L.length)])), (b, .inl (cB, cap, .inl f)), (w, .inr (1, [.ref a, .int (nI M.length), .int x, .int y, .int g, .int t])), (a, .inl (cI, 1024, .inl fw))] sz)) (Qc_Rd_takeGroup dC dI cI cB cZ d r q b cap f L w a fw M x y g t (va_A [(d, .inr (3, [.ref r, .int (nI (rNx q)), .int (nI (rAn q)), .int (rFt q), .int (rPl q)])), (r, .inr (2, [.ref b, .int (nI L.length)])), (b, .inl (cB, cap, .inl f)), (w, .inr (1, [.ref a, .int (nI M.length), .int x, .int y, .int g, .int t])), (a, .inl (cI, 1024, .inl fw))] sz)) 0 0 (va_A [(d, .inr (3, [.ref r, .int (nI (rNx q)), .int (nI (rAn q)), .int (rFt q), .int (rPl q)])), (r, .inr (2, [.ref b, .int (nI L.length)])), (b, .inl (cB, cap, .inl f)), (w, .inr (1, [.ref a, .int (nI M.length), .int x, .int y, .int g, .int t])), (a, .inl (cI, 1024, .inl fw))] sz) := by
  refine Met.ofW (cc := prog_4_method_12_code) (maxL := 6) (ret := (some .boolean)) (by decide) rfl ?_
  intro p e s m args below meth c s₁ B hml hv
  obtain ⟨rfl, hsz, hP, hK, hD0⟩ := hv
  have hx := B.exec
  have hb := B.bytes
  have hr := B.returns
  have hts := fun w h => atoms_spec (ws := w_Rd_takeGroup) B.pre w (List.mem_cons_of_mem _ h)
  have hown : s.vm.findClass "DemoTape$Reader" = some m.cls := findClass_of_methodNamed B.named
  have hlocks := B.notSynchronized
  subst hsz
  have hD := hD0.self (sz := s.heap.size)
  generalize hAe : va_A ([(d, .inr (3, [.ref r, .int (nI (rNx q)), .int (nI (rAn q)), .int (rFt q), .int (rPl q)])), (r, .inr (2, [.ref b, .int (nI L.length)])), (b, .inl (cB, cap, .inl f)), (w, .inr (1, [.ref a, .int (nI M.length), .int x, .int y, .int g, .int t])), (a, .inl (cI, 1024, .inl fw))] : va_W) s.heap.size = A at hD ⊢
  have hA : ∀ q : Nat, s.heap.size ≤ q → A q := fun q h => by rw [← hAe]; exact Or.inr h
  have hS : va_S A s.heap s.heap [] := va_S.rf
  have hP : va_P (dC, dI) classes [(d, .inr (3, [.ref r, .int (nI (rNx q)), .int (nI (rAn q)), .int (rFt q), .int (rPl q)])), (r, .inr (2, [.ref b, .int (nI L.length)])), (b, .inl (cB, cap, .inl f)), (w, .inr (1, [.ref a, .int (nI M.length), .int x, .int y, .int g, .int t])), (a, .inl (cI, 1024, .inl fw))] s.heap := hP
  have hL : L.length ≤ 8192 := Nat.le_trans hB.2.2.1 hB.2.2.2
  have hq1 : rNx (tTake L 255 q).2 ≤ L.length := tTake_nx _ hq hL
  have hn1 : rAn (tTake L 255 q).2 = rAn q := tTake_an _ _ _
  have hkn : kN (tTake L 255 q).1 ≤ 63 := kN_le _
  have hM := hW.2
  have hl := lv_entry ([.ref d, .ref w]) (n := 6) (Nat.le_of_ble_eq_true rfl)
  rw [lg_entry_eq]
  generalize (lg_sl ([.ref d, .ref w]) ++ List.replicate (6 - (lg_sl ([.ref d, .ref w])).length) Slot.unset).toArray = ls at hl ⊢
  have hl : lv_has ls 6 [(0, .ref d), (1, .ref w)] := hl
  have J_93 : ∀ (z5 : RS), (¬ ((tTake L 255 q).1 = -1 ∨ (tTake L 255 q).1 = 0)) → (z5 = tG5 L M q) → ∀ (H : Heap) (locs : List Loc), va_P (dC, dI) classes [(d, .inr (3, [.ref r, .int (nI (rNx z5)), .int (nI (rAn z5)), .int (rFt z5), .int (rPl z5)])), (r, .inr (2, [.ref b, .int (nI L.length)])), (b, .inl (cB, cap, .inl f)), (w, .inr (1, [.ref a, .int (nI M.length), .int x, .int y, .int g, .int t])), (a, .inl (cI, 1024, .inl fw))] H → va_D A [(d, .inr (3, [.ref r, .int (nI (rNx z5)), .int (nI (rAn z5)), .int (rFt z5), .int (rPl z5)])), (r, .inr (2, [.ref b, .int (nI L.length)])), (b, .inl (cB, cap, .inl f)), (w, .inr (1, [.ref a, .int (nI M.length), .int x, .int y, .int g, .int t])), (a, .inl (cI, 1024, .inl fw))] → va_S A s.heap H locs → ∀ (ls : Array Slot), lv_has ls 6 [(0, .ref d), (1, .ref w), (2, .int (nI (rNx q))), (3, .int (tTake L 255 q).1), (4, .int (nI (kN (tTake L 255 q).1))), (5, .int (tG4 L M q).1)] → W p l e (headSpec w_Rd_takeGroup ({ frames := 3, cells := 0, slots := 0, locals := 70 })).room s m [.ref d, .ref w].toArray below meth c H locs 0 0 (MQ below (Qc_Rd_takeGroup dC dI cI cB cZ d r q b cap f L w a fw M x y g t A) [.ref d, .ref w].toArray s 0 0 A) (F0 m 93 ls []) := by
    intro z5 hb1 h5 H locs hP hD hS ls hl
    subst h5
    refine lv_aload_n hx hb d_Rd_takeGroup_93 rfl (lv_at hl 0 rfl) ?_
    refine va_get (D := (dC, dI)) (ci := 3) (v := .int (rFt (tG5 L M q))) (C := "DemoTape$Reader") (T := F_Rd) (N := 5) hx hb hts i_Rd hown hK hP 0 rfl rfl 3 (by decide) (hts _ mw93) (fun _ h9 => h9) rfl d_Rd_takeGroup_94 ?_
    refine lv_if_eq (tgt := 102) hx hb d_Rd_takeGroup_97 (by decide) (fun c_97 => ?_) (fun c_97 => ?_)
    · have hroom := tG5_room hb1 c_97
      refine lv_aload_n hx hb d_Rd_takeGroup_102 rfl (lv_at hl 1 rfl) ?_
      refine lv_iload hx hb d_Rd_takeGroup_103 (lv_at hl 5 rfl) ?_
      refine lv_iload hx hb d_Rd_takeGroup_105 (lv_at hl 4 rfl) ?_
      refine kc_v (wr := [(d, .inr (3, [.ref r, .int (nI (rNx (tG5 L M q))), .int (nI (rAn (tG5 L M q))), .int (rFt (tG5 L M q)), .int (rPl (tG5 L M q))])), (r, .inr (2, [.ref b, .int (nI L.length)])), (b, .inl (cB, cap, .inl f))]) (w2 := fun (u9 : (Nat → Int32)) => [(d, .inr (3, [.ref r, .int (nI (rNx (tG5 L M q))), .int (nI (rAn (tG5 L M q))), .int (rFt (tG5 L M q)), .int (rPl (tG5 L M q))])), (r, .inr (2, [.ref b, .int (nI L.length)])), (b, .inl (cB, cap, .inl f)), (w, .inr (1, [.ref a, .int (nI (M ++ List.replicate (kN (tTake L 255 q).1) (tG4 L M q).1).length), .int x, .int y, .int g, .int t])), (a, .inl (cI, 1024, .inl u9))]) (va_runV (As := [.int (tG4 L M q).1, .int (nI (kN (tTake L 255 q).1))]) (rest := []) ⟨hx, hb, hml, hown, hts⟩ (c_Walk_append l dC dI cI cB cZ _ w a fw M x y g t (tG4 L M q).1 (kN (tTake L 255 q).1) (by first | with_reducible assumption | omega | decide) (by omega)) (cwV 2 hts (gV mw327 mw146 mw147 mw26 mw148) rfl rfl rfl (by decide +kernel) ⟨Nat.le_of_ble_eq_true rfl, Nat.le_of_ble_eq_true rfl⟩) (kpV (wc := [(w, .inr (1, [.ref a, .int (nI M.length), .int x, .int y, .int g, .int t])), (a, .inl (cI, 1024, .inl fw))]) (q0 := 3) (ci := 1) hK hP hD [3, 4] rfl (by decide) rfl rfl rfl) rfl rfl hl.1 rfl (lv_room (Nat.le_of_ble_eq_true rfl)) d_Rd_takeGroup_107 ⟨Nat.le_of_ble_eq_true rfl, Nat.le_of_ble_eq_true rfl⟩) hP hD hS hA [3, 4] [0, 1, 2] [0, 1, 2, 3, 4] rfl rfl (by decide) (by decide) (fun _ => rfl) (by decide) (fun _ => rfl) (fun u9 H locs hw hP hD hS => ?_)
      obtain ⟨f1_107, rfl⟩ : ∃ z, z = u9 := ⟨_, rfl⟩
      try dsimp only at hw
      have hP : va_P (dC, dI) classes [(d, .inr (3, [.ref r, .int (nI (rNx (tG5 L M q))), .int (nI (rAn (tG5 L M q))), .int (rFt (tG5 L M q)), .int (rPl (tG5 L M q))])), (r, .inr (2, [.ref b, .int (nI L.length)])), (b, .inl (cB, cap, .inl f)), (w, .inr (1, [.ref a, .int (nI (M ++ List.replicate (kN (tTake L 255 q).1) (tG4 L M q).1).length), .int x, .int y, .int g, .int t])), (a, .inl (cI, 1024, .inl f1_107))] H := hP
      have hD : va_D A [(d, .inr (3, [.ref r, .int (nI (rNx (tG5 L M q))), .int (nI (rAn (tG5 L M q))), .int (rFt (tG5 L M q)), .int (rPl (tG5 L M q))])), (r, .inr (2, [.ref b, .int (nI L.length)])), (b, .inl (cB, cap, .inl f)), (w, .inr (1, [.ref a, .int (nI (M ++ List.replicate (kN (tTake L 255 q).1) (tG4 L M q).1).length), .int x, .int y, .int g, .int t])), (a, .inl (cI, 1024, .inl f1_107))] := hD
      have hW_107 := hw
      refine lv_aload_n hx hb d_Rd_takeGroup_110 rfl (lv_at hl 0 rfl) ?_
      refine lv_iload hx hb d_Rd_takeGroup_111 (lv_at hl 4 rfl) ?_
      refine va_put (D := (dC, dI)) (ci := 3) (v := .int (nI (kN (tTake L 255 q).1))) (ty := .int) (C := "DemoTape$Reader") (T := F_Rd) (N := 5) hx hb hts i_Rd t_Rd t_Rd_ok n_Rd hown hK hP hD hS 0 rfl rfl 2 (by decide) (hts _ mw92) (fun _ h9 => h9) rfl (by decide +kernel) rfl rfl (Nat.le_of_ble_eq_true rfl) d_Rd_takeGroup_113 (fun H locs hP hD hS => ?_)
      have hP : va_P (dC, dI) classes [(d, .inr (3, [.ref r, .int (nI (rNx (tG5 L M q))), .int (nI (kN (tTake L 255 q).1)), .int (rFt (tG5 L M q)), .int (rPl (tG5 L M q))])), (r, .inr (2, [.ref b, .int (nI L.length)])), (b, .inl (cB, cap, .inl f)), (w, .inr (1, [.ref a, .int (nI (M ++ List.replicate (kN (tTake L 255 q).1) (tG4 L M q).1).length), .int x, .int y, .int g, .int t])), (a, .inl (cI, 1024, .inl f1_107))] H := hP
      have hD : va_D A [(d, .inr (3, [.ref r, .int (nI (rNx (tG5 L M q))), .int (nI (kN (tTake L 255 q).1)), .int (rFt (tG5 L M q)), .int (rPl (tG5 L M q))])), (r, .inr (2, [.ref b, .int (nI L.length)])), (b, .inl (cB, cap, .inl f)), (w, .inr (1, [.ref a, .int (nI (M ++ List.replicate (kN (tTake L 255 q).1) (tG4 L M q).1).length), .int x, .int y, .int g, .int t])), (a, .inl (cI, 1024, .inl f1_107))] := hD
      refine lv_iconst (v := 1) hx hb d_Rd_takeGroup_116 (by decide) ?_
      exact kr_i (v := 1) f1_107 hx hb hr (by decide) hK (hP.sub [0, 1, 2, 3, 4] (by rw [tGroup_k hb1 c_97]; first | done | rfl)) (hD.sub [0, 1, 2, 3, 4] (by decide) (by rw [tGroup_k hb1 c_97]; first | done | rfl)) hS ⟨by rw [tGroup_k hb1 c_97], by rw [tGroup_k hb1 c_97]; exact hW_107⟩ d_Rd_takeGroup_117 hlocks
    · refine lv_iconst (v := 0) hx hb d_Rd_takeGroup_100 (by decide) ?_
      exact kr_i (v := 0) fw hx hb hr (by decide) hK (hP.sub [0, 1, 2, 3, 4] (by rw [tGroup_f hb1 c_97]; first | done | rfl)) (hD.sub [0, 1, 2, 3, 4] (by decide) (by rw [tGroup_f hb1 c_97]; first | done | rfl)) hS ⟨by rw [tGroup_f hb1 c_97], by rw [tGroup_f hb1 c_97]; exact hW⟩ d_Rd_takeGroup_101 hlocks
  have J_56 : ∀ (z3 : RS), (¬ ((tTake L 255 q).1 = -1 ∨ (tTake L 255 q).1 = 0)) → (z3 = tG3 L M q) → ∀ (H : Heap) (locs : List Loc), va_P (dC, dI) classes [(d, .inr (3, [.ref r, .int (nI (rNx z3)), .int (nI (rAn z3)), .int (rFt z3), .int (rPl z3)])), (r, .inr (2, [.ref b, .int (nI L.length)])), (b, .inl (cB, cap, .inl f)), (w, .inr (1, [.ref a, .int (nI M.length), .int x, .int y, .int g, .int t])), (a, .inl (cI, 1024, .inl fw))] H → va_D A [(d, .inr (3, [.ref r, .int (nI (rNx z3)), .int (nI (rAn z3)), .int (rFt z3), .int (rPl z3)])), (r, .inr (2, [.ref b, .int (nI L.length)])), (b, .inl (cB, cap, .inl f)), (w, .inr (1, [.ref a, .int (nI M.length), .int x, .int y, .int g, .int t])), (a, .inl (cI, 1024, .inl fw))] → va_S A s.heap H locs → ∀ (ls : Array Slot), lv_has ls 6 [(0, .ref d), (1, .ref w), (2, .int (nI (rNx q))), (3, .int (tTake L 255 q).1), (4, .int (nI (kN (tTake L 255 q).1)))] → W p l e (headSpec w_Rd_takeGroup ({ frames := 3, cells := 0, slots := 0, locals := 70 })).room s m [.ref d, .ref w].toArray below meth c H locs 0 0 (MQ below (Qc_Rd_takeGroup dC dI cI cB cZ d r q b cap f L w a fw M x y g t A) [.ref d, .ref w].toArray s 0 0 A) (F0 m 56 ls []) := by
    intro z3 hb1 h3 H locs hP hD hS ls hl
    subst h3
    refine lv_aload_n hx hb d_Rd_takeGroup_56 rfl (lv_at hl 0 rfl) ?_
    refine lv_iload_n hx hb d_Rd_takeGroup_57 rfl (lv_at hl 3 rfl) ?_
    refine kc_i (wr := [(w, .inr (1, [.ref a, .int (nI M.length), .int x, .int y, .int g, .int t])), (a, .inl (cI, 1024, .inl fw))]) (w2 := fun (_ : Unit) => [(d, .inr (3, [.ref r, .int (nI (rNx (tCode L (tTake L 255 q).1 (tG3 L M q)).2)), .int (nI (rAn (tCode L (tTake L 255 q).1 (tG3 L M q)).2)), .int (rFt (tCode L (tTake L 255 q).1 (tG3 L M q)).2), .int (rPl (tCode L (tTake L 255 q).1 (tG3 L M q)).2)])), (r, .inr (2, [.ref b, .int (nI L.length)])), (b, .inl (cB, cap, .inl f)), (w, .inr (1, [.ref a, .int (nI M.length), .int x, .int y, .int g, .int t])), (a, .inl (cI, 1024, .inl fw))]) (va_runV (As := [.int (tTake L 255 q).1]) (rest := []) ⟨hx, hb, hml, hown, hts⟩ (c_Rd_takeCode l dC dI cI cB cZ _ d r (tG3 L M q) b cap f L (tTake L 255 q).1 (by first | with_reducible assumption | omega | decide) (tG3_nx hq hL)) (cwV 1 hts (gV mw320 mw322 mw10 mw29 mw323) rfl rfl rfl (by decide +kernel) ⟨Nat.le_of_ble_eq_true rfl, Nat.le_of_ble_eq_true rfl⟩) (kpV (wc := [(d, .inr (3, [.ref r, .int (nI (rNx (tG3 L M q))), .int (nI (rAn (tG3 L M q))), .int (rFt (tG3 L M q)), .int (rPl (tG3 L M q))])), (r, .inr (2, [.ref b, .int (nI L.length)])), (b, .inl (cB, cap, .inl f))]) (q0 := 0) (ci := 3) hK hP hD [0, 1, 2] rfl (by decide) rfl rfl rfl) rfl rfl hl.1 rfl (lv_room (Nat.le_of_ble_eq_true rfl)) d_Rd_takeGroup_58 ⟨Nat.le_of_ble_eq_true rfl, Nat.le_of_ble_eq_true rfl⟩) hP hD hS hA [0, 1, 2] [3, 4] [2, 3, 4, 0, 1] rfl rfl (by decide) (by decide) (fun _ => rfl) (by decide) (fun _ => rfl) (fun r_58 u9 H locs hw hP hD hS => ?_)
    have hP : va_P (dC, dI) classes [(d, .inr (3, [.ref r, .int (nI (rNx (tCode L (tTake L 255 q).1 (tG3 L M q)).2)), .int (nI (rAn (tCode L (tTake L 255 q).1 (tG3 L M q)).2)), .int (rFt (tCode L (tTake L 255 q).1 (tG3 L M q)).2), .int (rPl (tCode L (tTake L 255 q).1 (tG3 L M q)).2)])), (r, .inr (2, [.ref b, .int (nI L.length)])), (b, .inl (cB, cap, .inl f)), (w, .inr (1, [.ref a, .int (nI M.length), .int x, .int y, .int g, .int t])), (a, .inl (cI, 1024, .inl fw))] H := hP
    have hD : va_D A [(d, .inr (3, [.ref r, .int (nI (rNx (tCode L (tTake L 255 q).1 (tG3 L M q)).2)), .int (nI (rAn (tCode L (tTake L 255 q).1 (tG3 L M q)).2)), .int (rFt (tCode L (tTake L 255 q).1 (tG3 L M q)).2), .int (rPl (tCode L (tTake L 255 q).1 (tG3 L M q)).2)])), (r, .inr (2, [.ref b, .int (nI L.length)])), (b, .inl (cB, cap, .inl f)), (w, .inr (1, [.ref a, .int (nI M.length), .int x, .int y, .int g, .int t])), (a, .inl (cI, 1024, .inl fw))] := hD
    have e_58 := hw
    refine kt_i e_58 ?_
    refine kt_i (y := (tG4 L M q).1) (rfl) ?_
    refine lv_istore (lv' := [(5, .int (tG4 L M q).1), (0, .ref d), (1, .ref w), (2, .int (nI (rNx q))), (3, .int (tTake L 255 q).1), (4, .int (nI (kN (tTake L 255 q).1)))]) hx hb d_Rd_takeGroup_61 hl (by decide) rfl (fun ls hl => ?_)
    have hn4 : rAn (tCode L (tTake L 255 q).1 (tG3 L M q)).2 ≤ 63 := by rw [tG4_an]; exact hn
    refine lv_aload_n hx hb d_Rd_takeGroup_63 rfl (lv_at hl 1 rfl) ?_
    refine va_get (D := (dC, dI)) (ci := 3) (v := .int (nI (rAn (tCode L (tTake L 255 q).1 (tG3 L M q)).2))) (C := "DemoTape$Reader") (T := F_Rd) (N := 5) hx hb hts i_Rd hown hK hP 0 rfl rfl 2 (by decide) (hts _ mw92) (fun _ h9 => h9) rfl d_Rd_takeGroup_64 ?_
    refine lv_bipush (v := 63) hx hb d_Rd_takeGroup_67 (by decide) ?_
    refine lv_icmp_ge (tgt := 93) hx hb d_Rd_takeGroup_69 (by decide) (fun c_69 => ?_) (fun c_69 => ?_)
    · have n_69 := kn_le (a := 63) (b := rAn (tCode L (tTake L 255 q).1 (tG3 L M q)).2) c_69 rfl rfl (by omega) (by omega)
      exact J_93 (tCode L (tTake L 255 q).1 (tG3 L M q)).2 (by first | with_reducible assumption | omega) (by exact (tG5_n (fun z => absurd z.1 (by show ¬ rAn (tG4 L M q).2 < 63; exact Nat.not_lt.mpr n_69))).symm) _ _ (hP.sub [0, 1, 2, 3, 4] (rfl)) (hD.sub [0, 1, 2, 3, 4] (by decide) (rfl)) hS ls (lv_sub hl [1, 2, 3, 4, 5, 0] rfl)
    · have n_69 := kn_nle (a := 63) (b := rAn (tCode L (tTake L 255 q).1 (tG3 L M q)).2) c_69 rfl rfl (by omega) (by omega)
      refine lv_aload_n hx hb d_Rd_takeGroup_72 rfl (lv_at hl 2 rfl) ?_
      refine lv_aload_n hx hb d_Rd_takeGroup_73 rfl (lv_at hl 2 rfl) ?_
      refine kq_i (wr := [(d, .inr (3, [.ref r, .int (nI (rNx (tCode L (tTake L 255 q).1 (tG3 L M q)).2)), .int (nI (rAn (tCode L (tTake L 255 q).1 (tG3 L M q)).2)), .int (rFt (tCode L (tTake L 255 q).1 (tG3 L M q)).2), .int (rPl (tCode L (tTake L 255 q).1 (tG3 L M q)).2)])), (r, .inr (2, [.ref b, .int (nI L.length)])), (b, .inl (cB, cap, .inl f))]) (va_runV (As := []) (rest := [.ref w]) ⟨hx, hb, hml, hown, hts⟩ (c_Walk_count l dC dI cI cB cZ _ w a fw M x y g t ) (cwV 0 hts (gV mw325 mw153 mw154 mw26 mw155) rfl rfl rfl (by decide +kernel) ⟨Nat.le_of_ble_eq_true rfl, Nat.le_of_ble_eq_true rfl⟩) (kpV (wc := [(w, .inr (1, [.ref a, .int (nI M.length), .int x, .int y, .int g, .int t])), (a, .inl (cI, 1024, .inl fw))]) (q0 := 3) (ci := 1) hK hP hD [3, 4] rfl (by decide) rfl rfl rfl) rfl rfl hl.1 rfl (lv_room (Nat.le_of_ble_eq_true rfl)) d_Rd_takeGroup_74 ⟨Nat.le_of_ble_eq_true rfl, Nat.le_of_ble_eq_true rfl⟩) hP hD hS hA [3, 4] [0, 1, 2] [0, 1, 2, 3, 4] rfl rfl (by decide) (by decide) rfl (fun r_74 H locs hw hP hS => ?_)
      have e_74 := hw
      refine kt_i e_74 ?_
      refine lv_iconst (v := 1) hx hb d_Rd_takeGroup_77 (by decide) ?_
      refine lv_isub hx hb d_Rd_takeGroup_78 ?_
      refine kq_i (wr := [(d, .inr (3, [.ref r, .int (nI (rNx (tCode L (tTake L 255 q).1 (tG3 L M q)).2)), .int (nI (rAn (tCode L (tTake L 255 q).1 (tG3 L M q)).2)), .int (rFt (tCode L (tTake L 255 q).1 (tG3 L M q)).2), .int (rPl (tCode L (tTake L 255 q).1 (tG3 L M q)).2)])), (r, .inr (2, [.ref b, .int (nI L.length)])), (b, .inl (cB, cap, .inl f))]) (va_runV (As := [.int ((nI M.length) - 1)]) (rest := []) ⟨hx, hb, hml, hown, hts⟩ (c_Walk_codeAt l dC dI cI cB cZ _ w a fw M x y g t ((nI M.length) - 1) (by first | with_reducible assumption | omega | decide)) (cwV 1 hts (gV mw326 mw174 mw175 mw26 mw176) rfl rfl rfl (by decide +kernel) ⟨Nat.le_of_ble_eq_true rfl, Nat.le_of_ble_eq_true rfl⟩) (kpV (wc := [(w, .inr (1, [.ref a, .int (nI M.length), .int x, .int y, .int g, .int t])), (a, .inl (cI, 1024, .inl fw))]) (q0 := 3) (ci := 1) hK hP hD [3, 4] rfl (by decide) rfl rfl rfl) rfl rfl hl.1 rfl (lv_room (Nat.le_of_ble_eq_true rfl)) d_Rd_takeGroup_79 ⟨Nat.le_of_ble_eq_true rfl, Nat.le_of_ble_eq_true rfl⟩) hP hD hS hA [3, 4] [0, 1, 2] [0, 1, 2, 3, 4] rfl rfl (by decide) (by decide) rfl (fun r_79 H locs hw hP hS => ?_)
      have e_79 := hw
      refine kt_i e_79 ?_
      refine lv_iload hx hb d_Rd_takeGroup_82 (lv_at hl 0 rfl) ?_
      refine lv_icmp_ne (tgt := 93) hx hb d_Rd_takeGroup_84 (by decide) (fun c_84 => ?_) (fun c_84 => ?_)
      · exact J_93 (tCode L (tTake L 255 q).1 (tG3 L M q)).2 (by first | with_reducible assumption | omega) (by exact (tG5_n (fun z => c_84 z.2)).symm) _ _ (hP.sub [0, 1, 2, 3, 4] (rfl)) (hD.sub [0, 1, 2, 3, 4] (by decide) (rfl)) hS ls (lv_sub hl [1, 2, 3, 4, 5, 0] rfl)
      · refine lv_aload_n hx hb d_Rd_takeGroup_87 rfl (lv_at hl 1 rfl) ?_
        refine lv_iconst (v := 4) hx hb d_Rd_takeGroup_88 (by decide) ?_
        refine lv_iload_n hx hb d_Rd_takeGroup_89 rfl (lv_at hl 3 rfl) ?_
        refine kc_v (wr := [(r, .inr (2, [.ref b, .int (nI L.length)])), (b, .inl (cB, cap, .inl f)), (w, .inr (1, [.ref a, .int (nI M.length), .int x, .int y, .int g, .int t])), (a, .inl (cI, 1024, .inl fw))]) (w2 := fun (_ : Unit) => [(d, .inr (3, [.ref r, .int (nI (rNx (rFail 4 (nI (rNx q)) (tCode L (tTake L 255 q).1 (tG3 L M q)).2))), .int (nI (rAn (rFail 4 (nI (rNx q)) (tCode L (tTake L 255 q).1 (tG3 L M q)).2))), .int (rFt (rFail 4 (nI (rNx q)) (tCode L (tTake L 255 q).1 (tG3 L M q)).2)), .int (rPl (rFail 4 (nI (rNx q)) (tCode L (tTake L 255 q).1 (tG3 L M q)).2))])), (r, .inr (2, [.ref b, .int (nI L.length)])), (b, .inl (cB, cap, .inl f)), (w, .inr (1, [.ref a, .int (nI M.length), .int x, .int y, .int g, .int t])), (a, .inl (cI, 1024, .inl fw))]) (va_runV (As := [.int 4, .int (nI (rNx q))]) (rest := []) ⟨hx, hb, hml, hown, hts⟩ (c_Rd_fail l dC dI cI cB cZ _ d r (tCode L (tTake L 255 q).1 (tG3 L M q)).2 4 (nI (rNx q)) ) (cwV 2 hts (gV mw297 mw299 mw5 mw29 mw300) rfl rfl rfl (by decide +kernel) ⟨Nat.le_of_ble_eq_true rfl, Nat.le_of_ble_eq_true rfl⟩) (kpV (wc := [(d, .inr (3, [.ref r, .int (nI (rNx (tCode L (tTake L 255 q).1 (tG3 L M q)).2)), .int (nI (rAn (tCode L (tTake L 255 q).1 (tG3 L M q)).2)), .int (rFt (tCode L (tTake L 255 q).1 (tG3 L M q)).2), .int (rPl (tCode L (tTake L 255 q).1 (tG3 L M q)).2)]))]) (q0 := 0) (ci := 3) hK hP hD [0] rfl (by decide) rfl rfl rfl) rfl rfl hl.1 rfl (lv_room (Nat.le_of_ble_eq_true rfl)) d_Rd_takeGroup_90 ⟨Nat.le_of_ble_eq_true rfl, Nat.le_of_ble_eq_true rfl⟩) hP hD hS hA [0] [1, 2, 3, 4] [4, 0, 1, 2, 3] rfl rfl (by decide) (by decide) (fun _ => rfl) (by decide) (fun _ => rfl) (fun u9 H locs hw hP hD hS => ?_)
        have hP : va_P (dC, dI) classes [(d, .inr (3, [.ref r, .int (nI (rNx (rFail 4 (nI (rNx q)) (tCode L (tTake L 255 q).1 (tG3 L M q)).2))), .int (nI (rAn (rFail 4 (nI (rNx q)) (tCode L (tTake L 255 q).1 (tG3 L M q)).2))), .int (rFt (rFail 4 (nI (rNx q)) (tCode L (tTake L 255 q).1 (tG3 L M q)).2)), .int (rPl (rFail 4 (nI (rNx q)) (tCode L (tTake L 255 q).1 (tG3 L M q)).2))])), (r, .inr (2, [.ref b, .int (nI L.length)])), (b, .inl (cB, cap, .inl f)), (w, .inr (1, [.ref a, .int (nI M.length), .int x, .int y, .int g, .int t])), (a, .inl (cI, 1024, .inl fw))] H := hP
        have hD : va_D A [(d, .inr (3, [.ref r, .int (nI (rNx (rFail 4 (nI (rNx q)) (tCode L (tTake L 255 q).1 (tG3 L M q)).2))), .int (nI (rAn (rFail 4 (nI (rNx q)) (tCode L (tTake L 255 q).1 (tG3 L M q)).2))), .int (rFt (rFail 4 (nI (rNx q)) (tCode L (tTake L 255 q).1 (tG3 L M q)).2)), .int (rPl (rFail 4 (nI (rNx q)) (tCode L (tTake L 255 q).1 (tG3 L M q)).2))])), (r, .inr (2, [.ref b, .int (nI L.length)])), (b, .inl (cB, cap, .inl f)), (w, .inr (1, [.ref a, .int (nI M.length), .int x, .int y, .int g, .int t])), (a, .inl (cI, 1024, .inl fw))] := hD
        exact J_93 (rFail 4 (nI (rNx q)) (tCode L (tTake L 255 q).1 (tG3 L M q)).2) (by first | with_reducible assumption | omega) (by exact (tG5_y ⟨n_69, c_84⟩).symm) _ _ (hP.sub [0, 1, 2, 3, 4] (rfl)) (hD.sub [0, 1, 2, 3, 4] (by decide) (rfl)) hS ls (lv_sub hl [1, 2, 3, 4, 5, 0] rfl)
  have J_41 : ∀ (z2 : RS), (¬ ((tTake L 255 q).1 = -1 ∨ (tTake L 255 q).1 = 0)) → (z2 = tG2 L q) → ∀ (H : Heap) (locs : List Loc), va_P (dC, dI) classes [(d, .inr (3, [.ref r, .int (nI (rNx z2)), .int (nI (rAn z2)), .int (rFt z2), .int (rPl z2)])), (r, .inr (2, [.ref b, .int (nI L.length)])), (b, .inl (cB, cap, .inl f)), (w, .inr (1, [.ref a, .int (nI M.length), .int x, .int y, .int g, .int t])), (a, .inl (cI, 1024, .inl fw))] H → va_D A [(d, .inr (3, [.ref r, .int (nI (rNx z2)), .int (nI (rAn z2)), .int (rFt z2), .int (rPl z2)])), (r, .inr (2, [.ref b, .int (nI L.length)])), (b, .inl (cB, cap, .inl f)), (w, .inr (1, [.ref a, .int (nI M.length), .int x, .int y, .int g, .int t])), (a, .inl (cI, 1024, .inl fw))] → va_S A s.heap H locs → ∀ (ls : Array Slot), lv_has ls 6 [(0, .ref d), (1, .ref w), (2, .int (nI (rNx q))), (3, .int (tTake L 255 q).1), (4, .int (nI (kN (tTake L 255 q).1)))] → W p l e (headSpec w_Rd_takeGroup ({ frames := 3, cells := 0, slots := 0, locals := 70 })).room s m [.ref d, .ref w].toArray below meth c H locs 0 0 (MQ below (Qc_Rd_takeGroup dC dI cI cB cZ d r q b cap f L w a fw M x y g t A) [.ref d, .ref w].toArray s 0 0 A) (F0 m 41 ls []) := by
    intro z2 hb1 h2 H locs hP hD hS ls hl
    refine lv_iload hx hb d_Rd_takeGroup_41 (lv_at hl 4 rfl) ?_
    refine lv_aload_n hx hb d_Rd_takeGroup_43 rfl (lv_at hl 1 rfl) ?_
    refine kq_i (wr := [(d, .inr (3, [.ref r, .int (nI (rNx z2)), .int (nI (rAn z2)), .int (rFt z2), .int (rPl z2)])), (r, .inr (2, [.ref b, .int (nI L.length)])), (b, .inl (cB, cap, .inl f))]) (va_runV (As := []) (rest := [.int (nI (kN (tTake L 255 q).1))]) ⟨hx, hb, hml, hown, hts⟩ (c_Walk_room l dC dI cI cB cZ _ w a fw M x y g t (by first | with_reducible assumption | omega | decide)) (cwV 0 hts (gV mw319 mw138 mw139 mw26 mw140) rfl rfl rfl (by decide +kernel) ⟨Nat.le_of_ble_eq_true rfl, Nat.le_of_ble_eq_true rfl⟩) (kpV (wc := [(w, .inr (1, [.ref a, .int (nI M.length), .int x, .int y, .int g, .int t])), (a, .inl (cI, 1024, .inl fw))]) (q0 := 3) (ci := 1) hK hP hD [3, 4] rfl (by decide) rfl rfl rfl) rfl rfl hl.1 rfl (lv_room (Nat.le_of_ble_eq_true rfl)) d_Rd_takeGroup_44 ⟨Nat.le_of_ble_eq_true rfl, Nat.le_of_ble_eq_true rfl⟩) hP hD hS hA [3, 4] [0, 1, 2] [0, 1, 2, 3, 4] rfl rfl (by decide) (by decide) rfl (fun r_44 H locs hw hP hS => ?_)
    have e_44 := hw
    refine kt_i e_44 ?_
    refine lv_icmp_le (tgt := 56) hx hb d_Rd_takeGroup_47 (by decide) (fun c_47 => ?_) (fun c_47 => ?_)
    · have n_47 := kn_le (a := kN (tTake L 255 q).1) (b := 1024 - M.length) c_47 rfl rfl (by omega) (by omega)
      exact J_56 z2 (by first | with_reducible assumption | omega) (by rw [h2]; exact (tG3_y n_47).symm) _ _ (hP.sub [0, 1, 2, 3, 4] (rfl)) (hD.sub [0, 1, 2, 3, 4] (by decide) (rfl)) hS ls (lv_sub hl [0, 1, 2, 3, 4] rfl)
    · have n_47 := kn_nle (a := kN (tTake L 255 q).1) (b := 1024 - M.length) c_47 rfl rfl (by omega) (by omega)
      refine lv_aload_n hx hb d_Rd_takeGroup_50 rfl (lv_at hl 0 rfl) ?_
      refine lv_iconst (v := 5) hx hb d_Rd_takeGroup_51 (by decide) ?_
      refine lv_iload_n hx hb d_Rd_takeGroup_52 rfl (lv_at hl 2 rfl) ?_
      refine kc_v (wr := [(r, .inr (2, [.ref b, .int (nI L.length)])), (b, .inl (cB, cap, .inl f)), (w, .inr (1, [.ref a, .int (nI M.length), .int x, .int y, .int g, .int t])), (a, .inl (cI, 1024, .inl fw))]) (w2 := fun (_ : Unit) => [(d, .inr (3, [.ref r, .int (nI (rNx (rFail 5 (nI (rNx q)) z2))), .int (nI (rAn (rFail 5 (nI (rNx q)) z2))), .int (rFt (rFail 5 (nI (rNx q)) z2)), .int (rPl (rFail 5 (nI (rNx q)) z2))])), (r, .inr (2, [.ref b, .int (nI L.length)])), (b, .inl (cB, cap, .inl f)), (w, .inr (1, [.ref a, .int (nI M.length), .int x, .int y, .int g, .int t])), (a, .inl (cI, 1024, .inl fw))]) (va_runV (As := [.int 5, .int (nI (rNx q))]) (rest := []) ⟨hx, hb, hml, hown, hts⟩ (c_Rd_fail l dC dI cI cB cZ _ d r z2 5 (nI (rNx q)) ) (cwV 2 hts (gV mw297 mw299 mw5 mw29 mw300) rfl rfl rfl (by decide +kernel) ⟨Nat.le_of_ble_eq_true rfl, Nat.le_of_ble_eq_true rfl⟩) (kpV (wc := [(d, .inr (3, [.ref r, .int (nI (rNx z2)), .int (nI (rAn z2)), .int (rFt z2), .int (rPl z2)]))]) (q0 := 0) (ci := 3) hK hP hD [0] rfl (by decide) rfl rfl rfl) rfl rfl hl.1 rfl (lv_room (Nat.le_of_ble_eq_true rfl)) d_Rd_takeGroup_53 ⟨Nat.le_of_ble_eq_true rfl, Nat.le_of_ble_eq_true rfl⟩) hP hD hS hA [0] [1, 2, 3, 4] [4, 0, 1, 2, 3] rfl rfl (by decide) (by decide) (fun _ => rfl) (by decide) (fun _ => rfl) (fun u9 H locs hw hP hD hS => ?_)
      have hP : va_P (dC, dI) classes [(d, .inr (3, [.ref r, .int (nI (rNx (rFail 5 (nI (rNx q)) z2))), .int (nI (rAn (rFail 5 (nI (rNx q)) z2))), .int (rFt (rFail 5 (nI (rNx q)) z2)), .int (rPl (rFail 5 (nI (rNx q)) z2))])), (r, .inr (2, [.ref b, .int (nI L.length)])), (b, .inl (cB, cap, .inl f)), (w, .inr (1, [.ref a, .int (nI M.length), .int x, .int y, .int g, .int t])), (a, .inl (cI, 1024, .inl fw))] H := hP
      have hD : va_D A [(d, .inr (3, [.ref r, .int (nI (rNx (rFail 5 (nI (rNx q)) z2))), .int (nI (rAn (rFail 5 (nI (rNx q)) z2))), .int (rFt (rFail 5 (nI (rNx q)) z2)), .int (rPl (rFail 5 (nI (rNx q)) z2))])), (r, .inr (2, [.ref b, .int (nI L.length)])), (b, .inl (cB, cap, .inl f)), (w, .inr (1, [.ref a, .int (nI M.length), .int x, .int y, .int g, .int t])), (a, .inl (cI, 1024, .inl fw))] := hD
      exact J_56 (rFail 5 (nI (rNx q)) z2) (by first | with_reducible assumption | omega) (by rw [h2]; exact (tG3_n n_47).symm) _ _ (hP.sub [0, 1, 2, 3, 4] (rfl)) (hD.sub [0, 1, 2, 3, 4] (by decide) (rfl)) hS ls (lv_sub hl [0, 1, 2, 3, 4] rfl)
  refine lv_aload_n hx hb d_Rd_takeGroup_0 rfl (lv_at hl 0 rfl) ?_
  refine va_get (D := (dC, dI)) (ci := 3) (v := .int (nI (rNx q))) (C := "DemoTape$Reader") (T := F_Rd) (N := 5) hx hb hts i_Rd hown hK hP 0 rfl rfl 1 (by decide) (hts _ mw91) (fun _ h9 => h9) rfl d_Rd_takeGroup_1 ?_
  refine lv_istore_n (lv' := [(2, .int (nI (rNx q))), (0, .ref d), (1, .ref w)]) hx hb d_Rd_takeGroup_4 rfl hl (by decide) rfl (fun ls hl => ?_)
  refine lv_aload_n hx hb d_Rd_takeGroup_5 rfl (lv_at hl 1 rfl) ?_
  refine lv_sipush (v := 255) hx hb d_Rd_takeGroup_6 (by decide) ?_
  refine kc_i (wr := [(w, .inr (1, [.ref a, .int (nI M.length), .int x, .int y, .int g, .int t])), (a, .inl (cI, 1024, .inl fw))]) (w2 := fun (_ : Unit) => [(d, .inr (3, [.ref r, .int (nI (rNx (tTake L 255 q).2)), .int (nI (rAn (tTake L 255 q).2)), .int (rFt (tTake L 255 q).2), .int (rPl (tTake L 255 q).2)])), (r, .inr (2, [.ref b, .int (nI L.length)])), (b, .inl (cB, cap, .inl f)), (w, .inr (1, [.ref a, .int (nI M.length), .int x, .int y, .int g, .int t])), (a, .inl (cI, 1024, .inl fw))]) (va_runV (As := [.int 255]) (rest := []) ⟨hx, hb, hml, hown, hts⟩ (c_Rd_take l dC dI cI cB cZ _ d r q b cap f L 255 (by first | with_reducible assumption | omega | decide) (by first | with_reducible assumption | omega | decide)) (cwV 1 hts (gV mw292 mw294 mw4 mw29 mw295) rfl rfl rfl (by decide +kernel) ⟨Nat.le_of_ble_eq_true rfl, Nat.le_of_ble_eq_true rfl⟩) (kpV (wc := [(d, .inr (3, [.ref r, .int (nI (rNx q)), .int (nI (rAn q)), .int (rFt q), .int (rPl q)])), (r, .inr (2, [.ref b, .int (nI L.length)])), (b, .inl (cB, cap, .inl f))]) (q0 := 0) (ci := 3) hK hP hD [0, 1, 2] rfl (by decide) rfl rfl rfl) rfl rfl hl.1 rfl (lv_room (Nat.le_of_ble_eq_true rfl)) d_Rd_takeGroup_9 ⟨Nat.le_of_ble_eq_true rfl, Nat.le_of_ble_eq_true rfl⟩) hP hD hS hA [0, 1, 2] [3, 4] [2, 3, 4, 0, 1] rfl rfl (by decide) (by decide) (fun _ => rfl) (by decide) (fun _ => rfl) (fun r_9 u9 H locs hw hP hD hS => ?_)
  have hP : va_P (dC, dI) classes [(d, .inr (3, [.ref r, .int (nI (rNx (tTake L 255 q).2)), .int (nI (rAn (tTake L 255 q).2)), .int (rFt (tTake L 255 q).2), .int (rPl (tTake L 255 q).2)])), (r, .inr (2, [.ref b, .int (nI L.length)])), (b, .inl (cB, cap, .inl f)), (w, .inr (1, [.ref a, .int (nI M.length), .int x, .int y, .int g, .int t])), (a, .inl (cI, 1024, .inl fw))] H := hP
  have hD : va_D A [(d, .inr (3, [.ref r, .int (nI (rNx (tTake L 255 q).2)), .int (nI (rAn (tTake L 255 q).2)), .int (rFt (tTake L 255 q).2), .int (rPl (tTake L 255 q).2)])), (r, .inr (2, [.ref b, .int (nI L.length)])), (b, .inl (cB, cap, .inl f)), (w, .inr (1, [.ref a, .int (nI M.length), .int x, .int y, .int g, .int t])), (a, .inl (cI, 1024, .inl fw))] := hD
  have e_9 := hw
  refine kt_i e_9 ?_
  refine lv_istore_n (lv' := [(3, .int (tTake L 255 q).1), (2, .int (nI (rNx q))), (0, .ref d), (1, .ref w)]) hx hb d_Rd_takeGroup_12 rfl hl (by decide) rfl (fun ls hl => ?_)
  refine lv_iload_n hx hb d_Rd_takeGroup_13 rfl (lv_at hl 0 rfl) ?_
  refine lv_iconst (v := -1) hx hb d_Rd_takeGroup_14 (by decide) ?_
  refine lv_icmp_eq (tgt := 22) hx hb d_Rd_takeGroup_15 (by decide) (fun c_15 => ?_) (fun c_15 => ?_)
  · refine lv_iconst (v := 0) hx hb d_Rd_takeGroup_22 (by decide) ?_
    exact kr_i (v := 0) fw hx hb hr (by decide) hK (hP.sub [0, 1, 2, 3, 4] (by rw [tGroup_0 (Or.inl c_15)]; first | done | rfl)) (hD.sub [0, 1, 2, 3, 4] (by decide) (by rw [tGroup_0 (Or.inl c_15)]; first | done | rfl)) hS ⟨by rw [tGroup_0 (Or.inl c_15)], by rw [tGroup_0 (Or.inl c_15)]; exact hW⟩ d_Rd_takeGroup_23 hlocks
  · refine lv_iload_n hx hb d_Rd_takeGroup_18 rfl (lv_at hl 0 rfl) ?_
    refine lv_if_ne (tgt := 24) hx hb d_Rd_takeGroup_19 (by decide) (fun c_19 => ?_) (fun c_19 => ?_)
    · refine lv_iload_n hx hb d_Rd_takeGroup_24 rfl (lv_at hl 0 rfl) ?_
      refine lv_bipush (v := 63) hx hb d_Rd_takeGroup_25 (by decide) ?_
      refine lv_iand hx hb d_Rd_takeGroup_27 ?_
      refine kt_i (y := nI (kN (tTake L 255 q).1)) (kN_eq _) ?_
      refine lv_istore (lv' := [(4, .int (nI (kN (tTake L 255 q).1))), (3, .int (tTake L 255 q).1), (2, .int (nI (rNx q))), (0, .ref d), (1, .ref w)]) hx hb d_Rd_takeGroup_28 hl (by decide) rfl (fun ls hl => ?_)
      refine lv_iload hx hb d_Rd_takeGroup_30 (lv_at hl 0 rfl) ?_
      refine lv_if_ne (tgt := 41) hx hb d_Rd_takeGroup_32 (by decide) (fun c_32 => ?_) (fun c_32 => ?_)
      · have n_32 := kn_ne (a := kN (tTake L 255 q).1) (b := 0) c_32 rfl rfl (by omega) (by omega)
        exact J_41 (tTake L 255 q).2 (fun z => z.elim c_15 c_19) ((tG2_n n_32).symm) _ _ (hP.sub [0, 1, 2, 3, 4] (rfl)) (hD.sub [0, 1, 2, 3, 4] (by decide) (rfl)) hS ls (lv_sub hl [3, 4, 2, 1, 0] rfl)
      · have n_32 := kn_eq (a := kN (tTake L 255 q).1) (b := 0) (by first | exact c_32 | exact Decidable.not_not.mp c_32) rfl rfl (by omega) (by omega)
        refine lv_aload_n hx hb d_Rd_takeGroup_35 rfl (lv_at hl 3 rfl) ?_
        refine lv_iconst (v := 3) hx hb d_Rd_takeGroup_36 (by decide) ?_
        refine lv_iload_n hx hb d_Rd_takeGroup_37 rfl (lv_at hl 2 rfl) ?_
        refine kc_v (wr := [(r, .inr (2, [.ref b, .int (nI L.length)])), (b, .inl (cB, cap, .inl f)), (w, .inr (1, [.ref a, .int (nI M.length), .int x, .int y, .int g, .int t])), (a, .inl (cI, 1024, .inl fw))]) (w2 := fun (_ : Unit) => [(d, .inr (3, [.ref r, .int (nI (rNx (rFail 3 (nI (rNx q)) (tTake L 255 q).2))), .int (nI (rAn (rFail 3 (nI (rNx q)) (tTake L 255 q).2))), .int (rFt (rFail 3 (nI (rNx q)) (tTake L 255 q).2)), .int (rPl (rFail 3 (nI (rNx q)) (tTake L 255 q).2))])), (r, .inr (2, [.ref b, .int (nI L.length)])), (b, .inl (cB, cap, .inl f)), (w, .inr (1, [.ref a, .int (nI M.length), .int x, .int y, .int g, .int t])), (a, .inl (cI, 1024, .inl fw))]) (va_runV (As := [.int 3, .int (nI (rNx q))]) (rest := []) ⟨hx, hb, hml, hown, hts⟩ (c_Rd_fail l dC dI cI cB cZ _ d r (tTake L 255 q).2 3 (nI (rNx q)) ) (cwV 2 hts (gV mw297 mw299 mw5 mw29 mw300) rfl rfl rfl (by decide +kernel) ⟨Nat.le_of_ble_eq_true rfl, Nat.le_of_ble_eq_true rfl⟩) (kpV (wc := [(d, .inr (3, [.ref r, .int (nI (rNx (tTake L 255 q).2)), .int (nI (rAn (tTake L 255 q).2)), .int (rFt (tTake L 255 q).2), .int (rPl (tTake L 255 q).2)]))]) (q0 := 0) (ci := 3) hK hP hD [0] rfl (by decide) rfl rfl rfl) rfl rfl hl.1 rfl (lv_room (Nat.le_of_ble_eq_true rfl)) d_Rd_takeGroup_38 ⟨Nat.le_of_ble_eq_true rfl, Nat.le_of_ble_eq_true rfl⟩) hP hD hS hA [0] [1, 2, 3, 4] [4, 0, 1, 2, 3] rfl rfl (by decide) (by decide) (fun _ => rfl) (by decide) (fun _ => rfl) (fun u9 H locs hw hP hD hS => ?_)
        have hP : va_P (dC, dI) classes [(d, .inr (3, [.ref r, .int (nI (rNx (rFail 3 (nI (rNx q)) (tTake L 255 q).2))), .int (nI (rAn (rFail 3 (nI (rNx q)) (tTake L 255 q).2))), .int (rFt (rFail 3 (nI (rNx q)) (tTake L 255 q).2)), .int (rPl (rFail 3 (nI (rNx q)) (tTake L 255 q).2))])), (r, .inr (2, [.ref b, .int (nI L.length)])), (b, .inl (cB, cap, .inl f)), (w, .inr (1, [.ref a, .int (nI M.length), .int x, .int y, .int g, .int t])), (a, .inl (cI, 1024, .inl fw))] H := hP
        have hD : va_D A [(d, .inr (3, [.ref r, .int (nI (rNx (rFail 3 (nI (rNx q)) (tTake L 255 q).2))), .int (nI (rAn (rFail 3 (nI (rNx q)) (tTake L 255 q).2))), .int (rFt (rFail 3 (nI (rNx q)) (tTake L 255 q).2)), .int (rPl (rFail 3 (nI (rNx q)) (tTake L 255 q).2))])), (r, .inr (2, [.ref b, .int (nI L.length)])), (b, .inl (cB, cap, .inl f)), (w, .inr (1, [.ref a, .int (nI M.length), .int x, .int y, .int g, .int t])), (a, .inl (cI, 1024, .inl fw))] := hD
        exact J_41 (rFail 3 (nI (rNx q)) (tTake L 255 q).2) (fun z => z.elim c_15 c_19) ((tG2_y n_32).symm) _ _ (hP.sub [0, 1, 2, 3, 4] (rfl)) (hD.sub [0, 1, 2, 3, 4] (by decide) (rfl)) hS ls (lv_sub hl [3, 4, 2, 1, 0] rfl)
    · refine lv_iconst (v := 0) hx hb d_Rd_takeGroup_22 (by decide) ?_
      exact kr_i (v := 0) fw hx hb hr (by decide) hK (hP.sub [0, 1, 2, 3, 4] (by rw [tGroup_0 (Or.inr c_19)]; first | done | rfl)) (hD.sub [0, 1, 2, 3, 4] (by decide) (by rw [tGroup_0 (Or.inr c_19)]; first | done | rfl)) hS ⟨by rw [tGroup_0 (Or.inr c_19)], by rw [tGroup_0 (Or.inr c_19)]; exact hW⟩ d_Rd_takeGroup_23 hlocks
abbrev Qc_Rd_takeGroups (dC : Nat → ClassId) (dI : Nat → Nat → Nat) (cI cB cZ : ClassId) (d : Nat) (r : Nat) (q : RS) (b : Nat) (cap : Nat) (f : Nat → Int32) (L : List Nat) (w : Nat) (a : Nat) (fw : Nat → Int32) (M : List Int32) (x : Int32) (y : Int32) (g : Int32) (t : Int32) (A : Nat → Prop) := va_Qv (fun (u9 : (Nat → Int32)) => (WRow u9 (tGroups L 1025 M q).1)) (ka (dC, dI) classes [(cI, .int), (cB, .byte), (cZ, .boolean)] (fun (u9 : (Nat → Int32)) => [(d, .inr (3, [.ref r, .int (nI (rNx (tGroups L 1025 M q).2)), .int (nI (rAn (tGroups L 1025 M q).2)), .int (rFt (tGroups L 1025 M q).2), .int (rPl (tGroups L 1025 M q).2)])), (r, .inr (2, [.ref b, .int (nI L.length)])), (b, .inl (cB, cap, .inl f)), (w, .inr (1, [.ref a, .int (nI (tGroups L 1025 M q).1.length), .int x, .int y, .int g, .int t])), (a, .inl (cI, 1024, .inl u9))]) A) A
set_option maxHeartbeats 1000000 in
set_option maxRecDepth 100000 in
/-- Reader.takeGroups -/
theorem c_Rd_takeGroups (l : Launch) (dC : Nat → ClassId) (dI : Nat → Nat → Nat) (cI cB cZ : ClassId) (sz : Nat) (d : Nat) (r : Nat) (q : RS) (b : Nat) (cap : Nat) (f : Nat → Int32) (L : List Nat) (w : Nat) (a : Nat) (fw : Nat → Int32) (M : List Int32) (x : Int32) (y : Int32) (g : Int32) (t : Int32) (hB : BRow cap f L) (hq : rNx q ≤ L.length) (hW : WRow fw M) (hn : rAn q ≤ 63) : Met l y_Rd_takeGroups w_Rd_takeGroups ({ frames := 4, cells := 0, slots := 0, locals := 95 }) (va_Pc [.ref d, .ref w] (kp (dC, dI) classes [(cI, .int), (cB, .byte), (cZ, .boolean)] [(d, .inr (3, [.ref r, .int (nI (rNx q)), .int (nI (rAn q)), .int (rFt q), .int (rPl q)])), (r, .inr (2, [.ref b, .int (nI L.length)])), (b, .inl (cB, cap, .inl f)), (w, .inr (1, [.ref a, .int (nI M.length), .int x, .int y, .int g, .int t])), (a, .inl (cI, 1024, .inl fw))] sz)) (Qc_Rd_takeGroups dC dI cI cB cZ d r q b cap f L w a fw M x y g t (va_A [(d, .inr (3, [.ref r, .int (nI (rNx q)), .int (nI (rAn q)), .int (rFt q), .int (rPl q)])), (r, .inr (2, [.ref b, .int (nI L.length)])), (b, .inl (cB, cap, .inl f)), (w, .inr (1, [.ref a, .int (nI M.length), .int x, .int y, .int g, .int t])), (a, .inl (cI, 1024, .inl fw))] sz)) 0 0 (va_A [(d, .inr (3, [.ref r, .int (nI (rNx q)), .int (nI (rAn q)), .int (rFt q), .int (rPl q)])), (r, .inr (2, [.ref b, .int (nI L.length)])), (b, .inl (cB, cap, .inl f)), (w, .inr (1, [.ref a, .int (nI M.length), .int x, .int y, .int g, .int t])), (a, .inl (cI, 1024, .inl fw))] sz) := by
  refine Met.ofW (cc := prog_4_method_11_code) (maxL := 4) (ret := none) (by decide) rfl ?_
  intro p e s m args below meth c s₁ B hml hv
  obtain ⟨rfl, hsz, hP, hK, hD0⟩ := hv
  have hx := B.exec
  have hb := B.bytes
  have hr := B.returns
  have hts := fun w h => atoms_spec (ws := w_Rd_takeGroups) B.pre w (List.mem_cons_of_mem _ h)
  have hown : s.vm.findClass "DemoTape$Reader" = some m.cls := findClass_of_methodNamed B.named
  have hlocks := B.notSynchronized
  subst hsz
  have hD := hD0.self (sz := s.heap.size)
  generalize hAe : va_A ([(d, .inr (3, [.ref r, .int (nI (rNx q)), .int (nI (rAn q)), .int (rFt q), .int (rPl q)])), (r, .inr (2, [.ref b, .int (nI L.length)])), (b, .inl (cB, cap, .inl f)), (w, .inr (1, [.ref a, .int (nI M.length), .int x, .int y, .int g, .int t])), (a, .inl (cI, 1024, .inl fw))] : va_W) s.heap.size = A at hD ⊢
  have hA : ∀ q : Nat, s.heap.size ≤ q → A q := fun q h => by rw [← hAe]; exact Or.inr h
  have hS : va_S A s.heap s.heap [] := va_S.rf
  have hP : va_P (dC, dI) classes [(d, .inr (3, [.ref r, .int (nI (rNx q)), .int (nI (rAn q)), .int (rFt q), .int (rPl q)])), (r, .inr (2, [.ref b, .int (nI L.length)])), (b, .inl (cB, cap, .inl f)), (w, .inr (1, [.ref a, .int (nI M.length), .int x, .int y, .int g, .int t])), (a, .inl (cI, 1024, .inl fw))] s.heap := hP
  have hL : L.length ≤ 8192 := Nat.le_trans hB.2.2.1 hB.2.2.2
  have hl := lv_entry ([.ref d, .ref w]) (n := 4) (Nat.le_of_ble_eq_true rfl)
  rw [lg_entry_eq]
  generalize (lg_sl ([.ref d, .ref w]) ++ List.replicate (4 - (lg_sl ([.ref d, .ref w])).length) Slot.unset).toArray = ls at hl ⊢
  have hl : lv_has ls 4 [(0, .ref d), (1, .ref w)] := hl
  have J_4 : ∀ (fuel : Nat) (go9 : Int32) (n9 : Nat) (M9 : List Int32) (f9 : Nat → Int32) (q9 : RS), (1025 - n9 < fuel) → (n9 ≤ 1025) → (tGroups L 1025 M q = if go9 = 0 then (M9, q9) else tGroups L (1025 - n9) M9 q9) → (WRow f9 M9) → (rNx q9 ≤ L.length) → (rAn q9 ≤ 63) → ∀ (H : Heap) (locs : List Loc), va_P (dC, dI) classes [(d, .inr (3, [.ref r, .int (nI (rNx q9)), .int (nI (rAn q9)), .int (rFt q9), .int (rPl q9)])), (r, .inr (2, [.ref b, .int (nI L.length)])), (b, .inl (cB, cap, .inl f)), (w, .inr (1, [.ref a, .int (nI M9.length), .int x, .int y, .int g, .int t])), (a, .inl (cI, 1024, .inl f9))] H → va_D A [(d, .inr (3, [.ref r, .int (nI (rNx q9)), .int (nI (rAn q9)), .int (rFt q9), .int (rPl q9)])), (r, .inr (2, [.ref b, .int (nI L.length)])), (b, .inl (cB, cap, .inl f)), (w, .inr (1, [.ref a, .int (nI M9.length), .int x, .int y, .int g, .int t])), (a, .inl (cI, 1024, .inl f9))] → va_S A s.heap H locs → ∀ (ls : Array Slot), lv_has ls 4 [(0, .ref d), (1, .ref w), (2, .int go9), (3, .int (nI n9))] → W p l e (headSpec w_Rd_takeGroups ({ frames := 4, cells := 0, slots := 0, locals := 95 })).room s m [.ref d, .ref w].toArray below meth c H locs 0 0 (MQ below (Qc_Rd_takeGroups dC dI cI cB cZ d r q b cap f L w a fw M x y g t A) [.ref d, .ref w].toArray s 0 0 A) (F0 m 4 ls []) := by
    intro fuel
    induction fuel with
    | zero => intro go9 n9 M9 f9 q9 hm; exact absurd hm (Nat.not_lt_zero _)
    | succ fuel ih_4 =>
      intro go9 n9 M9 f9 q9 hm hn9 he hW9 hq9 ha9 H locs hP hD hS ls hl
      refine lv_iload_n hx hb d_Rd_takeGroups_4 rfl (lv_at hl 2 rfl) ?_
      refine lv_if_eq (tgt := 27) hx hb d_Rd_takeGroups_5 (by decide) (fun c_5 => ?_) (fun c_5 => ?_)
      · have e9 : tGroups L 1025 M q = (M9, q9) := by rw [he, if_pos c_5]
        exact kr_v f9 hx hb hr hK (hP.sub [0, 1, 2, 3, 4] (by rw [e9]; first | done | rfl)) (hD.sub [0, 1, 2, 3, 4] (by decide) (by rw [e9]; first | done | rfl)) hS (by rw [e9]; exact hW9) d_Rd_takeGroups_27 hlocks
      · refine lv_iload_n hx hb d_Rd_takeGroups_8 rfl (lv_at hl 3 rfl) ?_
        refine lv_sipush (v := 1024) hx hb d_Rd_takeGroups_9 (by decide) ?_
        refine lv_icmp_gt (tgt := 27) hx hb d_Rd_takeGroups_12 (by decide) (fun c_12 => ?_) (fun c_12 => ?_)
        · have n_12 := kn_lt (a := 1024) (b := n9) c_12 rfl rfl (by omega) (by omega)
          have e9 : tGroups L 1025 M q = (M9, q9) := by rw [he, if_neg c_5, show 1025 - n9 = 0 by omega]; rfl
          exact kr_v f9 hx hb hr hK (hP.sub [0, 1, 2, 3, 4] (by rw [e9]; first | done | rfl)) (hD.sub [0, 1, 2, 3, 4] (by decide) (by rw [e9]; first | done | rfl)) hS (by rw [e9]; exact hW9) d_Rd_takeGroups_27 hlocks
        · have n_12 := kn_nlt (a := 1024) (b := n9) c_12 rfl rfl (by omega) (by omega)
          refine lv_aload_n hx hb d_Rd_takeGroups_15 rfl (lv_at hl 0 rfl) ?_
          refine lv_aload_n hx hb d_Rd_takeGroups_16 rfl (lv_at hl 1 rfl) ?_
          refine kc_i (wr := []) (w2 := fun (u9 : (Nat → Int32)) => [(d, .inr (3, [.ref r, .int (nI (rNx (tGroup L M9 q9).2.2)), .int (nI (rAn (tGroup L M9 q9).2.2)), .int (rFt (tGroup L M9 q9).2.2), .int (rPl (tGroup L M9 q9).2.2)])), (r, .inr (2, [.ref b, .int (nI L.length)])), (b, .inl (cB, cap, .inl f)), (w, .inr (1, [.ref a, .int (nI (tGroup L M9 q9).2.1.length), .int x, .int y, .int g, .int t])), (a, .inl (cI, 1024, .inl u9))]) (va_runV (As := [.ref w]) (rest := []) ⟨hx, hb, hml, hown, hts⟩ (c_Rd_takeGroup l dC dI cI cB cZ _ d r q9 b cap f L w a f9 M9 x y g t (by first | with_reducible assumption | omega | decide) (by first | with_reducible assumption | omega | decide) (by first | with_reducible assumption | omega | decide) (by first | with_reducible assumption | omega | decide)) (cwV 1 hts (gV mw315 mw317 mw9 mw29 mw318) rfl rfl rfl (by decide +kernel) ⟨Nat.le_of_ble_eq_true rfl, Nat.le_of_ble_eq_true rfl⟩) (kpV (wc := [(d, .inr (3, [.ref r, .int (nI (rNx q9)), .int (nI (rAn q9)), .int (rFt q9), .int (rPl q9)])), (r, .inr (2, [.ref b, .int (nI L.length)])), (b, .inl (cB, cap, .inl f)), (w, .inr (1, [.ref a, .int (nI M9.length), .int x, .int y, .int g, .int t])), (a, .inl (cI, 1024, .inl f9))]) (q0 := 0) (ci := 3) hK hP hD [0, 1, 2, 3, 4] rfl (by decide) rfl rfl rfl) rfl rfl hl.1 rfl (lv_room (Nat.le_of_ble_eq_true rfl)) d_Rd_takeGroups_17 ⟨Nat.le_of_ble_eq_true rfl, Nat.le_of_ble_eq_true rfl⟩) hP hD hS hA [0, 1, 2, 3, 4] [] [0, 1, 2, 3, 4] rfl rfl (by decide) (by decide) (fun _ => rfl) (by decide) (fun _ => rfl) (fun r_17 u9 H locs hw hP hD hS => ?_)
          obtain ⟨fw1_17, rfl⟩ : ∃ z, z = u9 := ⟨_, rfl⟩
          try dsimp only at hw
          have hP : va_P (dC, dI) classes [(d, .inr (3, [.ref r, .int (nI (rNx (tGroup L M9 q9).2.2)), .int (nI (rAn (tGroup L M9 q9).2.2)), .int (rFt (tGroup L M9 q9).2.2), .int (rPl (tGroup L M9 q9).2.2)])), (r, .inr (2, [.ref b, .int (nI L.length)])), (b, .inl (cB, cap, .inl f)), (w, .inr (1, [.ref a, .int (nI (tGroup L M9 q9).2.1.length), .int x, .int y, .int g, .int t])), (a, .inl (cI, 1024, .inl fw1_17))] H := hP
          have hD : va_D A [(d, .inr (3, [.ref r, .int (nI (rNx (tGroup L M9 q9).2.2)), .int (nI (rAn (tGroup L M9 q9).2.2)), .int (rFt (tGroup L M9 q9).2.2), .int (rPl (tGroup L M9 q9).2.2)])), (r, .inr (2, [.ref b, .int (nI L.length)])), (b, .inl (cB, cap, .inl f)), (w, .inr (1, [.ref a, .int (nI (tGroup L M9 q9).2.1.length), .int x, .int y, .int g, .int t])), (a, .inl (cI, 1024, .inl fw1_17))] := hD
          obtain ⟨e_17, hW_17⟩ := hw
          refine kt_i e_17 ?_
          refine lv_istore_n (lv' := [(2, .int (tGroup L M9 q9).1), (0, .ref d), (1, .ref w), (3, .int (nI n9))]) hx hb d_Rd_takeGroups_20 rfl hl (by decide) rfl (fun ls hl => ?_)
          refine lv_iinc (v := nI (n9 + 1)) (lv' := [(3, .int (nI (n9 + 1))), (2, .int (tGroup L M9 q9).1), (0, .ref d), (1, .ref w)]) hx hb d_Rd_takeGroups_21 hl (k := 3) rfl (by first | rfl | exact nI_1 _) (by decide) rfl (fun ls hl => ?_)
          refine lv_goto (tgt := 4) hx hb d_Rd_takeGroups_24 (by decide) ?_
          exact ih_4 (tGroup L M9 q9).1 (n9 + 1) (tGroup L M9 q9).2.1 fw1_17 (tGroup L M9 q9).2.2 (by omega) (by first | with_reducible assumption | omega) (by rw [he, if_neg c_5]; exact tGroups_step (by omega)) (hW_17) (tGroup_nx hq9 hL) (tGroup_an ha9) _ _ (hP.sub [0, 1, 2, 3, 4] (rfl)) (hD.sub [0, 1, 2, 3, 4] (by decide) (rfl)) hS ls (lv_sub hl [2, 3, 1, 0] rfl)
  refine lv_iconst (v := 1) hx hb d_Rd_takeGroups_0 (by decide) ?_
  refine lv_istore_n (lv' := [(2, .int 1), (0, .ref d), (1, .ref w)]) hx hb d_Rd_takeGroups_1 rfl hl (by decide) rfl (fun ls hl => ?_)
  refine lv_iconst (v := 0) hx hb d_Rd_takeGroups_2 (by decide) ?_
  refine lv_istore_n (lv' := [(3, .int 0), (2, .int 1), (0, .ref d), (1, .ref w)]) hx hb d_Rd_takeGroups_3 rfl hl (by decide) rfl (fun ls hl => ?_)
  exact J_4 _ 1 0 M fw q (Nat.lt_succ_self _) (by first | with_reducible assumption | omega) ((if_neg (by decide)).symm) (hW) (hq) (hn) _ _ (hP.sub [0, 1, 2, 3, 4] (rfl)) (hD.sub [0, 1, 2, 3, 4] (by decide) (rfl)) hS ls (lv_sub hl [2, 3, 1, 0] rfl)
end
section
abbrev Qc_Rd_takeStart (dC : Nat → ClassId) (dI : Nat → Nat → Nat) (cI cB cZ : ClassId) (d : Nat) (r : Nat) (q : RS) (b : Nat) (cap : Nat) (f : Nat → Int32) (L : List Nat) (w : Nat) (a : Nat) (fw : Nat → Int32) (M : List Int32) (x : Int32) (y : Int32) (g : Int32) (t : Int32) (A : Nat → Prop) := va_Qv (fun (_ : Unit) => True) (ka (dC, dI) classes [(cI, .int), (cB, .byte), (cZ, .boolean)] (fun (_ : Unit) => [(d, .inr (3, [.ref r, .int (nI (rNx (tS4 L q))), .int (nI (rAn (tS4 L q))), .int (rFt (tS4 L q)), .int (rPl (tS4 L q))])), (r, .inr (2, [.ref b, .int (nI L.length)])), (b, .inl (cB, cap, .inl f)), (w, .inr (1, [.ref a, .int (nI M.length), .int (tPlace L q).1, .int (tPlace L (tS1 L q)).1, .int (tTake L 63 (tS2 L q)).1, .int (tTake L 255 (tS3 L q)).1])), (a, .inl (cI, 1024, .inl fw))]) A) A
set_option maxHeartbeats 1000000 in
set_option maxRecDepth 100000 in
/-- Reader.takeStart -/
theorem c_Rd_takeStart (l : Launch) (dC : Nat → ClassId) (dI : Nat → Nat → Nat) (cI cB cZ : ClassId) (sz : Nat) (d : Nat) (r : Nat) (q : RS) (b : Nat) (cap : Nat) (f : Nat → Int32) (L : List Nat) (w : Nat) (a : Nat) (fw : Nat → Int32) (M : List Int32) (x : Int32) (y : Int32) (g : Int32) (t : Int32) (hB : BRow cap f L) (hq : rNx q ≤ L.length) : Met l y_Rd_takeStart w_Rd_takeStart ({ frames := 3, cells := 0, slots := 0, locals := 67 }) (va_Pc [.ref d, .ref w] (kp (dC, dI) classes [(cI, .int), (cB, .byte), (cZ, .boolean)] [(d, .inr (3, [.ref r, .int (nI (rNx q)), .int (nI (rAn q)), .int (rFt q), .int (rPl q)])), (r, .inr (2, [.ref b, .int (nI L.length)])), (b, .inl (cB, cap, .inl f)), (w, .inr (1, [.ref a, .int (nI M.length), .int x, .int y, .int g, .int t])), (a, .inl (cI, 1024, .inl fw))] sz)) (Qc_Rd_takeStart dC dI cI cB cZ d r q b cap f L w a fw M x y g t (va_A [(d, .inr (3, [.ref r, .int (nI (rNx q)), .int (nI (rAn q)), .int (rFt q), .int (rPl q)])), (r, .inr (2, [.ref b, .int (nI L.length)])), (b, .inl (cB, cap, .inl f)), (w, .inr (1, [.ref a, .int (nI M.length), .int x, .int y, .int g, .int t])), (a, .inl (cI, 1024, .inl fw))] sz)) 0 0 (va_A [(d, .inr (3, [.ref r, .int (nI (rNx q)), .int (nI (rAn q)), .int (rFt q), .int (rPl q)])), (r, .inr (2, [.ref b, .int (nI L.length)])), (b, .inl (cB, cap, .inl f)), (w, .inr (1, [.ref a, .int (nI M.length), .int x, .int y, .int g, .int t])), (a, .inl (cI, 1024, .inl fw))] sz) := by
  refine Met.ofW (cc := prog_4_method_9_code) (maxL := 6) (ret := none) (by decide) rfl ?_
  intro p e s m args below meth c s₁ B hml hv
  obtain ⟨rfl, hsz, hP, hK, hD0⟩ := hv
  have hx := B.exec
  have hb := B.bytes
  have hr := B.returns
  have hts := fun w h => atoms_spec (ws := w_Rd_takeStart) B.pre w (List.mem_cons_of_mem _ h)
  have hown : s.vm.findClass "DemoTape$Reader" = some m.cls := findClass_of_methodNamed B.named
  have hlocks := B.notSynchronized
  subst hsz
  have hD := hD0.self (sz := s.heap.size)
  generalize hAe : va_A ([(d, .inr (3, [.ref r, .int (nI (rNx q)), .int (nI (rAn q)), .int (rFt q), .int (rPl q)])), (r, .inr (2, [.ref b, .int (nI L.length)])), (b, .inl (cB, cap, .inl f)), (w, .inr (1, [.ref a, .int (nI M.length), .int x, .int y, .int g, .int t])), (a, .inl (cI, 1024, .inl fw))] : va_W) s.heap.size = A at hD ⊢
  have hA : ∀ q : Nat, s.heap.size ≤ q → A q := fun q h => by rw [← hAe]; exact Or.inr h
  have hS : va_S A s.heap s.heap [] := va_S.rf
  have hP : va_P (dC, dI) classes [(d, .inr (3, [.ref r, .int (nI (rNx q)), .int (nI (rAn q)), .int (rFt q), .int (rPl q)])), (r, .inr (2, [.ref b, .int (nI L.length)])), (b, .inl (cB, cap, .inl f)), (w, .inr (1, [.ref a, .int (nI M.length), .int x, .int y, .int g, .int t])), (a, .inl (cI, 1024, .inl fw))] s.heap := hP
  have hL : L.length ≤ 8192 := Nat.le_trans hB.2.2.1 hB.2.2.2
  have hl := lv_entry ([.ref d, .ref w]) (n := 6) (Nat.le_of_ble_eq_true rfl)
  rw [lg_entry_eq]
  generalize (lg_sl ([.ref d, .ref w]) ++ List.replicate (6 - (lg_sl ([.ref d, .ref w])).length) Slot.unset).toArray = ls at hl ⊢
  have hl : lv_has ls 6 [(0, .ref d), (1, .ref w)] := hl
  refine lv_aload_n hx hb d_Rd_takeStart_0 rfl (lv_at hl 0 rfl) ?_
  refine kc_i (wr := [(w, .inr (1, [.ref a, .int (nI M.length), .int x, .int y, .int g, .int t])), (a, .inl (cI, 1024, .inl fw))]) (w2 := fun (_ : Unit) => [(d, .inr (3, [.ref r, .int (nI (rNx (tPlace L q).2)), .int (nI (rAn (tPlace L q).2)), .int (rFt (tPlace L q).2), .int (rPl (tPlace L q).2)])), (r, .inr (2, [.ref b, .int (nI L.length)])), (b, .inl (cB, cap, .inl f)), (w, .inr (1, [.ref a, .int (nI M.length), .int x, .int y, .int g, .int t])), (a, .inl (cI, 1024, .inl fw))]) (va_runV (As := []) (rest := []) ⟨hx, hb, hml, hown, hts⟩ (c_Rd_takePlace l dC dI cI cB cZ _ d r q b cap f L (by first | with_reducible assumption | omega | decide) (by first | with_reducible assumption | omega | decide)) (cwV 0 hts (gV mw305 mw307 mw7 mw29 mw308) rfl rfl rfl (by decide +kernel) ⟨Nat.le_of_ble_eq_true rfl, Nat.le_of_ble_eq_true rfl⟩) (kpV (wc := [(d, .inr (3, [.ref r, .int (nI (rNx q)), .int (nI (rAn q)), .int (rFt q), .int (rPl q)])), (r, .inr (2, [.ref b, .int (nI L.length)])), (b, .inl (cB, cap, .inl f))]) (q0 := 0) (ci := 3) hK hP hD [0, 1, 2] rfl (by decide) rfl rfl rfl) rfl rfl hl.1 rfl (lv_room (Nat.le_of_ble_eq_true rfl)) d_Rd_takeStart_1 ⟨Nat.le_of_ble_eq_true rfl, Nat.le_of_ble_eq_true rfl⟩) hP hD hS hA [0, 1, 2] [3, 4] [2, 3, 4, 0, 1] rfl rfl (by decide) (by decide) (fun _ => rfl) (by decide) (fun _ => rfl) (fun r_1 u9 H locs hw hP hD hS => ?_)
  have hP : va_P (dC, dI) classes [(d, .inr (3, [.ref r, .int (nI (rNx (tPlace L q).2)), .int (nI (rAn (tPlace L q).2)), .int (rFt (tPlace L q).2), .int (rPl (tPlace L q).2)])), (r, .inr (2, [.ref b, .int (nI L.length)])), (b, .inl (cB, cap, .inl f)), (w, .inr (1, [.ref a, .int (nI M.length), .int x, .int y, .int g, .int t])), (a, .inl (cI, 1024, .inl fw))] H := hP
  have hD : va_D A [(d, .inr (3, [.ref r, .int (nI (rNx (tPlace L q).2)), .int (nI (rAn (tPlace L q).2)), .int (rFt (tPlace L q).2), .int (rPl (tPlace L q).2)])), (r, .inr (2, [.ref b, .int (nI L.length)])), (b, .inl (cB, cap, .inl f)), (w, .inr (1, [.ref a, .int (nI M.length), .int x, .int y, .int g, .int t])), (a, .inl (cI, 1024, .inl fw))] := hD
  have e_1 := hw
  refine kt_i e_1 ?_
  have e9_1 : (tPlace L q).2 = (tS1 L q) := tS1_def _ _
  rw [e9_1] at hP hD 
  have hP : va_P (dC, dI) classes [(d, .inr (3, [.ref r, .int (nI (rNx (tS1 L q))), .int (nI (rAn (tS1 L q))), .int (rFt (tS1 L q)), .int (rPl (tS1 L q))])), (r, .inr (2, [.ref b, .int (nI L.length)])), (b, .inl (cB, cap, .inl f)), (w, .inr (1, [.ref a, .int (nI M.length), .int x, .int y, .int g, .int t])), (a, .inl (cI, 1024, .inl fw))] H := hP
  have hD : va_D A [(d, .inr (3, [.ref r, .int (nI (rNx (tS1 L q))), .int (nI (rAn (tS1 L q))), .int (rFt (tS1 L q)), .int (rPl (tS1 L q))])), (r, .inr (2, [.ref b, .int (nI L.length)])), (b, .inl (cB, cap, .inl f)), (w, .inr (1, [.ref a, .int (nI M.length), .int x, .int y, .int g, .int t])), (a, .inl (cI, 1024, .inl fw))] := hD
  refine lv_istore_n (lv' := [(2, .int (tPlace L q).1), (0, .ref d), (1, .ref w)]) hx hb d_Rd_takeStart_4 rfl hl (by decide) rfl (fun ls hl => ?_)
  refine lv_aload_n hx hb d_Rd_takeStart_5 rfl (lv_at hl 1 rfl) ?_
  refine kc_i (wr := [(w, .inr (1, [.ref a, .int (nI M.length), .int x, .int y, .int g, .int t])), (a, .inl (cI, 1024, .inl fw))]) (w2 := fun (_ : Unit) => [(d, .inr (3, [.ref r, .int (nI (rNx (tPlace L (tS1 L q)).2)), .int (nI (rAn (tPlace L (tS1 L q)).2)), .int (rFt (tPlace L (tS1 L q)).2), .int (rPl (tPlace L (tS1 L q)).2)])), (r, .inr (2, [.ref b, .int (nI L.length)])), (b, .inl (cB, cap, .inl f)), (w, .inr (1, [.ref a, .int (nI M.length), .int x, .int y, .int g, .int t])), (a, .inl (cI, 1024, .inl fw))]) (va_runV (As := []) (rest := []) ⟨hx, hb, hml, hown, hts⟩ (c_Rd_takePlace l dC dI cI cB cZ _ d r (tS1 L q) b cap f L (by first | with_reducible assumption | omega | decide) (tS1_nx hq hL)) (cwV 0 hts (gV mw305 mw307 mw7 mw29 mw308) rfl rfl rfl (by decide +kernel) ⟨Nat.le_of_ble_eq_true rfl, Nat.le_of_ble_eq_true rfl⟩) (kpV (wc := [(d, .inr (3, [.ref r, .int (nI (rNx (tS1 L q))), .int (nI (rAn (tS1 L q))), .int (rFt (tS1 L q)), .int (rPl (tS1 L q))])), (r, .inr (2, [.ref b, .int (nI L.length)])), (b, .inl (cB, cap, .inl f))]) (q0 := 0) (ci := 3) hK hP hD [0, 1, 2] rfl (by decide) rfl rfl rfl) rfl rfl hl.1 rfl (lv_room (Nat.le_of_ble_eq_true rfl)) d_Rd_takeStart_6 ⟨Nat.le_of_ble_eq_true rfl, Nat.le_of_ble_eq_true rfl⟩) hP hD hS hA [0, 1, 2] [3, 4] [2, 3, 4, 0, 1] rfl rfl (by decide) (by decide) (fun _ => rfl) (by decide) (fun _ => rfl) (fun r_6 u9 H locs hw hP hD hS => ?_)
  have hP : va_P (dC, dI) classes [(d, .inr (3, [.ref r, .int (nI (rNx (tPlace L (tS1 L q)).2)), .int (nI (rAn (tPlace L (tS1 L q)).2)), .int (rFt (tPlace L (tS1 L q)).2), .int (rPl (tPlace L (tS1 L q)).2)])), (r, .inr (2, [.ref b, .int (nI L.length)])), (b, .inl (cB, cap, .inl f)), (w, .inr (1, [.ref a, .int (nI M.length), .int x, .int y, .int g, .int t])), (a, .inl (cI, 1024, .inl fw))] H := hP
  have hD : va_D A [(d, .inr (3, [.ref r, .int (nI (rNx (tPlace L (tS1 L q)).2)), .int (nI (rAn (tPlace L (tS1 L q)).2)), .int (rFt (tPlace L (tS1 L q)).2), .int (rPl (tPlace L (tS1 L q)).2)])), (r, .inr (2, [.ref b, .int (nI L.length)])), (b, .inl (cB, cap, .inl f)), (w, .inr (1, [.ref a, .int (nI M.length), .int x, .int y, .int g, .int t])), (a, .inl (cI, 1024, .inl fw))] := hD
  have e_6 := hw
  refine kt_i e_6 ?_
  have e9_6 : (tPlace L (tS1 L q)).2 = (tS2 L q) := tS2_def _ _
  rw [e9_6] at hP hD 
  have hP : va_P (dC, dI) classes [(d, .inr (3, [.ref r, .int (nI (rNx (tS2 L q))), .int (nI (rAn (tS2 L q))), .int (rFt (tS2 L q)), .int (rPl (tS2 L q))])), (r, .inr (2, [.ref b, .int (nI L.length)])), (b, .inl (cB, cap, .inl f)), (w, .inr (1, [.ref a, .int (nI M.length), .int x, .int y, .int g, .int t])), (a, .inl (cI, 1024, .inl fw))] H := hP
  have hD : va_D A [(d, .inr (3, [.ref r, .int (nI (rNx (tS2 L q))), .int (nI (rAn (tS2 L q))), .int (rFt (tS2 L q)), .int (rPl (tS2 L q))])), (r, .inr (2, [.ref b, .int (nI L.length)])), (b, .inl (cB, cap, .inl f)), (w, .inr (1, [.ref a, .int (nI M.length), .int x, .int y, .int g, .int t])), (a, .inl (cI, 1024, .inl fw))] := hD
  refine lv_istore_n (lv' := [(3, .int (tPlace L (tS1 L q)).1), (2, .int (tPlace L q).1), (0, .ref d), (1, .ref w)]) hx hb d_Rd_takeStart_9 rfl hl (by decide) rfl (fun ls hl => ?_)
  refine lv_aload_n hx hb d_Rd_takeStart_10 rfl (lv_at hl 2 rfl) ?_
  refine lv_bipush (v := 63) hx hb d_Rd_takeStart_11 (by decide) ?_
  refine kc_i (wr := [(w, .inr (1, [.ref a, .int (nI M.length), .int x, .int y, .int g, .int t])), (a, .inl (cI, 1024, .inl fw))]) (w2 := fun (_ : Unit) => [(d, .inr (3, [.ref r, .int (nI (rNx (tTake L 63 (tS2 L q)).2)), .int (nI (rAn (tTake L 63 (tS2 L q)).2)), .int (rFt (tTake L 63 (tS2 L q)).2), .int (rPl (tTake L 63 (tS2 L q)).2)])), (r, .inr (2, [.ref b, .int (nI L.length)])), (b, .inl (cB, cap, .inl f)), (w, .inr (1, [.ref a, .int (nI M.length), .int x, .int y, .int g, .int t])), (a, .inl (cI, 1024, .inl fw))]) (va_runV (As := [.int 63]) (rest := []) ⟨hx, hb, hml, hown, hts⟩ (c_Rd_take l dC dI cI cB cZ _ d r (tS2 L q) b cap f L 63 (by first | with_reducible assumption | omega | decide) (tS2_nx hq hL)) (cwV 1 hts (gV mw292 mw294 mw4 mw29 mw295) rfl rfl rfl (by decide +kernel) ⟨Nat.le_of_ble_eq_true rfl, Nat.le_of_ble_eq_true rfl⟩) (kpV (wc := [(d, .inr (3, [.ref r, .int (nI (rNx (tS2 L q))), .int (nI (rAn (tS2 L q))), .int (rFt (tS2 L q)), .int (rPl (tS2 L q))])), (r, .inr (2, [.ref b, .int (nI L.length)])), (b, .inl (cB, cap, .inl f))]) (q0 := 0) (ci := 3) hK hP hD [0, 1, 2] rfl (by decide) rfl rfl rfl) rfl rfl hl.1 rfl (lv_room (Nat.le_of_ble_eq_true rfl)) d_Rd_takeStart_13 ⟨Nat.le_of_ble_eq_true rfl, Nat.le_of_ble_eq_true rfl⟩) hP hD hS hA [0, 1, 2] [3, 4] [2, 3, 4, 0, 1] rfl rfl (by decide) (by decide) (fun _ => rfl) (by decide) (fun _ => rfl) (fun r_13 u9 H locs hw hP hD hS => ?_)
  have hP : va_P (dC, dI) classes [(d, .inr (3, [.ref r, .int (nI (rNx (tTake L 63 (tS2 L q)).2)), .int (nI (rAn (tTake L 63 (tS2 L q)).2)), .int (rFt (tTake L 63 (tS2 L q)).2), .int (rPl (tTake L 63 (tS2 L q)).2)])), (r, .inr (2, [.ref b, .int (nI L.length)])), (b, .inl (cB, cap, .inl f)), (w, .inr (1, [.ref a, .int (nI M.length), .int x, .int y, .int g, .int t])), (a, .inl (cI, 1024, .inl fw))] H := hP
  have hD : va_D A [(d, .inr (3, [.ref r, .int (nI (rNx (tTake L 63 (tS2 L q)).2)), .int (nI (rAn (tTake L 63 (tS2 L q)).2)), .int (rFt (tTake L 63 (tS2 L q)).2), .int (rPl (tTake L 63 (tS2 L q)).2)])), (r, .inr (2, [.ref b, .int (nI L.length)])), (b, .inl (cB, cap, .inl f)), (w, .inr (1, [.ref a, .int (nI M.length), .int x, .int y, .int g, .int t])), (a, .inl (cI, 1024, .inl fw))] := hD
  have e_13 := hw
  refine kt_i e_13 ?_
  have e9_13 : (tTake L 63 (tS2 L q)).2 = (tS3 L q) := tS3_def _ _
  rw [e9_13] at hP hD 
  have hP : va_P (dC, dI) classes [(d, .inr (3, [.ref r, .int (nI (rNx (tS3 L q))), .int (nI (rAn (tS3 L q))), .int (rFt (tS3 L q)), .int (rPl (tS3 L q))])), (r, .inr (2, [.ref b, .int (nI L.length)])), (b, .inl (cB, cap, .inl f)), (w, .inr (1, [.ref a, .int (nI M.length), .int x, .int y, .int g, .int t])), (a, .inl (cI, 1024, .inl fw))] H := hP
  have hD : va_D A [(d, .inr (3, [.ref r, .int (nI (rNx (tS3 L q))), .int (nI (rAn (tS3 L q))), .int (rFt (tS3 L q)), .int (rPl (tS3 L q))])), (r, .inr (2, [.ref b, .int (nI L.length)])), (b, .inl (cB, cap, .inl f)), (w, .inr (1, [.ref a, .int (nI M.length), .int x, .int y, .int g, .int t])), (a, .inl (cI, 1024, .inl fw))] := hD
  refine lv_istore (lv' := [(4, .int (tTake L 63 (tS2 L q)).1), (3, .int (tPlace L (tS1 L q)).1), (2, .int (tPlace L q).1), (0, .ref d), (1, .ref w)]) hx hb d_Rd_takeStart_16 hl (by decide) rfl (fun ls hl => ?_)
  refine lv_aload_n hx hb d_Rd_takeStart_18 rfl (lv_at hl 3 rfl) ?_
  refine lv_sipush (v := 255) hx hb d_Rd_takeStart_19 (by decide) ?_
  refine kc_i (wr := [(w, .inr (1, [.ref a, .int (nI M.length), .int x, .int y, .int g, .int t])), (a, .inl (cI, 1024, .inl fw))]) (w2 := fun (_ : Unit) => [(d, .inr (3, [.ref r, .int (nI (rNx (tTake L 255 (tS3 L q)).2)), .int (nI (rAn (tTake L 255 (tS3 L q)).2)), .int (rFt (tTake L 255 (tS3 L q)).2), .int (rPl (tTake L 255 (tS3 L q)).2)])), (r, .inr (2, [.ref b, .int (nI L.length)])), (b, .inl (cB, cap, .inl f)), (w, .inr (1, [.ref a, .int (nI M.length), .int x, .int y, .int g, .int t])), (a, .inl (cI, 1024, .inl fw))]) (va_runV (As := [.int 255]) (rest := []) ⟨hx, hb, hml, hown, hts⟩ (c_Rd_take l dC dI cI cB cZ _ d r (tS3 L q) b cap f L 255 (by first | with_reducible assumption | omega | decide) (tS3_nx hq hL)) (cwV 1 hts (gV mw292 mw294 mw4 mw29 mw295) rfl rfl rfl (by decide +kernel) ⟨Nat.le_of_ble_eq_true rfl, Nat.le_of_ble_eq_true rfl⟩) (kpV (wc := [(d, .inr (3, [.ref r, .int (nI (rNx (tS3 L q))), .int (nI (rAn (tS3 L q))), .int (rFt (tS3 L q)), .int (rPl (tS3 L q))])), (r, .inr (2, [.ref b, .int (nI L.length)])), (b, .inl (cB, cap, .inl f))]) (q0 := 0) (ci := 3) hK hP hD [0, 1, 2] rfl (by decide) rfl rfl rfl) rfl rfl hl.1 rfl (lv_room (Nat.le_of_ble_eq_true rfl)) d_Rd_takeStart_22 ⟨Nat.le_of_ble_eq_true rfl, Nat.le_of_ble_eq_true rfl⟩) hP hD hS hA [0, 1, 2] [3, 4] [2, 3, 4, 0, 1] rfl rfl (by decide) (by decide) (fun _ => rfl) (by decide) (fun _ => rfl) (fun r_22 u9 H locs hw hP hD hS => ?_)
  have hP : va_P (dC, dI) classes [(d, .inr (3, [.ref r, .int (nI (rNx (tTake L 255 (tS3 L q)).2)), .int (nI (rAn (tTake L 255 (tS3 L q)).2)), .int (rFt (tTake L 255 (tS3 L q)).2), .int (rPl (tTake L 255 (tS3 L q)).2)])), (r, .inr (2, [.ref b, .int (nI L.length)])), (b, .inl (cB, cap, .inl f)), (w, .inr (1, [.ref a, .int (nI M.length), .int x, .int y, .int g, .int t])), (a, .inl (cI, 1024, .inl fw))] H := hP
  have hD : va_D A [(d, .inr (3, [.ref r, .int (nI (rNx (tTake L 255 (tS3 L q)).2)), .int (nI (rAn (tTake L 255 (tS3 L q)).2)), .int (rFt (tTake L 255 (tS3 L q)).2), .int (rPl (tTake L 255 (tS3 L q)).2)])), (r, .inr (2, [.ref b, .int (nI L.length)])), (b, .inl (cB, cap, .inl f)), (w, .inr (1, [.ref a, .int (nI M.length), .int x, .int y, .int g, .int t])), (a, .inl (cI, 1024, .inl fw))] := hD
  have e_22 := hw
  refine kt_i e_22 ?_
  have e9_22 : (tTake L 255 (tS3 L q)).2 = (tS4 L q) := tS4_def _ _
  rw [e9_22] at hP hD 
  have hP : va_P (dC, dI) classes [(d, .inr (3, [.ref r, .int (nI (rNx (tS4 L q))), .int (nI (rAn (tS4 L q))), .int (rFt (tS4 L q)), .int (rPl (tS4 L q))])), (r, .inr (2, [.ref b, .int (nI L.length)])), (b, .inl (cB, cap, .inl f)), (w, .inr (1, [.ref a, .int (nI M.length), .int x, .int y, .int g, .int t])), (a, .inl (cI, 1024, .inl fw))] H := hP
  have hD : va_D A [(d, .inr (3, [.ref r, .int (nI (rNx (tS4 L q))), .int (nI (rAn (tS4 L q))), .int (rFt (tS4 L q)), .int (rPl (tS4 L q))])), (r, .inr (2, [.ref b, .int (nI L.length)])), (b, .inl (cB, cap, .inl f)), (w, .inr (1, [.ref a, .int (nI M.length), .int x, .int y, .int g, .int t])), (a, .inl (cI, 1024, .inl fw))] := hD
  refine lv_istore (lv' := [(5, .int (tTake L 255 (tS3 L q)).1), (4, .int (tTake L 63 (tS2 L q)).1), (3, .int (tPlace L (tS1 L q)).1), (2, .int (tPlace L q).1), (0, .ref d), (1, .ref w)]) hx hb d_Rd_takeStart_25 hl (by decide) rfl (fun ls hl => ?_)
  refine lv_aload_n hx hb d_Rd_takeStart_27 rfl (lv_at hl 5 rfl) ?_
  refine lv_iload_n hx hb d_Rd_takeStart_28 rfl (lv_at hl 3 rfl) ?_
  refine lv_iload_n hx hb d_Rd_takeStart_29 rfl (lv_at hl 2 rfl) ?_
  refine lv_iload hx hb d_Rd_takeStart_30 (lv_at hl 1 rfl) ?_
  refine lv_iload hx hb d_Rd_takeStart_32 (lv_at hl 0 rfl) ?_
  refine kc_v (wr := [(d, .inr (3, [.ref r, .int (nI (rNx (tS4 L q))), .int (nI (rAn (tS4 L q))), .int (rFt (tS4 L q)), .int (rPl (tS4 L q))])), (r, .inr (2, [.ref b, .int (nI L.length)])), (b, .inl (cB, cap, .inl f))]) (w2 := fun (_ : Unit) => [(d, .inr (3, [.ref r, .int (nI (rNx (tS4 L q))), .int (nI (rAn (tS4 L q))), .int (rFt (tS4 L q)), .int (rPl (tS4 L q))])), (r, .inr (2, [.ref b, .int (nI L.length)])), (b, .inl (cB, cap, .inl f)), (w, .inr (1, [.ref a, .int (nI M.length), .int (tPlace L q).1, .int (tPlace L (tS1 L q)).1, .int (tTake L 63 (tS2 L q)).1, .int (tTake L 255 (tS3 L q)).1])), (a, .inl (cI, 1024, .inl fw))]) (va_runV (As := [.int (tPlace L q).1, .int (tPlace L (tS1 L q)).1, .int (tTake L 63 (tS2 L q)).1, .int (tTake L 255 (tS3 L q)).1]) (rest := []) ⟨hx, hb, hml, hown, hts⟩ (c_Walk_setStart l dC dI cI cB cZ _ w a fw M x y g t (tPlace L q).1 (tPlace L (tS1 L q)).1 (tTake L 63 (tS2 L q)).1 (tTake L 255 (tS3 L q)).1 ) (cwV 4 hts (gV mw310 mw130 mw131 mw26 mw132) rfl rfl rfl (by decide +kernel) ⟨Nat.le_of_ble_eq_true rfl, Nat.le_of_ble_eq_true rfl⟩) (kpV (wc := [(w, .inr (1, [.ref a, .int (nI M.length), .int x, .int y, .int g, .int t])), (a, .inl (cI, 1024, .inl fw))]) (q0 := 3) (ci := 1) hK hP hD [3, 4] rfl (by decide) rfl rfl rfl) rfl rfl hl.1 rfl (lv_room (Nat.le_of_ble_eq_true rfl)) d_Rd_takeStart_34 ⟨Nat.le_of_ble_eq_true rfl, Nat.le_of_ble_eq_true rfl⟩) hP hD hS hA [3, 4] [0, 1, 2] [0, 1, 2, 3, 4] rfl rfl (by decide) (by decide) (fun _ => rfl) (by decide) (fun _ => rfl) (fun u9 H locs hw hP hD hS => ?_)
  have hP : va_P (dC, dI) classes [(d, .inr (3, [.ref r, .int (nI (rNx (tS4 L q))), .int (nI (rAn (tS4 L q))), .int (rFt (tS4 L q)), .int (rPl (tS4 L q))])), (r, .inr (2, [.ref b, .int (nI L.length)])), (b, .inl (cB, cap, .inl f)), (w, .inr (1, [.ref a, .int (nI M.length), .int (tPlace L q).1, .int (tPlace L (tS1 L q)).1, .int (tTake L 63 (tS2 L q)).1, .int (tTake L 255 (tS3 L q)).1])), (a, .inl (cI, 1024, .inl fw))] H := hP
  have hD : va_D A [(d, .inr (3, [.ref r, .int (nI (rNx (tS4 L q))), .int (nI (rAn (tS4 L q))), .int (rFt (tS4 L q)), .int (rPl (tS4 L q))])), (r, .inr (2, [.ref b, .int (nI L.length)])), (b, .inl (cB, cap, .inl f)), (w, .inr (1, [.ref a, .int (nI M.length), .int (tPlace L q).1, .int (tPlace L (tS1 L q)).1, .int (tTake L 63 (tS2 L q)).1, .int (tTake L 255 (tS3 L q)).1])), (a, .inl (cI, 1024, .inl fw))] := hD
  exact kr_v () hx hb hr hK (hP.sub [0, 1, 2, 3, 4] (rfl)) (hD.sub [0, 1, 2, 3, 4] (by decide) (rfl)) hS trivial d_Rd_takeStart_37 hlocks
end
section
abbrev Qc_Rd_readInto (dC : Nat → ClassId) (dI : Nat → Nat → Nat) (cI cB cZ : ClassId) (tM : Nat) (d : Nat) (r : Nat) (q : RS) (b : Nat) (cap : Nat) (f : Nat → Int32) (L : List Nat) (w : Nat) (a : Nat) (fw : Nat → Int32) (M : List Int32) (x : Int32) (y : Int32) (g : Int32) (t : Int32) (A : Nat → Prop) := va_Qv (fun (u9 : (Nat → Int32)) => (WRow u9 (tRead L).1)) (ka (dC, dI) classes [(cI, .int), (cB, .byte), (cZ, .boolean)] (fun (u9 : (Nat → Int32)) => [(d, .inr (3, [.ref r, .int (nI (rNx (tRead L).2)), .int (nI (rAn (tRead L).2)), .int (rFt (tRead L).2), .int (rPl (tRead L).2)])), (r, .inr (2, [.ref b, .int (nI L.length)])), (b, .inl (cB, cap, .inl f)), (w, .inr (1, [.ref a, .int (nI (tRead L).1.length), .int (tPlace L (tQ1 L)).1, .int (tPlace L (tS1 L (tQ1 L))).1, .int (tTake L 63 (tS2 L (tQ1 L))).1, .int (tTake L 255 (tS3 L (tQ1 L))).1])), (a, .inl (cI, 1024, .inl u9))]) A) A
set_option maxHeartbeats 1000000 in
set_option maxRecDepth 100000 in
/-- Reader.readInto -/
theorem c_Rd_readInto (l : Launch) (dC : Nat → ClassId) (dI : Nat → Nat → Nat) (cI cB cZ : ClassId) (sz : Nat) (tM : Nat) (d : Nat) (r : Nat) (q : RS) (b : Nat) (cap : Nat) (f : Nat → Int32) (L : List Nat) (w : Nat) (a : Nat) (fw : Nat → Int32) (M : List Int32) (x : Int32) (y : Int32) (g : Int32) (t : Int32) (hB : BRow cap f L) : Met l y_Rd_readInto w_Rd_readInto ({ frames := 5, cells := 0, slots := 0, locals := 118 }) (va_Pc [.ref d, .ref w] (kps (dC, dI) classes [(cI, .int), (cB, .byte), (cZ, .boolean)] [(d, .inr (3, [.ref r, .int (nI (rNx q)), .int (nI (rAn q)), .int (rFt q), .int (rPl q)])), (r, .inr (2, [.ref b, .int (nI L.length)])), (b, .inl (cB, cap, .inl f)), (w, .inr (1, [.ref a, .int (nI M.length), .int x, .int y, .int g, .int t])), (a, .inl (cI, 1024, .inl fw))] sz tM)) (Qc_Rd_readInto dC dI cI cB cZ tM d r q b cap f L w a fw M x y g t (va_A [(d, .inr (3, [.ref r, .int (nI (rNx q)), .int (nI (rAn q)), .int (rFt q), .int (rPl q)])), (r, .inr (2, [.ref b, .int (nI L.length)])), (b, .inl (cB, cap, .inl f)), (w, .inr (1, [.ref a, .int (nI M.length), .int x, .int y, .int g, .int t])), (a, .inl (cI, 1024, .inl fw))] sz)) 0 0 (va_A [(d, .inr (3, [.ref r, .int (nI (rNx q)), .int (nI (rAn q)), .int (rFt q), .int (rPl q)])), (r, .inr (2, [.ref b, .int (nI L.length)])), (b, .inl (cB, cap, .inl f)), (w, .inr (1, [.ref a, .int (nI M.length), .int x, .int y, .int g, .int t])), (a, .inl (cI, 1024, .inl fw))] sz) := by
  refine Met.ofW (cc := prog_4_method_4_code) (maxL := 2) (ret := none) (by decide) rfl ?_
  intro p e s m args below meth c s₁ B hml hv
  obtain ⟨rfl, ⟨hsz, hP, hK, hD0⟩, hMk⟩ := hv
  have hx := B.exec
  have hb := B.bytes
  have hr := B.returns
  have hts := fun w h => atoms_spec (ws := w_Rd_readInto) B.pre w (List.mem_cons_of_mem _ h)
  have hown : s.vm.findClass "DemoTape$Reader" = some m.cls := findClass_of_methodNamed B.named
  have hlocks := B.notSynchronized
  subst hsz
  have hD := hD0.self (sz := s.heap.size)
  generalize hAe : va_A ([(d, .inr (3, [.ref r, .int (nI (rNx q)), .int (nI (rAn q)), .int (rFt q), .int (rPl q)])), (r, .inr (2, [.ref b, .int (nI L.length)])), (b, .inl (cB, cap, .inl f)), (w, .inr (1, [.ref a, .int (nI M.length), .int x, .int y, .int g, .int t])), (a, .inl (cI, 1024, .inl fw))] : va_W) s.heap.size = A at hD hMk ⊢
  have hA : ∀ q : Nat, s.heap.size ≤ q → A q := fun q h => by rw [← hAe]; exact Or.inr h
  have hS : va_S A s.heap s.heap [] := va_S.rf
  have hP : va_P (dC, dI) classes [(d, .inr (3, [.ref r, .int (nI (rNx q)), .int (nI (rAn q)), .int (rFt q), .int (rPl q)])), (r, .inr (2, [.ref b, .int (nI L.length)])), (b, .inl (cB, cap, .inl f)), (w, .inr (1, [.ref a, .int (nI M.length), .int x, .int y, .int g, .int t])), (a, .inl (cI, 1024, .inl fw))] s.heap := hP
  have hL : L.length ≤ 8192 := Nat.le_trans hB.2.2.1 hB.2.2.2
  have hq0 : rNx q00 ≤ L.length := Nat.zero_le _
  have hl := lv_entry ([.ref d, .ref w]) (n := 2) (Nat.le_of_ble_eq_true rfl)
  rw [lg_entry_eq]
  generalize (lg_sl ([.ref d, .ref w]) ++ List.replicate (2 - (lg_sl ([.ref d, .ref w])).length) Slot.unset).toArray = ls at hl ⊢
  have hl : lv_has ls 2 [(0, .ref d), (1, .ref w)] := hl
  refine lv_aload_n hx hb d_Rd_readInto_0 rfl (lv_at hl 0 rfl) ?_
  refine lv_iconst (v := 0) hx hb d_Rd_readInto_1 (by decide) ?_
  refine va_put (D := (dC, dI)) (ci := 3) (v := .int 0) (ty := .int) (C := "DemoTape$Reader") (T := F_Rd) (N := 5) hx hb hts i_Rd t_Rd t_Rd_ok n_Rd hown hK hP hD hS 0 rfl rfl 1 (by decide) (hts _ mw91) (fun _ h9 => h9) rfl (by decide +kernel) rfl rfl (Nat.le_of_ble_eq_true rfl) d_Rd_readInto_2 (fun H locs hP hD hS => ?_)
  have hP : va_P (dC, dI) classes [(d, .inr (3, [.ref r, .int 0, .int (nI (rAn q)), .int (rFt q), .int (rPl q)])), (r, .inr (2, [.ref b, .int (nI L.length)])), (b, .inl (cB, cap, .inl f)), (w, .inr (1, [.ref a, .int (nI M.length), .int x, .int y, .int g, .int t])), (a, .inl (cI, 1024, .inl fw))] H := hP
  have hD : va_D A [(d, .inr (3, [.ref r, .int 0, .int (nI (rAn q)), .int (rFt q), .int (rPl q)])), (r, .inr (2, [.ref b, .int (nI L.length)])), (b, .inl (cB, cap, .inl f)), (w, .inr (1, [.ref a, .int (nI M.length), .int x, .int y, .int g, .int t])), (a, .inl (cI, 1024, .inl fw))] := hD
  refine lv_aload_n hx hb d_Rd_readInto_5 rfl (lv_at hl 0 rfl) ?_
  refine lv_iconst (v := 0) hx hb d_Rd_readInto_6 (by decide) ?_
  refine va_put (D := (dC, dI)) (ci := 3) (v := .int 0) (ty := .int) (C := "DemoTape$Reader") (T := F_Rd) (N := 5) hx hb hts i_Rd t_Rd t_Rd_ok n_Rd hown hK hP hD hS 0 rfl rfl 2 (by decide) (hts _ mw92) (fun _ h9 => h9) rfl (by decide +kernel) rfl rfl (Nat.le_of_ble_eq_true rfl) d_Rd_readInto_7 (fun H locs hP hD hS => ?_)
  have hP : va_P (dC, dI) classes [(d, .inr (3, [.ref r, .int 0, .int 0, .int (rFt q), .int (rPl q)])), (r, .inr (2, [.ref b, .int (nI L.length)])), (b, .inl (cB, cap, .inl f)), (w, .inr (1, [.ref a, .int (nI M.length), .int x, .int y, .int g, .int t])), (a, .inl (cI, 1024, .inl fw))] H := hP
  have hD : va_D A [(d, .inr (3, [.ref r, .int 0, .int 0, .int (rFt q), .int (rPl q)])), (r, .inr (2, [.ref b, .int (nI L.length)])), (b, .inl (cB, cap, .inl f)), (w, .inr (1, [.ref a, .int (nI M.length), .int x, .int y, .int g, .int t])), (a, .inl (cI, 1024, .inl fw))] := hD
  refine lv_aload_n hx hb d_Rd_readInto_10 rfl (lv_at hl 0 rfl) ?_
  refine lv_iconst (v := 0) hx hb d_Rd_readInto_11 (by decide) ?_
  refine va_put (D := (dC, dI)) (ci := 3) (v := .int 0) (ty := .int) (C := "DemoTape$Reader") (T := F_Rd) (N := 5) hx hb hts i_Rd t_Rd t_Rd_ok n_Rd hown hK hP hD hS 0 rfl rfl 3 (by decide) (hts _ mw93) (fun _ h9 => h9) rfl (by decide +kernel) rfl rfl (Nat.le_of_ble_eq_true rfl) d_Rd_readInto_12 (fun H locs hP hD hS => ?_)
  have hP : va_P (dC, dI) classes [(d, .inr (3, [.ref r, .int 0, .int 0, .int 0, .int (rPl q)])), (r, .inr (2, [.ref b, .int (nI L.length)])), (b, .inl (cB, cap, .inl f)), (w, .inr (1, [.ref a, .int (nI M.length), .int x, .int y, .int g, .int t])), (a, .inl (cI, 1024, .inl fw))] H := hP
  have hD : va_D A [(d, .inr (3, [.ref r, .int 0, .int 0, .int 0, .int (rPl q)])), (r, .inr (2, [.ref b, .int (nI L.length)])), (b, .inl (cB, cap, .inl f)), (w, .inr (1, [.ref a, .int (nI M.length), .int x, .int y, .int g, .int t])), (a, .inl (cI, 1024, .inl fw))] := hD
  refine lv_aload_n hx hb d_Rd_readInto_15 rfl (lv_at hl 0 rfl) ?_
  refine lv_iconst (v := -1) hx hb d_Rd_readInto_16 (by decide) ?_
  refine va_put (D := (dC, dI)) (ci := 3) (v := .int (-1)) (ty := .int) (C := "DemoTape$Reader") (T := F_Rd) (N := 5) hx hb hts i_Rd t_Rd t_Rd_ok n_Rd hown hK hP hD hS 0 rfl rfl 4 (by decide) (hts _ mw94) (fun _ h9 => h9) rfl (by decide +kernel) rfl rfl (Nat.le_of_ble_eq_true rfl) d_Rd_readInto_17 (fun H locs hP hD hS => ?_)
  have hP : va_P (dC, dI) classes [(d, .inr (3, [.ref r, .int 0, .int 0, .int 0, .int (-1)])), (r, .inr (2, [.ref b, .int (nI L.length)])), (b, .inl (cB, cap, .inl f)), (w, .inr (1, [.ref a, .int (nI M.length), .int x, .int y, .int g, .int t])), (a, .inl (cI, 1024, .inl fw))] H := hP
  have hD : va_D A [(d, .inr (3, [.ref r, .int 0, .int 0, .int 0, .int (-1)])), (r, .inr (2, [.ref b, .int (nI L.length)])), (b, .inl (cB, cap, .inl f)), (w, .inr (1, [.ref a, .int (nI M.length), .int x, .int y, .int g, .int t])), (a, .inl (cI, 1024, .inl fw))] := hD
  have hP : va_P (dC, dI) classes [(d, .inr (3, [.ref r, .int (nI (rNx q00)), .int (nI (rAn q00)), .int (rFt q00), .int (rPl q00)])), (r, .inr (2, [.ref b, .int (nI L.length)])), (b, .inl (cB, cap, .inl f)), (w, .inr (1, [.ref a, .int (nI M.length), .int x, .int y, .int g, .int t])), (a, .inl (cI, 1024, .inl fw))] H := hP
  have hD : va_D A [(d, .inr (3, [.ref r, .int (nI (rNx q00)), .int (nI (rAn q00)), .int (rFt q00), .int (rPl q00)])), (r, .inr (2, [.ref b, .int (nI L.length)])), (b, .inl (cB, cap, .inl f)), (w, .inr (1, [.ref a, .int (nI M.length), .int x, .int y, .int g, .int t])), (a, .inl (cI, 1024, .inl fw))] := hD
  refine lv_aload_n hx hb d_Rd_readInto_20 rfl (lv_at hl 1 rfl) ?_
  refine kc_v (wr := [(d, .inr (3, [.ref r, .int (nI (rNx q00)), .int (nI (rAn q00)), .int (rFt q00), .int (rPl q00)])), (r, .inr (2, [.ref b, .int (nI L.length)])), (b, .inl (cB, cap, .inl f))]) (w2 := fun (_ : Unit) => [(d, .inr (3, [.ref r, .int (nI (rNx q00)), .int (nI (rAn q00)), .int (rFt q00), .int (rPl q00)])), (r, .inr (2, [.ref b, .int (nI L.length)])), (b, .inl (cB, cap, .inl f)), (w, .inr (1, [.ref a, .int (nI ([] : List Int32).length), .int x, .int y, .int g, .int t])), (a, .inl (cI, 1024, .inl fw))]) (va_runV (As := []) (rest := []) ⟨hx, hb, hml, hown, hts⟩ (c_Walk_clear l dC dI cI cB cZ _ w a fw M x y g t ) (cwV 0 hts (gV mw279 mw280 mw281 mw26 mw282) rfl rfl rfl (by decide +kernel) ⟨Nat.le_of_ble_eq_true rfl, Nat.le_of_ble_eq_true rfl⟩) (kpV (wc := [(w, .inr (1, [.ref a, .int (nI M.length), .int x, .int y, .int g, .int t])), (a, .inl (cI, 1024, .inl fw))]) (q0 := 3) (ci := 1) hK hP hD [3, 4] rfl (by decide) rfl rfl rfl) rfl rfl hl.1 rfl (lv_room (Nat.le_of_ble_eq_true rfl)) d_Rd_readInto_21 ⟨Nat.le_of_ble_eq_true rfl, Nat.le_of_ble_eq_true rfl⟩) hP hD hS hA [3, 4] [0, 1, 2] [0, 1, 2, 3, 4] rfl rfl (by decide) (by decide) (fun _ => rfl) (by decide) (fun _ => rfl) (fun u9 H locs hw hP hD hS => ?_)
  have hP : va_P (dC, dI) classes [(d, .inr (3, [.ref r, .int (nI (rNx q00)), .int (nI (rAn q00)), .int (rFt q00), .int (rPl q00)])), (r, .inr (2, [.ref b, .int (nI L.length)])), (b, .inl (cB, cap, .inl f)), (w, .inr (1, [.ref a, .int (nI ([] : List Int32).length), .int x, .int y, .int g, .int t])), (a, .inl (cI, 1024, .inl fw))] H := hP
  have hD : va_D A [(d, .inr (3, [.ref r, .int (nI (rNx q00)), .int (nI (rAn q00)), .int (rFt q00), .int (rPl q00)])), (r, .inr (2, [.ref b, .int (nI L.length)])), (b, .inl (cB, cap, .inl f)), (w, .inr (1, [.ref a, .int (nI ([] : List Int32).length), .int x, .int y, .int g, .int t])), (a, .inl (cI, 1024, .inl fw))] := hD
  have hW_21 := hw
  refine lv_aload_n hx hb d_Rd_readInto_24 rfl (lv_at hl 0 rfl) ?_
  refine kc_v (wr := [(w, .inr (1, [.ref a, .int (nI ([] : List Int32).length), .int x, .int y, .int g, .int t])), (a, .inl (cI, 1024, .inl fw))]) (w2 := fun (_ : Unit) => [(d, .inr (3, [.ref r, .int (nI (rNx (tMark L q00))), .int (nI (rAn (tMark L q00))), .int (rFt (tMark L q00)), .int (rPl (tMark L q00))])), (r, .inr (2, [.ref b, .int (nI L.length)])), (b, .inl (cB, cap, .inl f)), (w, .inr (1, [.ref a, .int (nI ([] : List Int32).length), .int x, .int y, .int g, .int t])), (a, .inl (cI, 1024, .inl fw))]) (va_runV (As := []) (rest := []) ⟨hx, hb, hml, hown, hts⟩ (c_Rd_takeMark l dC dI cI cB cZ _ tM d r q00 b cap f L (by first | with_reducible assumption | omega | decide) (hq0)) (cwV 0 hts (gV mw283 mw285 mw2 mw29 mw286) rfl rfl rfl (by decide +kernel) ⟨Nat.le_of_ble_eq_true rfl, Nat.le_of_ble_eq_true rfl⟩) (kpsV (wc := [(d, .inr (3, [.ref r, .int (nI (rNx q00)), .int (nI (rAn q00)), .int (rFt q00), .int (rPl q00)])), (r, .inr (2, [.ref b, .int (nI L.length)])), (b, .inl (cB, cap, .inl f))]) (q0 := 0) (ci := 3) hK hP hD hMk hS hA [0, 1, 2] rfl (by decide) rfl rfl rfl) rfl rfl hl.1 rfl (lv_room (Nat.le_of_ble_eq_true rfl)) d_Rd_readInto_25 ⟨Nat.le_of_ble_eq_true rfl, Nat.le_of_ble_eq_true rfl⟩) hP hD hS hA [0, 1, 2] [3, 4] [2, 3, 4, 0, 1] rfl rfl (by decide) (by decide) (fun _ => rfl) (by decide) (fun _ => rfl) (fun u9 H locs hw hP hD hS => ?_)
  have hP : va_P (dC, dI) classes [(d, .inr (3, [.ref r, .int (nI (rNx (tMark L q00))), .int (nI (rAn (tMark L q00))), .int (rFt (tMark L q00)), .int (rPl (tMark L q00))])), (r, .inr (2, [.ref b, .int (nI L.length)])), (b, .inl (cB, cap, .inl f)), (w, .inr (1, [.ref a, .int (nI ([] : List Int32).length), .int x, .int y, .int g, .int t])), (a, .inl (cI, 1024, .inl fw))] H := hP
  have hD : va_D A [(d, .inr (3, [.ref r, .int (nI (rNx (tMark L q00))), .int (nI (rAn (tMark L q00))), .int (rFt (tMark L q00)), .int (rPl (tMark L q00))])), (r, .inr (2, [.ref b, .int (nI L.length)])), (b, .inl (cB, cap, .inl f)), (w, .inr (1, [.ref a, .int (nI ([] : List Int32).length), .int x, .int y, .int g, .int t])), (a, .inl (cI, 1024, .inl fw))] := hD
  have e9_25 : (tMark L q00) = (tQ1 L) := tQ1_def _
  rw [e9_25] at hP hD 
  have hP : va_P (dC, dI) classes [(d, .inr (3, [.ref r, .int (nI (rNx (tQ1 L))), .int (nI (rAn (tQ1 L))), .int (rFt (tQ1 L)), .int (rPl (tQ1 L))])), (r, .inr (2, [.ref b, .int (nI L.length)])), (b, .inl (cB, cap, .inl f)), (w, .inr (1, [.ref a, .int (nI ([] : List Int32).length), .int x, .int y, .int g, .int t])), (a, .inl (cI, 1024, .inl fw))] H := hP
  have hD : va_D A [(d, .inr (3, [.ref r, .int (nI (rNx (tQ1 L))), .int (nI (rAn (tQ1 L))), .int (rFt (tQ1 L)), .int (rPl (tQ1 L))])), (r, .inr (2, [.ref b, .int (nI L.length)])), (b, .inl (cB, cap, .inl f)), (w, .inr (1, [.ref a, .int (nI ([] : List Int32).length), .int x, .int y, .int g, .int t])), (a, .inl (cI, 1024, .inl fw))] := hD
  refine lv_aload_n hx hb d_Rd_readInto_28 rfl (lv_at hl 0 rfl) ?_
  refine lv_aload_n hx hb d_Rd_readInto_29 rfl (lv_at hl 1 rfl) ?_
  refine kc_v (wr := []) (w2 := fun (_ : Unit) => [(d, .inr (3, [.ref r, .int (nI (rNx (tS4 L (tQ1 L)))), .int (nI (rAn (tS4 L (tQ1 L)))), .int (rFt (tS4 L (tQ1 L))), .int (rPl (tS4 L (tQ1 L)))])), (r, .inr (2, [.ref b, .int (nI L.length)])), (b, .inl (cB, cap, .inl f)), (w, .inr (1, [.ref a, .int (nI ([] : List Int32).length), .int (tPlace L (tQ1 L)).1, .int (tPlace L (tS1 L (tQ1 L))).1, .int (tTake L 63 (tS2 L (tQ1 L))).1, .int (tTake L 255 (tS3 L (tQ1 L))).1])), (a, .inl (cI, 1024, .inl fw))]) (va_runV (As := [.ref w]) (rest := []) ⟨hx, hb, hml, hown, hts⟩ (c_Rd_takeStart l dC dI cI cB cZ _ d r (tQ1 L) b cap f L w a fw ([] : List Int32) x y g t (by first | with_reducible assumption | omega | decide) (tQ1_nx hL)) (cwV 1 hts (gV mw301 mw303 mw6 mw29 mw304) rfl rfl rfl (by decide +kernel) ⟨Nat.le_of_ble_eq_true rfl, Nat.le_of_ble_eq_true rfl⟩) (kpV (wc := [(d, .inr (3, [.ref r, .int (nI (rNx (tQ1 L))), .int (nI (rAn (tQ1 L))), .int (rFt (tQ1 L)), .int (rPl (tQ1 L))])), (r, .inr (2, [.ref b, .int (nI L.length)])), (b, .inl (cB, cap, .inl f)), (w, .inr (1, [.ref a, .int (nI ([] : List Int32).length), .int x, .int y, .int g, .int t])), (a, .inl (cI, 1024, .inl fw))]) (q0 := 0) (ci := 3) hK hP hD [0, 1, 2, 3, 4] rfl (by decide) rfl rfl rfl) rfl rfl hl.1 rfl (lv_room (Nat.le_of_ble_eq_true rfl)) d_Rd_readInto_30 ⟨Nat.le_of_ble_eq_true rfl, Nat.le_of_ble_eq_true rfl⟩) hP hD hS hA [0, 1, 2, 3, 4] [] [0, 1, 2, 3, 4] rfl rfl (by decide) (by decide) (fun _ => rfl) (by decide) (fun _ => rfl) (fun u9 H locs hw hP hD hS => ?_)
  have hP : va_P (dC, dI) classes [(d, .inr (3, [.ref r, .int (nI (rNx (tS4 L (tQ1 L)))), .int (nI (rAn (tS4 L (tQ1 L)))), .int (rFt (tS4 L (tQ1 L))), .int (rPl (tS4 L (tQ1 L)))])), (r, .inr (2, [.ref b, .int (nI L.length)])), (b, .inl (cB, cap, .inl f)), (w, .inr (1, [.ref a, .int (nI ([] : List Int32).length), .int (tPlace L (tQ1 L)).1, .int (tPlace L (tS1 L (tQ1 L))).1, .int (tTake L 63 (tS2 L (tQ1 L))).1, .int (tTake L 255 (tS3 L (tQ1 L))).1])), (a, .inl (cI, 1024, .inl fw))] H := hP
  have hD : va_D A [(d, .inr (3, [.ref r, .int (nI (rNx (tS4 L (tQ1 L)))), .int (nI (rAn (tS4 L (tQ1 L)))), .int (rFt (tS4 L (tQ1 L))), .int (rPl (tS4 L (tQ1 L)))])), (r, .inr (2, [.ref b, .int (nI L.length)])), (b, .inl (cB, cap, .inl f)), (w, .inr (1, [.ref a, .int (nI ([] : List Int32).length), .int (tPlace L (tQ1 L)).1, .int (tPlace L (tS1 L (tQ1 L))).1, .int (tTake L 63 (tS2 L (tQ1 L))).1, .int (tTake L 255 (tS3 L (tQ1 L))).1])), (a, .inl (cI, 1024, .inl fw))] := hD
  have e9_30 : (tS4 L (tQ1 L)) = (tQ2 L) := tQ2_def _
  rw [e9_30] at hP hD 
  have hP : va_P (dC, dI) classes [(d, .inr (3, [.ref r, .int (nI (rNx (tQ2 L))), .int (nI (rAn (tQ2 L))), .int (rFt (tQ2 L)), .int (rPl (tQ2 L))])), (r, .inr (2, [.ref b, .int (nI L.length)])), (b, .inl (cB, cap, .inl f)), (w, .inr (1, [.ref a, .int (nI ([] : List Int32).length), .int (tPlace L (tQ1 L)).1, .int (tPlace L (tS1 L (tQ1 L))).1, .int (tTake L 63 (tS2 L (tQ1 L))).1, .int (tTake L 255 (tS3 L (tQ1 L))).1])), (a, .inl (cI, 1024, .inl fw))] H := hP
  have hD : va_D A [(d, .inr (3, [.ref r, .int (nI (rNx (tQ2 L))), .int (nI (rAn (tQ2 L))), .int (rFt (tQ2 L)), .int (rPl (tQ2 L))])), (r, .inr (2, [.ref b, .int (nI L.length)])), (b, .inl (cB, cap, .inl f)), (w, .inr (1, [.ref a, .int (nI ([] : List Int32).length), .int (tPlace L (tQ1 L)).1, .int (tPlace L (tS1 L (tQ1 L))).1, .int (tTake L 63 (tS2 L (tQ1 L))).1, .int (tTake L 255 (tS3 L (tQ1 L))).1])), (a, .inl (cI, 1024, .inl fw))] := hD
  refine lv_aload_n hx hb d_Rd_readInto_33 rfl (lv_at hl 0 rfl) ?_
  refine lv_aload_n hx hb d_Rd_readInto_34 rfl (lv_at hl 1 rfl) ?_
  refine kc_v (wr := []) (w2 := fun (u9 : (Nat → Int32)) => [(d, .inr (3, [.ref r, .int (nI (rNx (tGroups L 1025 ([] : List Int32) (tQ2 L)).2)), .int (nI (rAn (tGroups L 1025 ([] : List Int32) (tQ2 L)).2)), .int (rFt (tGroups L 1025 ([] : List Int32) (tQ2 L)).2), .int (rPl (tGroups L 1025 ([] : List Int32) (tQ2 L)).2)])), (r, .inr (2, [.ref b, .int (nI L.length)])), (b, .inl (cB, cap, .inl f)), (w, .inr (1, [.ref a, .int (nI (tGroups L 1025 ([] : List Int32) (tQ2 L)).1.length), .int (tPlace L (tQ1 L)).1, .int (tPlace L (tS1 L (tQ1 L))).1, .int (tTake L 63 (tS2 L (tQ1 L))).1, .int (tTake L 255 (tS3 L (tQ1 L))).1])), (a, .inl (cI, 1024, .inl u9))]) (va_runV (As := [.ref w]) (rest := []) ⟨hx, hb, hml, hown, hts⟩ (c_Rd_takeGroups l dC dI cI cB cZ _ d r (tQ2 L) b cap f L w a fw ([] : List Int32) (tPlace L (tQ1 L)).1 (tPlace L (tS1 L (tQ1 L))).1 (tTake L 63 (tS2 L (tQ1 L))).1 (tTake L 255 (tS3 L (tQ1 L))).1 (by first | with_reducible assumption | omega | decide) (tQ2_nx hL) (by first | with_reducible assumption | omega | decide) (by rw [tQ2_an]; decide)) (cwV 1 hts (gV mw311 mw313 mw8 mw29 mw314) rfl rfl rfl (by decide +kernel) ⟨Nat.le_of_ble_eq_true rfl, Nat.le_of_ble_eq_true rfl⟩) (kpV (wc := [(d, .inr (3, [.ref r, .int (nI (rNx (tQ2 L))), .int (nI (rAn (tQ2 L))), .int (rFt (tQ2 L)), .int (rPl (tQ2 L))])), (r, .inr (2, [.ref b, .int (nI L.length)])), (b, .inl (cB, cap, .inl f)), (w, .inr (1, [.ref a, .int (nI ([] : List Int32).length), .int (tPlace L (tQ1 L)).1, .int (tPlace L (tS1 L (tQ1 L))).1, .int (tTake L 63 (tS2 L (tQ1 L))).1, .int (tTake L 255 (tS3 L (tQ1 L))).1])), (a, .inl (cI, 1024, .inl fw))]) (q0 := 0) (ci := 3) hK hP hD [0, 1, 2, 3, 4] rfl (by decide) rfl rfl rfl) rfl rfl hl.1 rfl (lv_room (Nat.le_of_ble_eq_true rfl)) d_Rd_readInto_35 ⟨Nat.le_of_ble_eq_true rfl, Nat.le_of_ble_eq_true rfl⟩) hP hD hS hA [0, 1, 2, 3, 4] [] [0, 1, 2, 3, 4] rfl rfl (by decide) (by decide) (fun _ => rfl) (by decide) (fun _ => rfl) (fun u9 H locs hw hP hD hS => ?_)
  obtain ⟨fw1_35, rfl⟩ : ∃ z, z = u9 := ⟨_, rfl⟩
  try dsimp only at hw
  have hP : va_P (dC, dI) classes [(d, .inr (3, [.ref r, .int (nI (rNx (tGroups L 1025 ([] : List Int32) (tQ2 L)).2)), .int (nI (rAn (tGroups L 1025 ([] : List Int32) (tQ2 L)).2)), .int (rFt (tGroups L 1025 ([] : List Int32) (tQ2 L)).2), .int (rPl (tGroups L 1025 ([] : List Int32) (tQ2 L)).2)])), (r, .inr (2, [.ref b, .int (nI L.length)])), (b, .inl (cB, cap, .inl f)), (w, .inr (1, [.ref a, .int (nI (tGroups L 1025 ([] : List Int32) (tQ2 L)).1.length), .int (tPlace L (tQ1 L)).1, .int (tPlace L (tS1 L (tQ1 L))).1, .int (tTake L 63 (tS2 L (tQ1 L))).1, .int (tTake L 255 (tS3 L (tQ1 L))).1])), (a, .inl (cI, 1024, .inl fw1_35))] H := hP
  have hD : va_D A [(d, .inr (3, [.ref r, .int (nI (rNx (tGroups L 1025 ([] : List Int32) (tQ2 L)).2)), .int (nI (rAn (tGroups L 1025 ([] : List Int32) (tQ2 L)).2)), .int (rFt (tGroups L 1025 ([] : List Int32) (tQ2 L)).2), .int (rPl (tGroups L 1025 ([] : List Int32) (tQ2 L)).2)])), (r, .inr (2, [.ref b, .int (nI L.length)])), (b, .inl (cB, cap, .inl f)), (w, .inr (1, [.ref a, .int (nI (tGroups L 1025 ([] : List Int32) (tQ2 L)).1.length), .int (tPlace L (tQ1 L)).1, .int (tPlace L (tS1 L (tQ1 L))).1, .int (tTake L 63 (tS2 L (tQ1 L))).1, .int (tTake L 255 (tS3 L (tQ1 L))).1])), (a, .inl (cI, 1024, .inl fw1_35))] := hD
  have hW_35 := hw
  have e9_35 : (tGroups L 1025 ([] : List Int32) (tQ2 L)) = (tQ3 L) := tQ3_def _
  rw [e9_35] at hP hD hW_35
  have hP : va_P (dC, dI) classes [(d, .inr (3, [.ref r, .int (nI (rNx (tQ3 L).2)), .int (nI (rAn (tQ3 L).2)), .int (rFt (tQ3 L).2), .int (rPl (tQ3 L).2)])), (r, .inr (2, [.ref b, .int (nI L.length)])), (b, .inl (cB, cap, .inl f)), (w, .inr (1, [.ref a, .int (nI (tQ3 L).1.length), .int (tPlace L (tQ1 L)).1, .int (tPlace L (tS1 L (tQ1 L))).1, .int (tTake L 63 (tS2 L (tQ1 L))).1, .int (tTake L 255 (tS3 L (tQ1 L))).1])), (a, .inl (cI, 1024, .inl fw1_35))] H := hP
  have hD : va_D A [(d, .inr (3, [.ref r, .int (nI (rNx (tQ3 L).2)), .int (nI (rAn (tQ3 L).2)), .int (rFt (tQ3 L).2), .int (rPl (tQ3 L).2)])), (r, .inr (2, [.ref b, .int (nI L.length)])), (b, .inl (cB, cap, .inl f)), (w, .inr (1, [.ref a, .int (nI (tQ3 L).1.length), .int (tPlace L (tQ1 L)).1, .int (tPlace L (tS1 L (tQ1 L))).1, .int (tTake L 63 (tS2 L (tQ1 L))).1, .int (tTake L 255 (tS3 L (tQ1 L))).1])), (a, .inl (cI, 1024, .inl fw1_35))] := hD
  refine lv_aload_n hx hb d_Rd_readInto_38 rfl (lv_at hl 0 rfl) ?_
  refine kc_v (wr := [(w, .inr (1, [.ref a, .int (nI (tQ3 L).1.length), .int (tPlace L (tQ1 L)).1, .int (tPlace L (tS1 L (tQ1 L))).1, .int (tTake L 63 (tS2 L (tQ1 L))).1, .int (tTake L 255 (tS3 L (tQ1 L))).1])), (a, .inl (cI, 1024, .inl fw1_35))]) (w2 := fun (_ : Unit) => [(d, .inr (3, [.ref r, .int (nI (rNx (tCheck L (tQ3 L).2))), .int (nI (rAn (tCheck L (tQ3 L).2))), .int (rFt (tCheck L (tQ3 L).2)), .int (rPl (tCheck L (tQ3 L).2))])), (r, .inr (2, [.ref b, .int (nI L.length)])), (b, .inl (cB, cap, .inl f)), (w, .inr (1, [.ref a, .int (nI (tQ3 L).1.length), .int (tPlace L (tQ1 L)).1, .int (tPlace L (tS1 L (tQ1 L))).1, .int (tTake L 63 (tS2 L (tQ1 L))).1, .int (tTake L 255 (tS3 L (tQ1 L))).1])), (a, .inl (cI, 1024, .inl fw1_35))]) (va_runV (As := []) (rest := []) ⟨hx, hb, hml, hown, hts⟩ (c_Rd_takeCheck l dC dI cI cB cZ _ d r (tQ3 L).2 b cap f L (by first | with_reducible assumption | omega | decide) (tQ3_nx hL)) (cwV 0 hts (gV mw328 mw330 mw11 mw29 mw331) rfl rfl rfl (by decide +kernel) ⟨Nat.le_of_ble_eq_true rfl, Nat.le_of_ble_eq_true rfl⟩) (kpV (wc := [(d, .inr (3, [.ref r, .int (nI (rNx (tQ3 L).2)), .int (nI (rAn (tQ3 L).2)), .int (rFt (tQ3 L).2), .int (rPl (tQ3 L).2)])), (r, .inr (2, [.ref b, .int (nI L.length)])), (b, .inl (cB, cap, .inl f))]) (q0 := 0) (ci := 3) hK hP hD [0, 1, 2] rfl (by decide) rfl rfl rfl) rfl rfl hl.1 rfl (lv_room (Nat.le_of_ble_eq_true rfl)) d_Rd_readInto_39 ⟨Nat.le_of_ble_eq_true rfl, Nat.le_of_ble_eq_true rfl⟩) hP hD hS hA [0, 1, 2] [3, 4] [2, 3, 4, 0, 1] rfl rfl (by decide) (by decide) (fun _ => rfl) (by decide) (fun _ => rfl) (fun u9 H locs hw hP hD hS => ?_)
  have hP : va_P (dC, dI) classes [(d, .inr (3, [.ref r, .int (nI (rNx (tCheck L (tQ3 L).2))), .int (nI (rAn (tCheck L (tQ3 L).2))), .int (rFt (tCheck L (tQ3 L).2)), .int (rPl (tCheck L (tQ3 L).2))])), (r, .inr (2, [.ref b, .int (nI L.length)])), (b, .inl (cB, cap, .inl f)), (w, .inr (1, [.ref a, .int (nI (tQ3 L).1.length), .int (tPlace L (tQ1 L)).1, .int (tPlace L (tS1 L (tQ1 L))).1, .int (tTake L 63 (tS2 L (tQ1 L))).1, .int (tTake L 255 (tS3 L (tQ1 L))).1])), (a, .inl (cI, 1024, .inl fw1_35))] H := hP
  have hD : va_D A [(d, .inr (3, [.ref r, .int (nI (rNx (tCheck L (tQ3 L).2))), .int (nI (rAn (tCheck L (tQ3 L).2))), .int (rFt (tCheck L (tQ3 L).2)), .int (rPl (tCheck L (tQ3 L).2))])), (r, .inr (2, [.ref b, .int (nI L.length)])), (b, .inl (cB, cap, .inl f)), (w, .inr (1, [.ref a, .int (nI (tQ3 L).1.length), .int (tPlace L (tQ1 L)).1, .int (tPlace L (tS1 L (tQ1 L))).1, .int (tTake L 63 (tS2 L (tQ1 L))).1, .int (tTake L 255 (tS3 L (tQ1 L))).1])), (a, .inl (cI, 1024, .inl fw1_35))] := hD
  have e9_39 : (tCheck L (tQ3 L).2) = (tQ4 L) := tQ4_def _
  rw [e9_39] at hP hD 
  have hP : va_P (dC, dI) classes [(d, .inr (3, [.ref r, .int (nI (rNx (tQ4 L))), .int (nI (rAn (tQ4 L))), .int (rFt (tQ4 L)), .int (rPl (tQ4 L))])), (r, .inr (2, [.ref b, .int (nI L.length)])), (b, .inl (cB, cap, .inl f)), (w, .inr (1, [.ref a, .int (nI (tQ3 L).1.length), .int (tPlace L (tQ1 L)).1, .int (tPlace L (tS1 L (tQ1 L))).1, .int (tTake L 63 (tS2 L (tQ1 L))).1, .int (tTake L 255 (tS3 L (tQ1 L))).1])), (a, .inl (cI, 1024, .inl fw1_35))] H := hP
  have hD : va_D A [(d, .inr (3, [.ref r, .int (nI (rNx (tQ4 L))), .int (nI (rAn (tQ4 L))), .int (rFt (tQ4 L)), .int (rPl (tQ4 L))])), (r, .inr (2, [.ref b, .int (nI L.length)])), (b, .inl (cB, cap, .inl f)), (w, .inr (1, [.ref a, .int (nI (tQ3 L).1.length), .int (tPlace L (tQ1 L)).1, .int (tPlace L (tS1 L (tQ1 L))).1, .int (tTake L 63 (tS2 L (tQ1 L))).1, .int (tTake L 255 (tS3 L (tQ1 L))).1])), (a, .inl (cI, 1024, .inl fw1_35))] := hD
  have hnx : rNx (tQ4 L) ≤ L.length := tQ4_nx hL
  refine lv_aload_n hx hb d_Rd_readInto_42 rfl (lv_at hl 0 rfl) ?_
  refine va_get (D := (dC, dI)) (ci := 3) (v := .int (nI (rNx (tQ4 L)))) (C := "DemoTape$Reader") (T := F_Rd) (N := 5) hx hb hts i_Rd hown hK hP 0 rfl rfl 1 (by decide) (hts _ mw91) (fun _ h9 => h9) rfl d_Rd_readInto_43 ?_
  refine lv_aload_n hx hb d_Rd_readInto_46 rfl (lv_at hl 0 rfl) ?_
  refine va_get (D := (dC, dI)) (ci := 3) (v := .ref r) (C := "DemoTape$Reader") (T := F_Rd) (N := 5) hx hb hts i_Rd hown hK hP 0 rfl rfl 0 (by decide) (hts _ mw90) (fun _ h9 => h9) rfl d_Rd_readInto_47 ?_
  refine kq_i (wr := [(d, .inr (3, [.ref r, .int (nI (rNx (tQ4 L))), .int (nI (rAn (tQ4 L))), .int (rFt (tQ4 L)), .int (rPl (tQ4 L))])), (w, .inr (1, [.ref a, .int (nI (tQ3 L).1.length), .int (tPlace L (tQ1 L)).1, .int (tPlace L (tS1 L (tQ1 L))).1, .int (tTake L 63 (tS2 L (tQ1 L))).1, .int (tTake L 255 (tS3 L (tQ1 L))).1])), (a, .inl (cI, 1024, .inl fw1_35))]) (va_runV (As := []) (rest := [.int (nI (rNx (tQ4 L)))]) ⟨hx, hb, hml, hown, hts⟩ (c_Row_size l dC dI cI cB cZ _ r b cap f L ) (cwV 0 hts (gV mw333 mw226 mw227 mw27 mw228) rfl rfl rfl (by decide +kernel) ⟨Nat.le_of_ble_eq_true rfl, Nat.le_of_ble_eq_true rfl⟩) (kpV (wc := [(r, .inr (2, [.ref b, .int (nI L.length)])), (b, .inl (cB, cap, .inl f))]) (q0 := 1) (ci := 2) hK hP hD [1, 2] rfl (by decide) rfl rfl rfl) rfl rfl hl.1 rfl (lv_room (Nat.le_of_ble_eq_true rfl)) d_Rd_readInto_50 ⟨Nat.le_of_ble_eq_true rfl, Nat.le_of_ble_eq_true rfl⟩) hP hD hS hA [1, 2] [0, 3, 4] [0, 3, 4, 1, 2] rfl rfl (by decide) (by decide) rfl (fun r_50 H locs hw hP hS => ?_)
  have e_50 := hw
  refine kt_i e_50 ?_
  refine lv_icmp_ge (tgt := 66) hx hb d_Rd_readInto_53 (by decide) (fun c_53 => ?_) (fun c_53 => ?_)
  · have n_53 := kn_le (a := L.length) (b := rNx (tQ4 L)) c_53 rfl rfl (by omega) (by omega)
    exact kr_v fw1_35 hx hb hr hK (hP.sub [0, 1, 2, 3, 4] (by rw [tRead_1, tRead_n n_53]; first | done | rfl)) (hD.sub [0, 1, 2, 3, 4] (by decide) (by rw [tRead_1, tRead_n n_53]; first | done | rfl)) hS (by rw [tRead_1]; exact hW_35) d_Rd_readInto_66 hlocks
  · have n_53 := kn_nle (a := L.length) (b := rNx (tQ4 L)) c_53 rfl rfl (by omega) (by omega)
    refine lv_aload_n hx hb d_Rd_readInto_56 rfl (lv_at hl 0 rfl) ?_
    refine lv_bipush (v := 7) hx hb d_Rd_readInto_57 (by decide) ?_
    refine lv_aload_n hx hb d_Rd_readInto_59 rfl (lv_at hl 0 rfl) ?_
    refine va_get (D := (dC, dI)) (ci := 3) (v := .int (nI (rNx (tQ4 L)))) (C := "DemoTape$Reader") (T := F_Rd) (N := 5) hx hb hts i_Rd hown hK hP 0 rfl rfl 1 (by decide) (hts _ mw91) (fun _ h9 => h9) rfl d_Rd_readInto_60 ?_
    refine kc_v (wr := [(r, .inr (2, [.ref b, .int (nI L.length)])), (b, .inl (cB, cap, .inl f)), (w, .inr (1, [.ref a, .int (nI (tQ3 L).1.length), .int (tPlace L (tQ1 L)).1, .int (tPlace L (tS1 L (tQ1 L))).1, .int (tTake L 63 (tS2 L (tQ1 L))).1, .int (tTake L 255 (tS3 L (tQ1 L))).1])), (a, .inl (cI, 1024, .inl fw1_35))]) (w2 := fun (_ : Unit) => [(d, .inr (3, [.ref r, .int (nI (rNx (rFail 7 (nI (rNx (tQ4 L))) (tQ4 L)))), .int (nI (rAn (rFail 7 (nI (rNx (tQ4 L))) (tQ4 L)))), .int (rFt (rFail 7 (nI (rNx (tQ4 L))) (tQ4 L))), .int (rPl (rFail 7 (nI (rNx (tQ4 L))) (tQ4 L)))])), (r, .inr (2, [.ref b, .int (nI L.length)])), (b, .inl (cB, cap, .inl f)), (w, .inr (1, [.ref a, .int (nI (tQ3 L).1.length), .int (tPlace L (tQ1 L)).1, .int (tPlace L (tS1 L (tQ1 L))).1, .int (tTake L 63 (tS2 L (tQ1 L))).1, .int (tTake L 255 (tS3 L (tQ1 L))).1])), (a, .inl (cI, 1024, .inl fw1_35))]) (va_runV (As := [.int 7, .int (nI (rNx (tQ4 L)))]) (rest := []) ⟨hx, hb, hml, hown, hts⟩ (c_Rd_fail l dC dI cI cB cZ _ d r (tQ4 L) 7 (nI (rNx (tQ4 L))) ) (cwV 2 hts (gV mw297 mw299 mw5 mw29 mw300) rfl rfl rfl (by decide +kernel) ⟨Nat.le_of_ble_eq_true rfl, Nat.le_of_ble_eq_true rfl⟩) (kpV (wc := [(d, .inr (3, [.ref r, .int (nI (rNx (tQ4 L))), .int (nI (rAn (tQ4 L))), .int (rFt (tQ4 L)), .int (rPl (tQ4 L))]))]) (q0 := 0) (ci := 3) hK hP hD [0] rfl (by decide) rfl rfl rfl) rfl rfl hl.1 rfl (lv_room (Nat.le_of_ble_eq_true rfl)) d_Rd_readInto_63 ⟨Nat.le_of_ble_eq_true rfl, Nat.le_of_ble_eq_true rfl⟩) hP hD hS hA [0] [1, 2, 3, 4] [4, 0, 1, 2, 3] rfl rfl (by decide) (by decide) (fun _ => rfl) (by decide) (fun _ => rfl) (fun u9 H locs hw hP hD hS => ?_)
    have hP : va_P (dC, dI) classes [(d, .inr (3, [.ref r, .int (nI (rNx (rFail 7 (nI (rNx (tQ4 L))) (tQ4 L)))), .int (nI (rAn (rFail 7 (nI (rNx (tQ4 L))) (tQ4 L)))), .int (rFt (rFail 7 (nI (rNx (tQ4 L))) (tQ4 L))), .int (rPl (rFail 7 (nI (rNx (tQ4 L))) (tQ4 L)))])), (r, .inr (2, [.ref b, .int (nI L.length)])), (b, .inl (cB, cap, .inl f)), (w, .inr (1, [.ref a, .int (nI (tQ3 L).1.length), .int (tPlace L (tQ1 L)).1, .int (tPlace L (tS1 L (tQ1 L))).1, .int (tTake L 63 (tS2 L (tQ1 L))).1, .int (tTake L 255 (tS3 L (tQ1 L))).1])), (a, .inl (cI, 1024, .inl fw1_35))] H := hP
    have hD : va_D A [(d, .inr (3, [.ref r, .int (nI (rNx (rFail 7 (nI (rNx (tQ4 L))) (tQ4 L)))), .int (nI (rAn (rFail 7 (nI (rNx (tQ4 L))) (tQ4 L)))), .int (rFt (rFail 7 (nI (rNx (tQ4 L))) (tQ4 L))), .int (rPl (rFail 7 (nI (rNx (tQ4 L))) (tQ4 L)))])), (r, .inr (2, [.ref b, .int (nI L.length)])), (b, .inl (cB, cap, .inl f)), (w, .inr (1, [.ref a, .int (nI (tQ3 L).1.length), .int (tPlace L (tQ1 L)).1, .int (tPlace L (tS1 L (tQ1 L))).1, .int (tTake L 63 (tS2 L (tQ1 L))).1, .int (tTake L 255 (tS3 L (tQ1 L))).1])), (a, .inl (cI, 1024, .inl fw1_35))] := hD
    exact kr_v fw1_35 hx hb hr hK (hP.sub [0, 1, 2, 3, 4] (by rw [tRead_1, tRead_y n_53]; first | done | rfl)) (hD.sub [0, 1, 2, 3, 4] (by decide) (by rw [tRead_1, tRead_y n_53]; first | done | rfl)) hS (by rw [tRead_1]; exact hW_35) d_Rd_readInto_66 hlocks
end
section
abbrev Qc_Walk_putGroup (dC : Nat → ClassId) (dI : Nat → Nat → Nat) (cI cB cZ : ClassId) (r : Nat) (b : Nat) (cap : Nat) (f : Nat → Int32) (L : List Nat) (cd : Int32) (k : Nat) (A : Nat → Prop) := va_Qv (fun (u9 : (Nat → Int32)) => (BRow cap u9 (L ++ kGB (cd, k)))) (ka (dC, dI) classes [(cI, .int), (cB, .byte), (cZ, .boolean)] (fun (u9 : (Nat → Int32)) => [(r, .inr (2, [.ref b, .int (nI (L ++ kGB (cd, k)).length)])), (b, .inl (cB, cap, .inl u9))]) A) A
set_option maxHeartbeats 1000000 in
set_option maxRecDepth 100000 in
/-- Walk.putGroup -/
theorem c_Walk_putGroup (l : Launch) (dC : Nat → ClassId) (dI : Nat → Nat → Nat) (cI cB cZ : ClassId) (sz : Nat) (r : Nat) (b : Nat) (cap : Nat) (f : Nat → Int32) (L : List Nat) (cd : Int32) (k : Nat) (hB : BRow cap f L) (h4 : L.length + 4 ≤ cap) : Met l y_Walk_putGroup w_Walk_putGroup ({ frames := 2, cells := 0, slots := 0, locals := 40 }) (va_Pc [.ref r, .int cd, .int (nI k)] (kp (dC, dI) classes [(cI, .int), (cB, .byte), (cZ, .boolean)] [(r, .inr (2, [.ref b, .int (nI L.length)])), (b, .inl (cB, cap, .inl f))] sz)) (Qc_Walk_putGroup dC dI cI cB cZ r b cap f L cd k (va_A [(r, .inr (2, [.ref b, .int (nI L.length)])), (b, .inl (cB, cap, .inl f))] sz)) 0 0 (va_A [(r, .inr (2, [.ref b, .int (nI L.length)])), (b, .inl (cB, cap, .inl f))] sz) := by
  refine Met.ofW (cc := prog_5_method_16_code) (maxL := 4) (ret := none) (by decide) rfl ?_
  intro p e s m args below meth c s₁ B hml hv
  obtain ⟨rfl, hsz, hP, hK, hD0⟩ := hv
  have hx := B.exec
  have hb := B.bytes
  have hr := B.returns
  have hts := fun w h => atoms_spec (ws := w_Walk_putGroup) B.pre w (List.mem_cons_of_mem _ h)
  have hown : s.vm.findClass "DemoTape$Walk" = some m.cls := findClass_of_methodNamed B.named
  have hlocks := B.notSynchronized
  subst hsz
  have hD := hD0.self (sz := s.heap.size)
  generalize hAe : va_A ([(r, .inr (2, [.ref b, .int (nI L.length)])), (b, .inl (cB, cap, .inl f))] : va_W) s.heap.size = A at hD ⊢
  have hA : ∀ q : Nat, s.heap.size ≤ q → A q := fun q h => by rw [← hAe]; exact Or.inr h
  have hS : va_S A s.heap s.heap [] := va_S.rf
  have hP : va_P (dC, dI) classes [(r, .inr (2, [.ref b, .int (nI L.length)])), (b, .inl (cB, cap, .inl f))] s.heap := hP
  obtain ⟨hf, hy, hc, hcap⟩ := id hB
  have hl := lv_entry ([.ref r, .int cd, .int (nI k)]) (n := 4) (Nat.le_of_ble_eq_true rfl)
  rw [lg_entry_eq]
  generalize (lg_sl ([.ref r, .int cd, .int (nI k)]) ++ List.replicate (4 - (lg_sl ([.ref r, .int cd, .int (nI k)])).length) Slot.unset).toArray = ls at hl ⊢
  have hl : lv_has ls 4 [(0, .ref r), (1, .int cd), (2, .int (nI k))] := hl
  have J_32 : ∀ (s6 : Int32), (s6 = (if kSide cd = 0 then 0 else 128)) → ∀ (H : Heap) (locs : List Loc), va_P (dC, dI) classes [(r, .inr (2, [.ref b, .int (nI L.length)])), (b, .inl (cB, cap, .inl f))] H → va_D A [(r, .inr (2, [.ref b, .int (nI L.length)])), (b, .inl (cB, cap, .inl f))] → va_S A s.heap H locs → ∀ (ls : Array Slot), lv_has ls 4 [(0, .ref r), (1, .int cd), (2, .int (nI k)), (3, .int (kSide cd))] → W p l e (headSpec w_Walk_putGroup ({ frames := 2, cells := 0, slots := 0, locals := 40 })).room s m [.ref r, .int cd, .int (nI k)].toArray below meth c H locs 0 0 (MQ below (Qc_Walk_putGroup dC dI cI cB cZ r b cap f L cd k A) [.ref r, .int cd, .int (nI k)].toArray s 0 0 A) (F0 m 32 ls [.int s6, .int (nI k + (if kUse cd = 0 then 0 else 64)), .ref r]) := by
    intro s6 hs H locs hP hD hS ls hl
    subst hs
    refine lv_iadd hx hb d_Walk_putGroup_32 ?_
    refine lv_i2l (v := ((nI k + (if kUse cd = 0 then 0 else 64)) + (if kSide cd = 0 then 0 else 128)).toInt64) hx hb d_Walk_putGroup_33 rfl ?_
    refine lv_iconst (v := 1) hx hb d_Walk_putGroup_34 (by decide) ?_
    refine kc_v (wr := []) (w2 := fun (u9 : (Nat → Int32)) => [(r, .inr (2, [.ref b, .int (nI (L ++ lowB (lNat ((nI k + (if kUse cd = 0 then 0 else 64)) + (if kSide cd = 0 then 0 else 128)).toInt64) 1).length)])), (b, .inl (cB, cap, .inl u9))]) (va_runV (As := [.long ((nI k + (if kUse cd = 0 then 0 else 64)) + (if kSide cd = 0 then 0 else 128)).toInt64, .int 1]) (rest := []) ⟨hx, hb, hml, hown, hts⟩ (c_Row_addLowest l dC dI cI cB cZ _ r b cap f L ((nI k + (if kUse cd = 0 then 0 else 64)) + (if kSide cd = 0 then 0 else 128)).toInt64 1 (by first | with_reducible assumption | omega | decide) (by first | with_reducible assumption | omega | decide) (by first | with_reducible assumption | omega | decide)) (cwV 2 hts (gV mw193 mw194 mw195 mw27 mw196) rfl rfl rfl (by decide +kernel) ⟨Nat.le_of_ble_eq_true rfl, Nat.le_of_ble_eq_true rfl⟩) (kpV (wc := [(r, .inr (2, [.ref b, .int (nI L.length)])), (b, .inl (cB, cap, .inl f))]) (q0 := 0) (ci := 2) hK hP hD [0, 1] rfl (by decide) rfl rfl rfl) rfl rfl hl.1 rfl (lv_room (Nat.le_of_ble_eq_true rfl)) d_Walk_putGroup_35 ⟨Nat.le_of_ble_eq_true rfl, Nat.le_of_ble_eq_true rfl⟩) hP hD hS hA [0, 1] [] [0, 1] rfl rfl (by decide) (by decide) (fun _ => rfl) (by decide) (fun _ => rfl) (fun u9 H locs hw hP hD hS => ?_)
    obtain ⟨f1_35, rfl⟩ : ∃ z, z = u9 := ⟨_, rfl⟩
    try dsimp only at hw
    have hP : va_P (dC, dI) classes [(r, .inr (2, [.ref b, .int (nI (L ++ lowB (lNat ((nI k + (if kUse cd = 0 then 0 else 64)) + (if kSide cd = 0 then 0 else 128)).toInt64) 1).length)])), (b, .inl (cB, cap, .inl f1_35))] H := hP
    have hD : va_D A [(r, .inr (2, [.ref b, .int (nI (L ++ lowB (lNat ((nI k + (if kUse cd = 0 then 0 else 64)) + (if kSide cd = 0 then 0 else 128)).toInt64) 1).length)])), (b, .inl (cB, cap, .inl f1_35))] := hD
    have hB_35 := hw
    refine lv_aload_n hx hb d_Walk_putGroup_38 rfl (lv_at hl 0 rfl) ?_
    refine lv_iload_n hx hb d_Walk_putGroup_39 rfl (lv_at hl 1 rfl) ?_
    refine kq_i (wr := [(r, .inr (2, [.ref b, .int (nI (L ++ lowB (lNat ((nI k + (if kUse cd = 0 then 0 else 64)) + (if kSide cd = 0 then 0 else 128)).toInt64) 1).length)])), (b, .inl (cB, cap, .inl f1_35))]) (va_runS (As := [.int cd]) (rest := [.ref r]) ⟨hx, hb, hml, hown, hts⟩ (c_Code_aheadByte l dC dI cI cB cZ _ cd ) (va_cwS 1 hts (gS mw220 mw221 mw31 mw222) rfl rfl rfl (by decide +kernel) ⟨Nat.le_of_ble_eq_true rfl, Nat.le_of_ble_eq_true rfl⟩) (kpS (wc := []) hK hP hD [] rfl (by decide) rfl) rfl rfl hl.1 rfl (lv_room (Nat.le_of_ble_eq_true rfl)) d_Walk_putGroup_40 ⟨Nat.le_of_ble_eq_true rfl, Nat.le_of_ble_eq_true rfl⟩) hP hD hS hA [] [0, 1] [0, 1] rfl rfl (by decide) (by decide) rfl (fun r_40 H locs hw hP hS => ?_)
    have e_40 := hw
    refine kt_i e_40 ?_
    refine lv_i2l (v := (kAhead cd).toInt64) hx hb d_Walk_putGroup_43 rfl ?_
    refine lv_iconst (v := 1) hx hb d_Walk_putGroup_44 (by decide) ?_
    refine kc_v (wr := []) (w2 := fun (u9 : (Nat → Int32)) => [(r, .inr (2, [.ref b, .int (nI ((L ++ lowB (lNat ((nI k + (if kUse cd = 0 then 0 else 64)) + (if kSide cd = 0 then 0 else 128)).toInt64) 1) ++ lowB (lNat (kAhead cd).toInt64) 1).length)])), (b, .inl (cB, cap, .inl u9))]) (va_runV (As := [.long (kAhead cd).toInt64, .int 1]) (rest := []) ⟨hx, hb, hml, hown, hts⟩ (c_Row_addLowest l dC dI cI cB cZ _ r b cap f1_35 (L ++ lowB (lNat ((nI k + (if kUse cd = 0 then 0 else 64)) + (if kSide cd = 0 then 0 else 128)).toInt64) 1) (kAhead cd).toInt64 1 (by first | with_reducible assumption | omega | decide) (by first | with_reducible assumption | omega | decide) (by simp only [List.length_append, lowB_len, List.length_nil]; omega)) (cwV 2 hts (gV mw193 mw194 mw195 mw27 mw196) rfl rfl rfl (by decide +kernel) ⟨Nat.le_of_ble_eq_true rfl, Nat.le_of_ble_eq_true rfl⟩) (kpV (wc := [(r, .inr (2, [.ref b, .int (nI (L ++ lowB (lNat ((nI k + (if kUse cd = 0 then 0 else 64)) + (if kSide cd = 0 then 0 else 128)).toInt64) 1).length)])), (b, .inl (cB, cap, .inl f1_35))]) (q0 := 0) (ci := 2) hK hP hD [0, 1] rfl (by decide) rfl rfl rfl) rfl rfl hl.1 rfl (lv_room (Nat.le_of_ble_eq_true rfl)) d_Walk_putGroup_45 ⟨Nat.le_of_ble_eq_true rfl, Nat.le_of_ble_eq_true rfl⟩) hP hD hS hA [0, 1] [] [0, 1] rfl rfl (by decide) (by decide) (fun _ => rfl) (by decide) (fun _ => rfl) (fun u9 H locs hw hP hD hS => ?_)
    obtain ⟨f1_45, rfl⟩ : ∃ z, z = u9 := ⟨_, rfl⟩
    try dsimp only at hw
    have hP : va_P (dC, dI) classes [(r, .inr (2, [.ref b, .int (nI ((L ++ lowB (lNat ((nI k + (if kUse cd = 0 then 0 else 64)) + (if kSide cd = 0 then 0 else 128)).toInt64) 1) ++ lowB (lNat (kAhead cd).toInt64) 1).length)])), (b, .inl (cB, cap, .inl f1_45))] H := hP
    have hD : va_D A [(r, .inr (2, [.ref b, .int (nI ((L ++ lowB (lNat ((nI k + (if kUse cd = 0 then 0 else 64)) + (if kSide cd = 0 then 0 else 128)).toInt64) 1) ++ lowB (lNat (kAhead cd).toInt64) 1).length)])), (b, .inl (cB, cap, .inl f1_45))] := hD
    have hB_45 := hw
    refine lv_iload_n hx hb d_Walk_putGroup_48 rfl (lv_at hl 3 rfl) ?_
    refine lv_if_eq (tgt := 72) hx hb d_Walk_putGroup_49 (by decide) (fun c_49 => ?_) (fun c_49 => ?_)
    · exact kr_v f1_45 hx hb hr hK (hP.sub [0, 1] (by rw [kGB_n c_49]; first | done | rfl)) (hD.sub [0, 1] (by decide) (by rw [kGB_n c_49]; first | done | rfl)) hS (by rw [kGB_n c_49]; exact hB_45) d_Walk_putGroup_72 hlocks
    · refine lv_aload_n hx hb d_Walk_putGroup_52 rfl (lv_at hl 0 rfl) ?_
      refine lv_iload_n hx hb d_Walk_putGroup_53 rfl (lv_at hl 1 rfl) ?_
      refine kq_i (wr := [(r, .inr (2, [.ref b, .int (nI ((L ++ lowB (lNat ((nI k + (if kUse cd = 0 then 0 else 64)) + (if kSide cd = 0 then 0 else 128)).toInt64) 1) ++ lowB (lNat (kAhead cd).toInt64) 1).length)])), (b, .inl (cB, cap, .inl f1_45))]) (va_runS (As := [.int cd]) (rest := [.ref r]) ⟨hx, hb, hml, hown, hts⟩ (c_Code_asideByte l dC dI cI cB cZ _ cd ) (va_cwS 1 hts (gS mw223 mw212 mw31 mw213) rfl rfl rfl (by decide +kernel) ⟨Nat.le_of_ble_eq_true rfl, Nat.le_of_ble_eq_true rfl⟩) (kpS (wc := []) hK hP hD [] rfl (by decide) rfl) rfl rfl hl.1 rfl (lv_room (Nat.le_of_ble_eq_true rfl)) d_Walk_putGroup_54 ⟨Nat.le_of_ble_eq_true rfl, Nat.le_of_ble_eq_true rfl⟩) hP hD hS hA [] [0, 1] [0, 1] rfl rfl (by decide) (by decide) rfl (fun r_54 H locs hw hP hS => ?_)
      have e_54 := hw
      refine kt_i e_54 ?_
      refine lv_i2l (v := (kAside cd).toInt64) hx hb d_Walk_putGroup_57 rfl ?_
      refine lv_iconst (v := 1) hx hb d_Walk_putGroup_58 (by decide) ?_
      refine kc_v (wr := []) (w2 := fun (u9 : (Nat → Int32)) => [(r, .inr (2, [.ref b, .int (nI (((L ++ lowB (lNat ((nI k + (if kUse cd = 0 then 0 else 64)) + (if kSide cd = 0 then 0 else 128)).toInt64) 1) ++ lowB (lNat (kAhead cd).toInt64) 1) ++ lowB (lNat (kAside cd).toInt64) 1).length)])), (b, .inl (cB, cap, .inl u9))]) (va_runV (As := [.long (kAside cd).toInt64, .int 1]) (rest := []) ⟨hx, hb, hml, hown, hts⟩ (c_Row_addLowest l dC dI cI cB cZ _ r b cap f1_45 ((L ++ lowB (lNat ((nI k + (if kUse cd = 0 then 0 else 64)) + (if kSide cd = 0 then 0 else 128)).toInt64) 1) ++ lowB (lNat (kAhead cd).toInt64) 1) (kAside cd).toInt64 1 (by first | with_reducible assumption | omega | decide) (by first | with_reducible assumption | omega | decide) (by simp only [List.length_append, lowB_len, List.length_nil]; omega)) (cwV 2 hts (gV mw193 mw194 mw195 mw27 mw196) rfl rfl rfl (by decide +kernel) ⟨Nat.le_of_ble_eq_true rfl, Nat.le_of_ble_eq_true rfl⟩) (kpV (wc := [(r, .inr (2, [.ref b, .int (nI ((L ++ lowB (lNat ((nI k + (if kUse cd = 0 then 0 else 64)) + (if kSide cd = 0 then 0 else 128)).toInt64) 1) ++ lowB (lNat (kAhead cd).toInt64) 1).length)])), (b, .inl (cB, cap, .inl f1_45))]) (q0 := 0) (ci := 2) hK hP hD [0, 1] rfl (by decide) rfl rfl rfl) rfl rfl hl.1 rfl (lv_room (Nat.le_of_ble_eq_true rfl)) d_Walk_putGroup_59 ⟨Nat.le_of_ble_eq_true rfl, Nat.le_of_ble_eq_true rfl⟩) hP hD hS hA [0, 1] [] [0, 1] rfl rfl (by decide) (by decide) (fun _ => rfl) (by decide) (fun _ => rfl) (fun u9 H locs hw hP hD hS => ?_)
      obtain ⟨f1_59, rfl⟩ : ∃ z, z = u9 := ⟨_, rfl⟩
      try dsimp only at hw
      have hP : va_P (dC, dI) classes [(r, .inr (2, [.ref b, .int (nI (((L ++ lowB (lNat ((nI k + (if kUse cd = 0 then 0 else 64)) + (if kSide cd = 0 then 0 else 128)).toInt64) 1) ++ lowB (lNat (kAhead cd).toInt64) 1) ++ lowB (lNat (kAside cd).toInt64) 1).length)])), (b, .inl (cB, cap, .inl f1_59))] H := hP
      have hD : va_D A [(r, .inr (2, [.ref b, .int (nI (((L ++ lowB (lNat ((nI k + (if kUse cd = 0 then 0 else 64)) + (if kSide cd = 0 then 0 else 128)).toInt64) 1) ++ lowB (lNat (kAhead cd).toInt64) 1) ++ lowB (lNat (kAside cd).toInt64) 1).length)])), (b, .inl (cB, cap, .inl f1_59))] := hD
      have hB_59 := hw
      refine lv_aload_n hx hb d_Walk_putGroup_62 rfl (lv_at hl 0 rfl) ?_
      refine lv_iload_n hx hb d_Walk_putGroup_63 rfl (lv_at hl 1 rfl) ?_
      refine kq_i (wr := [(r, .inr (2, [.ref b, .int (nI (((L ++ lowB (lNat ((nI k + (if kUse cd = 0 then 0 else 64)) + (if kSide cd = 0 then 0 else 128)).toInt64) 1) ++ lowB (lNat (kAhead cd).toInt64) 1) ++ lowB (lNat (kAside cd).toInt64) 1).length)])), (b, .inl (cB, cap, .inl f1_59))]) (va_runS (As := [.int cd]) (rest := [.ref r]) ⟨hx, hb, hml, hown, hts⟩ (c_Code_turnByte l dC dI cI cB cZ _ cd ) (va_cwS 1 hts (gS mw224 mw215 mw31 mw216) rfl rfl rfl (by decide +kernel) ⟨Nat.le_of_ble_eq_true rfl, Nat.le_of_ble_eq_true rfl⟩) (kpS (wc := []) hK hP hD [] rfl (by decide) rfl) rfl rfl hl.1 rfl (lv_room (Nat.le_of_ble_eq_true rfl)) d_Walk_putGroup_64 ⟨Nat.le_of_ble_eq_true rfl, Nat.le_of_ble_eq_true rfl⟩) hP hD hS hA [] [0, 1] [0, 1] rfl rfl (by decide) (by decide) rfl (fun r_64 H locs hw hP hS => ?_)
      have e_64 := hw
      refine kt_i e_64 ?_
      refine lv_i2l (v := (kTurn cd).toInt64) hx hb d_Walk_putGroup_67 rfl ?_
      refine lv_iconst (v := 1) hx hb d_Walk_putGroup_68 (by decide) ?_
      refine kc_v (wr := []) (w2 := fun (u9 : (Nat → Int32)) => [(r, .inr (2, [.ref b, .int (nI ((((L ++ lowB (lNat ((nI k + (if kUse cd = 0 then 0 else 64)) + (if kSide cd = 0 then 0 else 128)).toInt64) 1) ++ lowB (lNat (kAhead cd).toInt64) 1) ++ lowB (lNat (kAside cd).toInt64) 1) ++ lowB (lNat (kTurn cd).toInt64) 1).length)])), (b, .inl (cB, cap, .inl u9))]) (va_runV (As := [.long (kTurn cd).toInt64, .int 1]) (rest := []) ⟨hx, hb, hml, hown, hts⟩ (c_Row_addLowest l dC dI cI cB cZ _ r b cap f1_59 (((L ++ lowB (lNat ((nI k + (if kUse cd = 0 then 0 else 64)) + (if kSide cd = 0 then 0 else 128)).toInt64) 1) ++ lowB (lNat (kAhead cd).toInt64) 1) ++ lowB (lNat (kAside cd).toInt64) 1) (kTurn cd).toInt64 1 (by first | with_reducible assumption | omega | decide) (by first | with_reducible assumption | omega | decide) (by simp only [List.length_append, lowB_len, List.length_nil]; omega)) (cwV 2 hts (gV mw193 mw194 mw195 mw27 mw196) rfl rfl rfl (by decide +kernel) ⟨Nat.le_of_ble_eq_true rfl, Nat.le_of_ble_eq_true rfl⟩) (kpV (wc := [(r, .inr (2, [.ref b, .int (nI (((L ++ lowB (lNat ((nI k + (if kUse cd = 0 then 0 else 64)) + (if kSide cd = 0 then 0 else 128)).toInt64) 1) ++ lowB (lNat (kAhead cd).toInt64) 1) ++ lowB (lNat (kAside cd).toInt64) 1).length)])), (b, .inl (cB, cap, .inl f1_59))]) (q0 := 0) (ci := 2) hK hP hD [0, 1] rfl (by decide) rfl rfl rfl) rfl rfl hl.1 rfl (lv_room (Nat.le_of_ble_eq_true rfl)) d_Walk_putGroup_69 ⟨Nat.le_of_ble_eq_true rfl, Nat.le_of_ble_eq_true rfl⟩) hP hD hS hA [0, 1] [] [0, 1] rfl rfl (by decide) (by decide) (fun _ => rfl) (by decide) (fun _ => rfl) (fun u9 H locs hw hP hD hS => ?_)
      obtain ⟨f1_69, rfl⟩ : ∃ z, z = u9 := ⟨_, rfl⟩
      try dsimp only at hw
      have hP : va_P (dC, dI) classes [(r, .inr (2, [.ref b, .int (nI ((((L ++ lowB (lNat ((nI k + (if kUse cd = 0 then 0 else 64)) + (if kSide cd = 0 then 0 else 128)).toInt64) 1) ++ lowB (lNat (kAhead cd).toInt64) 1) ++ lowB (lNat (kAside cd).toInt64) 1) ++ lowB (lNat (kTurn cd).toInt64) 1).length)])), (b, .inl (cB, cap, .inl f1_69))] H := hP
      have hD : va_D A [(r, .inr (2, [.ref b, .int (nI ((((L ++ lowB (lNat ((nI k + (if kUse cd = 0 then 0 else 64)) + (if kSide cd = 0 then 0 else 128)).toInt64) 1) ++ lowB (lNat (kAhead cd).toInt64) 1) ++ lowB (lNat (kAside cd).toInt64) 1) ++ lowB (lNat (kTurn cd).toInt64) 1).length)])), (b, .inl (cB, cap, .inl f1_69))] := hD
      have hB_69 := hw
      exact kr_v f1_69 hx hb hr hK (hP.sub [0, 1] (by rw [kGB_y c_49]; first | done | rfl)) (hD.sub [0, 1] (by decide) (by rw [kGB_y c_49]; first | done | rfl)) hS (by rw [kGB_y c_49]; exact hB_69) d_Walk_putGroup_72 hlocks
  have J_20 : ∀ (u5 : Int32), (u5 = (if kUse cd = 0 then 0 else 64)) → ∀ (H : Heap) (locs : List Loc), va_P (dC, dI) classes [(r, .inr (2, [.ref b, .int (nI L.length)])), (b, .inl (cB, cap, .inl f))] H → va_D A [(r, .inr (2, [.ref b, .int (nI L.length)])), (b, .inl (cB, cap, .inl f))] → va_S A s.heap H locs → ∀ (ls : Array Slot), lv_has ls 4 [(0, .ref r), (1, .int cd), (2, .int (nI k)), (3, .int (kSide cd))] → W p l e (headSpec w_Walk_putGroup ({ frames := 2, cells := 0, slots := 0, locals := 40 })).room s m [.ref r, .int cd, .int (nI k)].toArray below meth c H locs 0 0 (MQ below (Qc_Walk_putGroup dC dI cI cB cZ r b cap f L cd k A) [.ref r, .int cd, .int (nI k)].toArray s 0 0 A) (F0 m 20 ls [.int u5, .int (nI k), .ref r]) := by
    intro u5 hu H locs hP hD hS ls hl
    subst hu
    refine lv_iadd hx hb d_Walk_putGroup_20 ?_
    refine lv_iload_n hx hb d_Walk_putGroup_21 rfl (lv_at hl 3 rfl) ?_
    refine lv_if_eq (tgt := 31) hx hb d_Walk_putGroup_22 (by decide) (fun c_22 => ?_) (fun c_22 => ?_)
    · refine lv_iconst (v := 0) hx hb d_Walk_putGroup_31 (by decide) ?_
      exact J_32 0 ((if_pos c_22).symm) _ _ (hP.sub [0, 1] (rfl)) (hD.sub [0, 1] (by decide) (rfl)) hS ls (lv_sub hl [0, 1, 2, 3] rfl)
    · refine lv_sipush (v := 128) hx hb d_Walk_putGroup_25 (by decide) ?_
      refine lv_goto (tgt := 32) hx hb d_Walk_putGroup_28 (by decide) ?_
      exact J_32 128 ((if_neg c_22).symm) _ _ (hP.sub [0, 1] (rfl)) (hD.sub [0, 1] (by decide) (rfl)) hS ls (lv_sub hl [0, 1, 2, 3] rfl)
  refine lv_iload_n hx hb d_Walk_putGroup_0 rfl (lv_at hl 1 rfl) ?_
  refine kq_i (wr := [(r, .inr (2, [.ref b, .int (nI L.length)])), (b, .inl (cB, cap, .inl f))]) (va_runS (As := [.int cd]) (rest := []) ⟨hx, hb, hml, hown, hts⟩ (c_Code_hasSide l dC dI cI cB cZ _ cd ) (va_cwS 1 hts (gS mw208 mw209 mw31 mw210) rfl rfl rfl (by decide +kernel) ⟨Nat.le_of_ble_eq_true rfl, Nat.le_of_ble_eq_true rfl⟩) (kpS (wc := []) hK hP hD [] rfl (by decide) rfl) rfl rfl hl.1 rfl (lv_room (Nat.le_of_ble_eq_true rfl)) d_Walk_putGroup_1 ⟨Nat.le_of_ble_eq_true rfl, Nat.le_of_ble_eq_true rfl⟩) hP hD hS hA [] [0, 1] [0, 1] rfl rfl (by decide) (by decide) rfl (fun r_1 H locs hw hP hS => ?_)
  have e_1 := hw
  refine kt_i e_1 ?_
  refine lv_istore_n (lv' := [(3, .int (kSide cd)), (0, .ref r), (1, .int cd), (2, .int (nI k))]) hx hb d_Walk_putGroup_4 rfl hl (by decide) rfl (fun ls hl => ?_)
  refine lv_aload_n hx hb d_Walk_putGroup_5 rfl (lv_at hl 1 rfl) ?_
  refine lv_iload_n hx hb d_Walk_putGroup_6 rfl (lv_at hl 3 rfl) ?_
  refine lv_iload_n hx hb d_Walk_putGroup_7 rfl (lv_at hl 2 rfl) ?_
  refine kq_i (wr := [(r, .inr (2, [.ref b, .int (nI L.length)])), (b, .inl (cB, cap, .inl f))]) (va_runS (As := [.int cd]) (rest := [.int (nI k), .ref r]) ⟨hx, hb, hml, hown, hts⟩ (c_Code_uses l dC dI cI cB cZ _ cd ) (va_cwS 1 hts (gS mw217 mw218 mw31 mw219) rfl rfl rfl (by decide +kernel) ⟨Nat.le_of_ble_eq_true rfl, Nat.le_of_ble_eq_true rfl⟩) (kpS (wc := []) hK hP hD [] rfl (by decide) rfl) rfl rfl hl.1 rfl (lv_room (Nat.le_of_ble_eq_true rfl)) d_Walk_putGroup_8 ⟨Nat.le_of_ble_eq_true rfl, Nat.le_of_ble_eq_true rfl⟩) hP hD hS hA [] [0, 1] [0, 1] rfl rfl (by decide) (by decide) rfl (fun r_8 H locs hw hP hS => ?_)
  have e_8 := hw
  refine kt_i e_8 ?_
  refine lv_if_eq (tgt := 19) hx hb d_Walk_putGroup_11 (by decide) (fun c_11 => ?_) (fun c_11 => ?_)
  · refine lv_iconst (v := 0) hx hb d_Walk_putGroup_19 (by decide) ?_
    exact J_20 0 ((if_pos c_11).symm) _ _ (hP.sub [0, 1] (rfl)) (hD.sub [0, 1] (by decide) (rfl)) hS ls (lv_sub hl [1, 2, 3, 0] rfl)
  · refine lv_bipush (v := 64) hx hb d_Walk_putGroup_14 (by decide) ?_
    refine lv_goto (tgt := 20) hx hb d_Walk_putGroup_16 (by decide) ?_
    exact J_20 64 ((if_neg c_11).symm) _ _ (hP.sub [0, 1] (rfl)) (hD.sub [0, 1] (by decide) (rfl)) hS ls (lv_sub hl [1, 2, 3, 0] rfl)
abbrev Qc_Walk_putGroups (dC : Nat → ClassId) (dI : Nat → Nat → Nat) (cI cB cZ : ClassId) (w : Nat) (a : Nat) (fw : Nat → Int32) (M : List Int32) (x : Int32) (y : Int32) (g : Int32) (t : Int32) (r : Nat) (b : Nat) (cap : Nat) (f : Nat → Int32) (L : List Nat) (A : Nat → Prop) := va_Qv (fun (u9 : (Nat → Int32)) => (BRow cap u9 (L ++ (kGr 0 M).flatMap kGB))) (ka (dC, dI) classes [(cI, .int), (cB, .byte), (cZ, .boolean)] (fun (u9 : (Nat → Int32)) => [(w, .inr (1, [.ref a, .int (nI M.length), .int x, .int y, .int g, .int t])), (a, .inl (cI, 1024, .inl fw)), (r, .inr (2, [.ref b, .int (nI (L ++ (kGr 0 M).flatMap kGB).length)])), (b, .inl (cB, cap, .inl u9))]) A) A
set_option maxHeartbeats 1000000 in
set_option maxRecDepth 100000 in
/-- Walk.putGroups -/
theorem c_Walk_putGroups (l : Launch) (dC : Nat → ClassId) (dI : Nat → Nat → Nat) (cI cB cZ : ClassId) (sz : Nat) (w : Nat) (a : Nat) (fw : Nat → Int32) (M : List Int32) (x : Int32) (y : Int32) (g : Int32) (t : Int32) (r : Nat) (b : Nat) (cap : Nat) (f : Nat → Int32) (L : List Nat) (hW : WRow fw M) (hB : BRow cap f L) (hrm : L.length + 4 * M.length ≤ cap) : Met l y_Walk_putGroups w_Walk_putGroups ({ frames := 3, cells := 0, slots := 0, locals := 63 }) (va_Pc [.ref w, .ref r] (kp (dC, dI) classes [(cI, .int), (cB, .byte), (cZ, .boolean)] [(w, .inr (1, [.ref a, .int (nI M.length), .int x, .int y, .int g, .int t])), (a, .inl (cI, 1024, .inl fw)), (r, .inr (2, [.ref b, .int (nI L.length)])), (b, .inl (cB, cap, .inl f))] sz)) (Qc_Walk_putGroups dC dI cI cB cZ w a fw M x y g t r b cap f L (va_A [(w, .inr (1, [.ref a, .int (nI M.length), .int x, .int y, .int g, .int t])), (a, .inl (cI, 1024, .inl fw)), (r, .inr (2, [.ref b, .int (nI L.length)])), (b, .inl (cB, cap, .inl f))] sz)) 0 0 (va_A [(w, .inr (1, [.ref a, .int (nI M.length), .int x, .int y, .int g, .int t])), (a, .inl (cI, 1024, .inl fw)), (r, .inr (2, [.ref b, .int (nI L.length)])), (b, .inl (cB, cap, .inl f))] sz) := by
  refine Met.ofW (cc := prog_5_method_15_code) (maxL := 4) (ret := none) (by decide) rfl ?_
  intro p e s m args below meth c s₁ B hml hv
  obtain ⟨rfl, hsz, hP, hK, hD0⟩ := hv
  have hx := B.exec
  have hb := B.bytes
  have hr := B.returns
  have hts := fun w h => atoms_spec (ws := w_Walk_putGroups) B.pre w (List.mem_cons_of_mem _ h)
  have hown : s.vm.findClass "DemoTape$Walk" = some m.cls := findClass_of_methodNamed B.named
  have hlocks := B.notSynchronized
  subst hsz
  have hD := hD0.self (sz := s.heap.size)
  generalize hAe : va_A ([(w, .inr (1, [.ref a, .int (nI M.length), .int x, .int y, .int g, .int t])), (a, .inl (cI, 1024, .inl fw)), (r, .inr (2, [.ref b, .int (nI L.length)])), (b, .inl (cB, cap, .inl f))] : va_W) s.heap.size = A at hD ⊢
  have hA : ∀ q : Nat, s.heap.size ≤ q → A q := fun q h => by rw [← hAe]; exact Or.inr h
  have hS : va_S A s.heap s.heap [] := va_S.rf
  have hP : va_P (dC, dI) classes [(w, .inr (1, [.ref a, .int (nI M.length), .int x, .int y, .int g, .int t])), (a, .inl (cI, 1024, .inl fw)), (r, .inr (2, [.ref b, .int (nI L.length)])), (b, .inl (cB, cap, .inl f))] s.heap := hP
  obtain ⟨hf, hy, hc, hcap⟩ := id hB
  have hM := hW.2
  have hl := lv_entry ([.ref w, .ref r]) (n := 4) (Nat.le_of_ble_eq_true rfl)
  rw [lg_entry_eq]
  generalize (lg_sl ([.ref w, .ref r]) ++ List.replicate (4 - (lg_sl ([.ref w, .ref r])).length) Slot.unset).toArray = ls at hl ⊢
  have hl : lv_has ls 4 [(0, .ref w), (1, .ref r)] := hl
  have J_4 : ∀ (fuel : Nat) (j : Nat) (n9 : Nat) (L9 : List Nat) (f9 : Nat → Int32), (M.length - j < fuel) → (j ≤ M.length) → (n9 ≤ 62) → (L9 ++ (kGr n9 (M.drop j)).flatMap kGB = L ++ (kGr 0 M).flatMap kGB) → (BRow cap f9 L9) → (L9.length + 4 * (M.length - j) ≤ cap) → ∀ (H : Heap) (locs : List Loc), va_P (dC, dI) classes [(w, .inr (1, [.ref a, .int (nI M.length), .int x, .int y, .int g, .int t])), (a, .inl (cI, 1024, .inl fw)), (r, .inr (2, [.ref b, .int (nI L9.length)])), (b, .inl (cB, cap, .inl f9))] H → va_D A [(w, .inr (1, [.ref a, .int (nI M.length), .int x, .int y, .int g, .int t])), (a, .inl (cI, 1024, .inl fw)), (r, .inr (2, [.ref b, .int (nI L9.length)])), (b, .inl (cB, cap, .inl f9))] → va_S A s.heap H locs → ∀ (ls : Array Slot), lv_has ls 4 [(0, .ref w), (1, .ref r), (2, .int (nI n9)), (3, .int (nI j))] → W p l e (headSpec w_Walk_putGroups ({ frames := 3, cells := 0, slots := 0, locals := 63 })).room s m [.ref w, .ref r].toArray below meth c H locs 0 0 (MQ below (Qc_Walk_putGroups dC dI cI cB cZ w a fw M x y g t r b cap f L A) [.ref w, .ref r].toArray s 0 0 A) (F0 m 4 ls []) := by
    intro fuel
    induction fuel with
    | zero => intro j n9 L9 f9 hm; exact absurd hm (Nat.not_lt_zero _)
    | succ fuel ih_4 =>
      intro j n9 L9 f9 hm hj hn9 he hB9 hr9 H locs hP hD hS ls hl
      refine lv_iload_n hx hb d_Walk_putGroups_4 rfl (lv_at hl 3 rfl) ?_
      refine lv_aload_n hx hb d_Walk_putGroups_5 rfl (lv_at hl 0 rfl) ?_
      refine va_get (D := (dC, dI)) (ci := 1) (v := .int (nI M.length)) (C := "DemoTape$Walk") (T := F_Walk) (N := 6) hx hb hts i_Walk hown hK hP 0 rfl rfl 1 (by decide) (hts _ mw48) (fun _ h9 => h9) rfl d_Walk_putGroups_6 ?_
      refine lv_icmp_ge (tgt := 42) hx hb d_Walk_putGroups_9 (by decide) (fun c_9 => ?_) (fun c_9 => ?_)
      · have n_9 := kn_le (a := M.length) (b := j) c_9 rfl rfl (by omega) (by omega)
        have e9 : L9 = (L ++ (kGr 0 M).flatMap kGB) := by rw [← he, List.drop_of_length_le (by omega)]; exact (List.append_nil _).symm
        exact kr_v f9 hx hb hr hK (hP.sub [0, 1, 2, 3] (by rw [← e9]; first | done | rfl)) (hD.sub [0, 1, 2, 3] (by decide) (by rw [← e9]; first | done | rfl)) hS (by rw [← e9]; exact hB9) d_Walk_putGroups_42 hlocks
      · have n_9 := kn_nle (a := M.length) (b := j) c_9 rfl rfl (by omega) (by omega)
        refine lv_iinc (v := nI (n9 + 1)) (lv' := [(2, .int (nI (n9 + 1))), (0, .ref w), (1, .ref r), (3, .int (nI j))]) hx hb d_Walk_putGroups_12 hl (k := 2) rfl (by first | rfl | exact nI_1 _) (by decide) rfl (fun ls hl => ?_)
        refine lv_aload_n hx hb d_Walk_putGroups_15 rfl (lv_at hl 1 rfl) ?_
        refine lv_iload_n hx hb d_Walk_putGroups_16 rfl (lv_at hl 3 rfl) ?_
        refine lv_iload_n hx hb d_Walk_putGroups_17 rfl (lv_at hl 0 rfl) ?_
        refine kq_i (wr := [(r, .inr (2, [.ref b, .int (nI L9.length)])), (b, .inl (cB, cap, .inl f9))]) (va_runV (As := [.int (nI j), .int (nI (n9 + 1))]) (rest := []) ⟨hx, hb, hml, hown, hts⟩ (c_Walk_endsGroup l dC dI cI cB cZ _ w a fw M x y g t j (n9 + 1) (by first | with_reducible assumption | omega | decide) (by first | with_reducible assumption | omega | decide) (by first | with_reducible assumption | omega | decide)) (cwV 2 hts (gV mw201 mw203 mw1 mw26 mw204) rfl rfl rfl (by decide +kernel) ⟨Nat.le_of_ble_eq_true rfl, Nat.le_of_ble_eq_true rfl⟩) (kpV (wc := [(w, .inr (1, [.ref a, .int (nI M.length), .int x, .int y, .int g, .int t])), (a, .inl (cI, 1024, .inl fw))]) (q0 := 0) (ci := 1) hK hP hD [0, 1] rfl (by decide) rfl rfl rfl) rfl rfl hl.1 rfl (lv_room (Nat.le_of_ble_eq_true rfl)) d_Walk_putGroups_18 ⟨Nat.le_of_ble_eq_true rfl, Nat.le_of_ble_eq_true rfl⟩) hP hD hS hA [0, 1] [2, 3] [2, 3, 0, 1] rfl rfl (by decide) (by decide) rfl (fun r_18 H locs hw hP hS => ?_)
        have e_18 := hw
        refine kt_i e_18 ?_
        refine lv_if_eq (tgt := 36) hx hb d_Walk_putGroups_21 (by decide) (fun c_21 => ?_) (fun c_21 => ?_)
        · refine lv_iinc (v := nI (j + 1)) (lv' := [(3, .int (nI (j + 1))), (2, .int (nI (n9 + 1))), (0, .ref w), (1, .ref r)]) hx hb d_Walk_putGroups_36 hl (k := 3) rfl (by first | rfl | exact nI_1 _) (by decide) rfl (fun ls hl => ?_)
          refine lv_goto (tgt := 4) hx hb d_Walk_putGroups_39 (by decide) ?_
          exact ih_4 (j + 1) (n9 + 1) L9 f9 (by omega) (by first | with_reducible assumption | omega) (kEnd_n c_21 hn9) (by rw [← kGr_n n_9 c_21]; exact he) (hB9) (by first | with_reducible assumption | omega) _ _ (hP.sub [0, 1, 2, 3] (rfl)) (hD.sub [0, 1, 2, 3] (by decide) (rfl)) hS ls (lv_sub hl [2, 3, 1, 0] rfl)
        · refine lv_aload_n hx hb d_Walk_putGroups_24 rfl (lv_at hl 2 rfl) ?_
          refine lv_aload_n hx hb d_Walk_putGroups_25 rfl (lv_at hl 1 rfl) ?_
          refine lv_iload_n hx hb d_Walk_putGroups_26 rfl (lv_at hl 3 rfl) ?_
          refine kq_i (wr := [(r, .inr (2, [.ref b, .int (nI L9.length)])), (b, .inl (cB, cap, .inl f9))]) (va_runV (As := [.int (nI j)]) (rest := [.ref r]) ⟨hx, hb, hml, hown, hts⟩ (c_Walk_codeAt l dC dI cI cB cZ _ w a fw M x y g t (nI j) (by first | with_reducible assumption | omega | decide)) (cwV 1 hts (gV mw173 mw174 mw175 mw26 mw176) rfl rfl rfl (by decide +kernel) ⟨Nat.le_of_ble_eq_true rfl, Nat.le_of_ble_eq_true rfl⟩) (kpV (wc := [(w, .inr (1, [.ref a, .int (nI M.length), .int x, .int y, .int g, .int t])), (a, .inl (cI, 1024, .inl fw))]) (q0 := 0) (ci := 1) hK hP hD [0, 1] rfl (by decide) rfl rfl rfl) rfl rfl hl.1 rfl (lv_room (Nat.le_of_ble_eq_true rfl)) d_Walk_putGroups_27 ⟨Nat.le_of_ble_eq_true rfl, Nat.le_of_ble_eq_true rfl⟩) hP hD hS hA [0, 1] [2, 3] [2, 3, 0, 1] rfl rfl (by decide) (by decide) rfl (fun r_27 H locs hw hP hS => ?_)
          have e_27 := hw
          refine kt_i e_27 ?_
          refine kt_i (y := (M[j]?).getD (-1)) (kGet_nI (by omega)) ?_
          refine lv_iload_n hx hb d_Walk_putGroups_30 rfl (lv_at hl 0 rfl) ?_
          refine kc_v (wr := [(w, .inr (1, [.ref a, .int (nI M.length), .int x, .int y, .int g, .int t])), (a, .inl (cI, 1024, .inl fw))]) (w2 := fun (u9 : (Nat → Int32)) => [(w, .inr (1, [.ref a, .int (nI M.length), .int x, .int y, .int g, .int t])), (a, .inl (cI, 1024, .inl fw)), (r, .inr (2, [.ref b, .int (nI (L9 ++ kGB (((M[j]?).getD (-1)), (n9 + 1))).length)])), (b, .inl (cB, cap, .inl u9))]) (va_runS (As := [.ref r, .int ((M[j]?).getD (-1)), .int (nI (n9 + 1))]) (rest := []) ⟨hx, hb, hml, hown, hts⟩ (c_Walk_putGroup l dC dI cI cB cZ _ r b cap f9 L9 ((M[j]?).getD (-1)) (n9 + 1) (by first | with_reducible assumption | omega | decide) (by first | with_reducible assumption | omega | decide)) (va_cwS 3 hts (gS mw205 mw206 mw26 mw207) rfl rfl rfl (by decide +kernel) ⟨Nat.le_of_ble_eq_true rfl, Nat.le_of_ble_eq_true rfl⟩) (kpS (wc := [(r, .inr (2, [.ref b, .int (nI L9.length)])), (b, .inl (cB, cap, .inl f9))]) hK hP hD [2, 3] rfl (by decide) rfl) rfl rfl hl.1 rfl (lv_room (Nat.le_of_ble_eq_true rfl)) d_Walk_putGroups_31 ⟨Nat.le_of_ble_eq_true rfl, Nat.le_of_ble_eq_true rfl⟩) hP hD hS hA [2, 3] [0, 1] [0, 1, 2, 3] rfl rfl (by decide) (by decide) (fun _ => rfl) (by decide) (fun _ => rfl) (fun u9 H locs hw hP hD hS => ?_)
          obtain ⟨f1_31, rfl⟩ : ∃ z, z = u9 := ⟨_, rfl⟩
          try dsimp only at hw
          have hP : va_P (dC, dI) classes [(w, .inr (1, [.ref a, .int (nI M.length), .int x, .int y, .int g, .int t])), (a, .inl (cI, 1024, .inl fw)), (r, .inr (2, [.ref b, .int (nI (L9 ++ kGB (((M[j]?).getD (-1)), (n9 + 1))).length)])), (b, .inl (cB, cap, .inl f1_31))] H := hP
          have hD : va_D A [(w, .inr (1, [.ref a, .int (nI M.length), .int x, .int y, .int g, .int t])), (a, .inl (cI, 1024, .inl fw)), (r, .inr (2, [.ref b, .int (nI (L9 ++ kGB (((M[j]?).getD (-1)), (n9 + 1))).length)])), (b, .inl (cB, cap, .inl f1_31))] := hD
          have hB_31 := hw
          refine lv_iconst (v := 0) hx hb d_Walk_putGroups_34 (by decide) ?_
          refine lv_istore_n (lv' := [(2, .int 0), (0, .ref w), (1, .ref r), (3, .int (nI j))]) hx hb d_Walk_putGroups_35 rfl hl (by decide) rfl (fun ls hl => ?_)
          refine lv_iinc (v := nI (j + 1)) (lv' := [(3, .int (nI (j + 1))), (2, .int 0), (0, .ref w), (1, .ref r)]) hx hb d_Walk_putGroups_36 hl (k := 3) rfl (by first | rfl | exact nI_1 _) (by decide) rfl (fun ls hl => ?_)
          refine lv_goto (tgt := 4) hx hb d_Walk_putGroups_39 (by decide) ?_
          exact ih_4 (j + 1) 0 (L9 ++ kGB (((M[j]?).getD (-1)), (n9 + 1))) f1_31 (by omega) (by first | with_reducible assumption | omega) (by first | with_reducible assumption | omega) (by rw [← he, kGr_y n_9 c_21, List.flatMap_cons, List.append_assoc]) (hB_31) (by rw [List.length_append]; have := kGB_len (((M[j]?).getD (-1)), n9 + 1); omega) _ _ (hP.sub [0, 1, 2, 3] (rfl)) (hD.sub [0, 1, 2, 3] (by decide) (rfl)) hS ls (lv_sub hl [2, 3, 1, 0] rfl)
  refine lv_iconst (v := 0) hx hb d_Walk_putGroups_0 (by decide) ?_
  refine lv_istore_n (lv' := [(2, .int 0), (0, .ref w), (1, .ref r)]) hx hb d_Walk_putGroups_1 rfl hl (by decide) rfl (fun ls hl => ?_)
  refine lv_iconst (v := 0) hx hb d_Walk_putGroups_2 (by decide) ?_
  refine lv_istore_n (lv' := [(3, .int 0), (2, .int 0), (0, .ref w), (1, .ref r)]) hx hb d_Walk_putGroups_3 rfl hl (by decide) rfl (fun ls hl => ?_)
  exact J_4 _ 0 0 L f (Nat.lt_succ_self _) (by first | with_reducible assumption | omega) (by first | with_reducible assumption | omega) (rfl) (hB) (hrm) _ _ (hP.sub [0, 1, 2, 3] (rfl)) (hD.sub [0, 1, 2, 3] (by decide) (rfl)) hS ls (lv_sub hl [2, 3, 1, 0] rfl)
abbrev Qc_Walk_putInto (dC : Nat → ClassId) (dI : Nat → Nat → Nat) (cI cB cZ : ClassId) (tM : Nat) (w : Nat) (a : Nat) (fw : Nat → Int32) (M : List Int32) (x : Int32) (y : Int32) (g : Int32) (t : Int32) (r : Nat) (b : Nat) (cap : Nat) (f : Nat → Int32) (A : Nat → Prop) := va_Qv (fun (u9 : (Nat → Int32)) => (BRow cap u9 (kOut M x y g t))) (ka (dC, dI) classes [(cI, .int), (cB, .byte), (cZ, .boolean)] (fun (u9 : (Nat → Int32)) => [(w, .inr (1, [.ref a, .int (nI M.length), .int x, .int y, .int g, .int t])), (a, .inl (cI, 1024, .inl fw)), (r, .inr (2, [.ref b, .int (nI (kOut M x y g t).length)])), (b, .inl (cB, cap, .inl u9))]) A) A
set_option maxHeartbeats 1000000 in
set_option maxRecDepth 100000 in
/-- Walk.putInto -/
theorem c_Walk_putInto (l : Launch) (dC : Nat → ClassId) (dI : Nat → Nat → Nat) (cI cB cZ : ClassId) (sz : Nat) (tM : Nat) (w : Nat) (a : Nat) (fw : Nat → Int32) (M : List Int32) (x : Int32) (y : Int32) (g : Int32) (t : Int32) (r : Nat) (b : Nat) (cap : Nat) (f : Nat → Int32) (hW : WRow fw M) (hB : BRow cap f []) (hrm : 14 + 4 * M.length ≤ cap) : Met l y_Walk_putInto w_Walk_putInto ({ frames := 4, cells := 0, slots := 0, locals := 86 }) (va_Pc [.ref w, .ref r] (kps (dC, dI) classes [(cI, .int), (cB, .byte), (cZ, .boolean)] [(w, .inr (1, [.ref a, .int (nI M.length), .int x, .int y, .int g, .int t])), (a, .inl (cI, 1024, .inl fw)), (r, .inr (2, [.ref b, .int (nI ([] : List Nat).length)])), (b, .inl (cB, cap, .inl f))] sz tM)) (Qc_Walk_putInto dC dI cI cB cZ tM w a fw M x y g t r b cap f (va_A [(w, .inr (1, [.ref a, .int (nI M.length), .int x, .int y, .int g, .int t])), (a, .inl (cI, 1024, .inl fw)), (r, .inr (2, [.ref b, .int (nI ([] : List Nat).length)])), (b, .inl (cB, cap, .inl f))] sz)) 0 0 (va_A [(w, .inr (1, [.ref a, .int (nI M.length), .int x, .int y, .int g, .int t])), (a, .inl (cI, 1024, .inl fw)), (r, .inr (2, [.ref b, .int (nI ([] : List Nat).length)])), (b, .inl (cB, cap, .inl f))] sz) := by
  refine Met.ofW (cc := prog_5_method_14_code) (maxL := 3) (ret := none) (by decide) rfl ?_
  intro p e s m args below meth c s₁ B hml hv
  obtain ⟨rfl, ⟨hsz, hP, hK, hD0⟩, hMk⟩ := hv
  have hx := B.exec
  have hb := B.bytes
  have hr := B.returns
  have hts := fun w h => atoms_spec (ws := w_Walk_putInto) B.pre w (List.mem_cons_of_mem _ h)
  have hown : s.vm.findClass "DemoTape$Walk" = some m.cls := findClass_of_methodNamed B.named
  have hlocks := B.notSynchronized
  subst hsz
  have hD := hD0.self (sz := s.heap.size)
  generalize hAe : va_A ([(w, .inr (1, [.ref a, .int (nI M.length), .int x, .int y, .int g, .int t])), (a, .inl (cI, 1024, .inl fw)), (r, .inr (2, [.ref b, .int (nI ([] : List Nat).length)])), (b, .inl (cB, cap, .inl f))] : va_W) s.heap.size = A at hD hMk ⊢
  have hA : ∀ q : Nat, s.heap.size ≤ q → A q := fun q h => by rw [← hAe]; exact Or.inr h
  have hS : va_S A s.heap s.heap [] := va_S.rf
  have hP : va_P (dC, dI) classes [(w, .inr (1, [.ref a, .int (nI M.length), .int x, .int y, .int g, .int t])), (a, .inl (cI, 1024, .inl fw)), (r, .inr (2, [.ref b, .int (nI ([] : List Nat).length)])), (b, .inl (cB, cap, .inl f))] s.heap := hP
  have hM := hW.2
  have hl := lv_entry ([.ref w, .ref r]) (n := 3) (Nat.le_of_ble_eq_true rfl)
  rw [lg_entry_eq]
  generalize (lg_sl ([.ref w, .ref r]) ++ List.replicate (3 - (lg_sl ([.ref w, .ref r])).length) Slot.unset).toArray = ls at hl ⊢
  have hl : lv_has ls 3 [(0, .ref w), (1, .ref r)] := hl
  refine lv_iconst (v := 0) hx hb d_Walk_putInto_0 (by decide) ?_
  refine lv_istore_n (lv' := [(2, .int 0), (0, .ref w), (1, .ref r)]) hx hb d_Walk_putInto_1 rfl hl (by decide) rfl (fun ls hl => ?_)
  refine lv_iload_n hx hb d_Walk_putInto_2 rfl (lv_at hl 0 rfl) ?_
  refine va_getsN (C := "DemoTape") (n := "MARK") (d := "[I") (ref := "DemoTape") (host := "DemoTape") hx hb hMk.1 hS hown (hMk.2.2.1.use rfl) (fun _ h9 => h9) d_Walk_putInto_3 ?_
  refine va_tlen (v := 3) hx hb hMk.2.1 hS rfl d_Walk_putInto_6 ?_
  refine lv_icmp_ge (tgt := 27) hx hb d_Walk_putInto_7 (by decide) (fun c_7 => ?_) (fun c_7 => ?_)
  · exact absurd c_7 (by decide)
  · refine lv_aload_n hx hb d_Walk_putInto_10 rfl (lv_at hl 2 rfl) ?_
    refine va_getsN (C := "DemoTape") (n := "MARK") (d := "[I") (ref := "DemoTape") (host := "DemoTape") hx hb hMk.1 hS hown (hMk.2.2.1.use rfl) (fun _ h9 => h9) d_Walk_putInto_11 ?_
    refine lv_iload_n hx hb d_Walk_putInto_14 rfl (lv_at hl 0 rfl) ?_
    refine va_ti (v := .int 77) (i := 0) hx hb hMk.2.1 hS (vp_in_nI (n := 0) (N := 3) (by decide) (by decide)) rfl d_Walk_putInto_15 ?_
    refine lv_i2l (v := (77 : Int32).toInt64) hx hb d_Walk_putInto_16 rfl ?_
    refine lv_iconst (v := 1) hx hb d_Walk_putInto_17 (by decide) ?_
    refine kc_v (wr := [(w, .inr (1, [.ref a, .int (nI M.length), .int x, .int y, .int g, .int t])), (a, .inl (cI, 1024, .inl fw))]) (w2 := fun (u9 : (Nat → Int32)) => [(w, .inr (1, [.ref a, .int (nI M.length), .int x, .int y, .int g, .int t])), (a, .inl (cI, 1024, .inl fw)), (r, .inr (2, [.ref b, .int (nI (([] : List Nat) ++ lowB (lNat (77 : Int32).toInt64) 1).length)])), (b, .inl (cB, cap, .inl u9))]) (va_runV (As := [.long (77 : Int32).toInt64, .int 1]) (rest := []) ⟨hx, hb, hml, hown, hts⟩ (c_Row_addLowest l dC dI cI cB cZ _ r b cap f ([] : List Nat) (77 : Int32).toInt64 1 (by first | with_reducible assumption | omega | decide) (by first | with_reducible assumption | omega | decide) (by simp only [List.length_append, lowB_len, List.length_nil]; omega)) (cwV 2 hts (gV mw193 mw194 mw195 mw27 mw196) rfl rfl rfl (by decide +kernel) ⟨Nat.le_of_ble_eq_true rfl, Nat.le_of_ble_eq_true rfl⟩) (kpV (wc := [(r, .inr (2, [.ref b, .int (nI ([] : List Nat).length)])), (b, .inl (cB, cap, .inl f))]) (q0 := 2) (ci := 2) hK hP hD [2, 3] rfl (by decide) rfl rfl rfl) rfl rfl hl.1 rfl (lv_room (Nat.le_of_ble_eq_true rfl)) d_Walk_putInto_18 ⟨Nat.le_of_ble_eq_true rfl, Nat.le_of_ble_eq_true rfl⟩) hP hD hS hA [2, 3] [0, 1] [0, 1, 2, 3] rfl rfl (by decide) (by decide) (fun _ => rfl) (by decide) (fun _ => rfl) (fun u9 H locs hw hP hD hS => ?_)
    obtain ⟨f1_18, rfl⟩ : ∃ z, z = u9 := ⟨_, rfl⟩
    try dsimp only at hw
    have hP : va_P (dC, dI) classes [(w, .inr (1, [.ref a, .int (nI M.length), .int x, .int y, .int g, .int t])), (a, .inl (cI, 1024, .inl fw)), (r, .inr (2, [.ref b, .int (nI (([] : List Nat) ++ lowB (lNat (77 : Int32).toInt64) 1).length)])), (b, .inl (cB, cap, .inl f1_18))] H := hP
    have hD : va_D A [(w, .inr (1, [.ref a, .int (nI M.length), .int x, .int y, .int g, .int t])), (a, .inl (cI, 1024, .inl fw)), (r, .inr (2, [.ref b, .int (nI (([] : List Nat) ++ lowB (lNat (77 : Int32).toInt64) 1).length)])), (b, .inl (cB, cap, .inl f1_18))] := hD
    have hB_18 := hw
    refine lv_iinc (v := 1) (lv' := [(2, .int 1), (0, .ref w), (1, .ref r)]) hx hb d_Walk_putInto_21 hl (k := 0) rfl (by decide) (by decide) rfl (fun ls hl => ?_)
    refine lv_goto (tgt := 2) hx hb d_Walk_putInto_24 (by decide) ?_
    refine lv_iload_n hx hb d_Walk_putInto_2 rfl (lv_at hl 0 rfl) ?_
    refine va_getsN (C := "DemoTape") (n := "MARK") (d := "[I") (ref := "DemoTape") (host := "DemoTape") hx hb hMk.1 hS hown (hMk.2.2.1.use rfl) (fun _ h9 => h9) d_Walk_putInto_3 ?_
    refine va_tlen (v := 3) hx hb hMk.2.1 hS rfl d_Walk_putInto_6 ?_
    refine lv_icmp_ge (tgt := 27) hx hb d_Walk_putInto_7 (by decide) (fun c_7 => ?_) (fun c_7 => ?_)
    · exact absurd c_7 (by decide)
    · refine lv_aload_n hx hb d_Walk_putInto_10 rfl (lv_at hl 2 rfl) ?_
      refine va_getsN (C := "DemoTape") (n := "MARK") (d := "[I") (ref := "DemoTape") (host := "DemoTape") hx hb hMk.1 hS hown (hMk.2.2.1.use rfl) (fun _ h9 => h9) d_Walk_putInto_11 ?_
      refine lv_iload_n hx hb d_Walk_putInto_14 rfl (lv_at hl 0 rfl) ?_
      refine va_ti (v := .int 68) (i := 1) hx hb hMk.2.1 hS (vp_in_nI (n := 1) (N := 3) (by decide) (by decide)) rfl d_Walk_putInto_15 ?_
      refine lv_i2l (v := (68 : Int32).toInt64) hx hb d_Walk_putInto_16 rfl ?_
      refine lv_iconst (v := 1) hx hb d_Walk_putInto_17 (by decide) ?_
      refine kc_v (wr := [(w, .inr (1, [.ref a, .int (nI M.length), .int x, .int y, .int g, .int t])), (a, .inl (cI, 1024, .inl fw))]) (w2 := fun (u9 : (Nat → Int32)) => [(w, .inr (1, [.ref a, .int (nI M.length), .int x, .int y, .int g, .int t])), (a, .inl (cI, 1024, .inl fw)), (r, .inr (2, [.ref b, .int (nI ((([] : List Nat) ++ lowB (lNat (77 : Int32).toInt64) 1) ++ lowB (lNat (68 : Int32).toInt64) 1).length)])), (b, .inl (cB, cap, .inl u9))]) (va_runV (As := [.long (68 : Int32).toInt64, .int 1]) (rest := []) ⟨hx, hb, hml, hown, hts⟩ (c_Row_addLowest l dC dI cI cB cZ _ r b cap f1_18 (([] : List Nat) ++ lowB (lNat (77 : Int32).toInt64) 1) (68 : Int32).toInt64 1 (by first | with_reducible assumption | omega | decide) (by first | with_reducible assumption | omega | decide) (by simp only [List.length_append, lowB_len, List.length_nil]; omega)) (cwV 2 hts (gV mw193 mw194 mw195 mw27 mw196) rfl rfl rfl (by decide +kernel) ⟨Nat.le_of_ble_eq_true rfl, Nat.le_of_ble_eq_true rfl⟩) (kpV (wc := [(r, .inr (2, [.ref b, .int (nI (([] : List Nat) ++ lowB (lNat (77 : Int32).toInt64) 1).length)])), (b, .inl (cB, cap, .inl f1_18))]) (q0 := 2) (ci := 2) hK hP hD [2, 3] rfl (by decide) rfl rfl rfl) rfl rfl hl.1 rfl (lv_room (Nat.le_of_ble_eq_true rfl)) d_Walk_putInto_18 ⟨Nat.le_of_ble_eq_true rfl, Nat.le_of_ble_eq_true rfl⟩) hP hD hS hA [2, 3] [0, 1] [0, 1, 2, 3] rfl rfl (by decide) (by decide) (fun _ => rfl) (by decide) (fun _ => rfl) (fun u9 H locs hw hP hD hS => ?_)
      obtain ⟨f1_18, rfl⟩ : ∃ z, z = u9 := ⟨_, rfl⟩
      try dsimp only at hw
      have hP : va_P (dC, dI) classes [(w, .inr (1, [.ref a, .int (nI M.length), .int x, .int y, .int g, .int t])), (a, .inl (cI, 1024, .inl fw)), (r, .inr (2, [.ref b, .int (nI ((([] : List Nat) ++ lowB (lNat (77 : Int32).toInt64) 1) ++ lowB (lNat (68 : Int32).toInt64) 1).length)])), (b, .inl (cB, cap, .inl f1_18))] H := hP
      have hD : va_D A [(w, .inr (1, [.ref a, .int (nI M.length), .int x, .int y, .int g, .int t])), (a, .inl (cI, 1024, .inl fw)), (r, .inr (2, [.ref b, .int (nI ((([] : List Nat) ++ lowB (lNat (77 : Int32).toInt64) 1) ++ lowB (lNat (68 : Int32).toInt64) 1).length)])), (b, .inl (cB, cap, .inl f1_18))] := hD
      have hB_18 := hw
      refine lv_iinc (v := 2) (lv' := [(2, .int 2), (0, .ref w), (1, .ref r)]) hx hb d_Walk_putInto_21 hl (k := 0) rfl (by decide) (by decide) rfl (fun ls hl => ?_)
      refine lv_goto (tgt := 2) hx hb d_Walk_putInto_24 (by decide) ?_
      refine lv_iload_n hx hb d_Walk_putInto_2 rfl (lv_at hl 0 rfl) ?_
      refine va_getsN (C := "DemoTape") (n := "MARK") (d := "[I") (ref := "DemoTape") (host := "DemoTape") hx hb hMk.1 hS hown (hMk.2.2.1.use rfl) (fun _ h9 => h9) d_Walk_putInto_3 ?_
      refine va_tlen (v := 3) hx hb hMk.2.1 hS rfl d_Walk_putInto_6 ?_
      refine lv_icmp_ge (tgt := 27) hx hb d_Walk_putInto_7 (by decide) (fun c_7 => ?_) (fun c_7 => ?_)
      · exact absurd c_7 (by decide)
      · refine lv_aload_n hx hb d_Walk_putInto_10 rfl (lv_at hl 2 rfl) ?_
        refine va_getsN (C := "DemoTape") (n := "MARK") (d := "[I") (ref := "DemoTape") (host := "DemoTape") hx hb hMk.1 hS hown (hMk.2.2.1.use rfl) (fun _ h9 => h9) d_Walk_putInto_11 ?_
        refine lv_iload_n hx hb d_Walk_putInto_14 rfl (lv_at hl 0 rfl) ?_
        refine va_ti (v := .int 1) (i := 2) hx hb hMk.2.1 hS (vp_in_nI (n := 2) (N := 3) (by decide) (by decide)) rfl d_Walk_putInto_15 ?_
        refine lv_i2l (v := (1 : Int32).toInt64) hx hb d_Walk_putInto_16 rfl ?_
        refine lv_iconst (v := 1) hx hb d_Walk_putInto_17 (by decide) ?_
        refine kc_v (wr := [(w, .inr (1, [.ref a, .int (nI M.length), .int x, .int y, .int g, .int t])), (a, .inl (cI, 1024, .inl fw))]) (w2 := fun (u9 : (Nat → Int32)) => [(w, .inr (1, [.ref a, .int (nI M.length), .int x, .int y, .int g, .int t])), (a, .inl (cI, 1024, .inl fw)), (r, .inr (2, [.ref b, .int (nI (((([] : List Nat) ++ lowB (lNat (77 : Int32).toInt64) 1) ++ lowB (lNat (68 : Int32).toInt64) 1) ++ lowB (lNat (1 : Int32).toInt64) 1).length)])), (b, .inl (cB, cap, .inl u9))]) (va_runV (As := [.long (1 : Int32).toInt64, .int 1]) (rest := []) ⟨hx, hb, hml, hown, hts⟩ (c_Row_addLowest l dC dI cI cB cZ _ r b cap f1_18 ((([] : List Nat) ++ lowB (lNat (77 : Int32).toInt64) 1) ++ lowB (lNat (68 : Int32).toInt64) 1) (1 : Int32).toInt64 1 (by first | with_reducible assumption | omega | decide) (by first | with_reducible assumption | omega | decide) (by simp only [List.length_append, lowB_len, List.length_nil]; omega)) (cwV 2 hts (gV mw193 mw194 mw195 mw27 mw196) rfl rfl rfl (by decide +kernel) ⟨Nat.le_of_ble_eq_true rfl, Nat.le_of_ble_eq_true rfl⟩) (kpV (wc := [(r, .inr (2, [.ref b, .int (nI ((([] : List Nat) ++ lowB (lNat (77 : Int32).toInt64) 1) ++ lowB (lNat (68 : Int32).toInt64) 1).length)])), (b, .inl (cB, cap, .inl f1_18))]) (q0 := 2) (ci := 2) hK hP hD [2, 3] rfl (by decide) rfl rfl rfl) rfl rfl hl.1 rfl (lv_room (Nat.le_of_ble_eq_true rfl)) d_Walk_putInto_18 ⟨Nat.le_of_ble_eq_true rfl, Nat.le_of_ble_eq_true rfl⟩) hP hD hS hA [2, 3] [0, 1] [0, 1, 2, 3] rfl rfl (by decide) (by decide) (fun _ => rfl) (by decide) (fun _ => rfl) (fun u9 H locs hw hP hD hS => ?_)
        obtain ⟨f1_18, rfl⟩ : ∃ z, z = u9 := ⟨_, rfl⟩
        try dsimp only at hw
        have hP : va_P (dC, dI) classes [(w, .inr (1, [.ref a, .int (nI M.length), .int x, .int y, .int g, .int t])), (a, .inl (cI, 1024, .inl fw)), (r, .inr (2, [.ref b, .int (nI (((([] : List Nat) ++ lowB (lNat (77 : Int32).toInt64) 1) ++ lowB (lNat (68 : Int32).toInt64) 1) ++ lowB (lNat (1 : Int32).toInt64) 1).length)])), (b, .inl (cB, cap, .inl f1_18))] H := hP
        have hD : va_D A [(w, .inr (1, [.ref a, .int (nI M.length), .int x, .int y, .int g, .int t])), (a, .inl (cI, 1024, .inl fw)), (r, .inr (2, [.ref b, .int (nI (((([] : List Nat) ++ lowB (lNat (77 : Int32).toInt64) 1) ++ lowB (lNat (68 : Int32).toInt64) 1) ++ lowB (lNat (1 : Int32).toInt64) 1).length)])), (b, .inl (cB, cap, .inl f1_18))] := hD
        have hB_18 := hw
        refine lv_iinc (v := 3) (lv' := [(2, .int 3), (0, .ref w), (1, .ref r)]) hx hb d_Walk_putInto_21 hl (k := 0) rfl (by decide) (by decide) rfl (fun ls hl => ?_)
        refine lv_goto (tgt := 2) hx hb d_Walk_putInto_24 (by decide) ?_
        refine lv_iload_n hx hb d_Walk_putInto_2 rfl (lv_at hl 0 rfl) ?_
        refine va_getsN (C := "DemoTape") (n := "MARK") (d := "[I") (ref := "DemoTape") (host := "DemoTape") hx hb hMk.1 hS hown (hMk.2.2.1.use rfl) (fun _ h9 => h9) d_Walk_putInto_3 ?_
        refine va_tlen (v := 3) hx hb hMk.2.1 hS rfl d_Walk_putInto_6 ?_
        refine lv_icmp_ge (tgt := 27) hx hb d_Walk_putInto_7 (by decide) (fun c_7 => ?_) (fun c_7 => ?_)
        · refine lv_aload_n hx hb d_Walk_putInto_27 rfl (lv_at hl 2 rfl) ?_
          refine lv_aload_n hx hb d_Walk_putInto_28 rfl (lv_at hl 1 rfl) ?_
          refine va_get (D := (dC, dI)) (ci := 1) (v := .int x) (C := "DemoTape$Walk") (T := F_Walk) (N := 6) hx hb hts i_Walk hown hK hP 0 rfl rfl 2 (by decide) (hts _ mw49) (fun _ h9 => h9) rfl d_Walk_putInto_29 ?_
          refine lv_i2l (v := x.toInt64) hx hb d_Walk_putInto_32 rfl ?_
          refine lv_iconst (v := 2) hx hb d_Walk_putInto_33 (by decide) ?_
          refine kc_v (wr := [(w, .inr (1, [.ref a, .int (nI M.length), .int x, .int y, .int g, .int t])), (a, .inl (cI, 1024, .inl fw))]) (w2 := fun (u9 : (Nat → Int32)) => [(w, .inr (1, [.ref a, .int (nI M.length), .int x, .int y, .int g, .int t])), (a, .inl (cI, 1024, .inl fw)), (r, .inr (2, [.ref b, .int (nI ((((([] : List Nat) ++ lowB (lNat (77 : Int32).toInt64) 1) ++ lowB (lNat (68 : Int32).toInt64) 1) ++ lowB (lNat (1 : Int32).toInt64) 1) ++ lowB (lNat x.toInt64) 2).length)])), (b, .inl (cB, cap, .inl u9))]) (va_runV (As := [.long x.toInt64, .int 2]) (rest := []) ⟨hx, hb, hml, hown, hts⟩ (c_Row_addLowest l dC dI cI cB cZ _ r b cap f1_18 (((([] : List Nat) ++ lowB (lNat (77 : Int32).toInt64) 1) ++ lowB (lNat (68 : Int32).toInt64) 1) ++ lowB (lNat (1 : Int32).toInt64) 1) x.toInt64 2 (by first | with_reducible assumption | omega | decide) (by first | with_reducible assumption | omega | decide) (by simp only [List.length_append, lowB_len, List.length_nil]; omega)) (cwV 2 hts (gV mw193 mw194 mw195 mw27 mw196) rfl rfl rfl (by decide +kernel) ⟨Nat.le_of_ble_eq_true rfl, Nat.le_of_ble_eq_true rfl⟩) (kpV (wc := [(r, .inr (2, [.ref b, .int (nI (((([] : List Nat) ++ lowB (lNat (77 : Int32).toInt64) 1) ++ lowB (lNat (68 : Int32).toInt64) 1) ++ lowB (lNat (1 : Int32).toInt64) 1).length)])), (b, .inl (cB, cap, .inl f1_18))]) (q0 := 2) (ci := 2) hK hP hD [2, 3] rfl (by decide) rfl rfl rfl) rfl rfl hl.1 rfl (lv_room (Nat.le_of_ble_eq_true rfl)) d_Walk_putInto_34 ⟨Nat.le_of_ble_eq_true rfl, Nat.le_of_ble_eq_true rfl⟩) hP hD hS hA [2, 3] [0, 1] [0, 1, 2, 3] rfl rfl (by decide) (by decide) (fun _ => rfl) (by decide) (fun _ => rfl) (fun u9 H locs hw hP hD hS => ?_)
          obtain ⟨f1_34, rfl⟩ : ∃ z, z = u9 := ⟨_, rfl⟩
          try dsimp only at hw
          have hP : va_P (dC, dI) classes [(w, .inr (1, [.ref a, .int (nI M.length), .int x, .int y, .int g, .int t])), (a, .inl (cI, 1024, .inl fw)), (r, .inr (2, [.ref b, .int (nI ((((([] : List Nat) ++ lowB (lNat (77 : Int32).toInt64) 1) ++ lowB (lNat (68 : Int32).toInt64) 1) ++ lowB (lNat (1 : Int32).toInt64) 1) ++ lowB (lNat x.toInt64) 2).length)])), (b, .inl (cB, cap, .inl f1_34))] H := hP
          have hD : va_D A [(w, .inr (1, [.ref a, .int (nI M.length), .int x, .int y, .int g, .int t])), (a, .inl (cI, 1024, .inl fw)), (r, .inr (2, [.ref b, .int (nI ((((([] : List Nat) ++ lowB (lNat (77 : Int32).toInt64) 1) ++ lowB (lNat (68 : Int32).toInt64) 1) ++ lowB (lNat (1 : Int32).toInt64) 1) ++ lowB (lNat x.toInt64) 2).length)])), (b, .inl (cB, cap, .inl f1_34))] := hD
          have hB_34 := hw
          refine lv_aload_n hx hb d_Walk_putInto_37 rfl (lv_at hl 2 rfl) ?_
          refine lv_aload_n hx hb d_Walk_putInto_38 rfl (lv_at hl 1 rfl) ?_
          refine va_get (D := (dC, dI)) (ci := 1) (v := .int y) (C := "DemoTape$Walk") (T := F_Walk) (N := 6) hx hb hts i_Walk hown hK hP 0 rfl rfl 3 (by decide) (hts _ mw50) (fun _ h9 => h9) rfl d_Walk_putInto_39 ?_
          refine lv_i2l (v := y.toInt64) hx hb d_Walk_putInto_42 rfl ?_
          refine lv_iconst (v := 2) hx hb d_Walk_putInto_43 (by decide) ?_
          refine kc_v (wr := [(w, .inr (1, [.ref a, .int (nI M.length), .int x, .int y, .int g, .int t])), (a, .inl (cI, 1024, .inl fw))]) (w2 := fun (u9 : (Nat → Int32)) => [(w, .inr (1, [.ref a, .int (nI M.length), .int x, .int y, .int g, .int t])), (a, .inl (cI, 1024, .inl fw)), (r, .inr (2, [.ref b, .int (nI (((((([] : List Nat) ++ lowB (lNat (77 : Int32).toInt64) 1) ++ lowB (lNat (68 : Int32).toInt64) 1) ++ lowB (lNat (1 : Int32).toInt64) 1) ++ lowB (lNat x.toInt64) 2) ++ lowB (lNat y.toInt64) 2).length)])), (b, .inl (cB, cap, .inl u9))]) (va_runV (As := [.long y.toInt64, .int 2]) (rest := []) ⟨hx, hb, hml, hown, hts⟩ (c_Row_addLowest l dC dI cI cB cZ _ r b cap f1_34 ((((([] : List Nat) ++ lowB (lNat (77 : Int32).toInt64) 1) ++ lowB (lNat (68 : Int32).toInt64) 1) ++ lowB (lNat (1 : Int32).toInt64) 1) ++ lowB (lNat x.toInt64) 2) y.toInt64 2 (by first | with_reducible assumption | omega | decide) (by first | with_reducible assumption | omega | decide) (by simp only [List.length_append, lowB_len, List.length_nil]; omega)) (cwV 2 hts (gV mw193 mw194 mw195 mw27 mw196) rfl rfl rfl (by decide +kernel) ⟨Nat.le_of_ble_eq_true rfl, Nat.le_of_ble_eq_true rfl⟩) (kpV (wc := [(r, .inr (2, [.ref b, .int (nI ((((([] : List Nat) ++ lowB (lNat (77 : Int32).toInt64) 1) ++ lowB (lNat (68 : Int32).toInt64) 1) ++ lowB (lNat (1 : Int32).toInt64) 1) ++ lowB (lNat x.toInt64) 2).length)])), (b, .inl (cB, cap, .inl f1_34))]) (q0 := 2) (ci := 2) hK hP hD [2, 3] rfl (by decide) rfl rfl rfl) rfl rfl hl.1 rfl (lv_room (Nat.le_of_ble_eq_true rfl)) d_Walk_putInto_44 ⟨Nat.le_of_ble_eq_true rfl, Nat.le_of_ble_eq_true rfl⟩) hP hD hS hA [2, 3] [0, 1] [0, 1, 2, 3] rfl rfl (by decide) (by decide) (fun _ => rfl) (by decide) (fun _ => rfl) (fun u9 H locs hw hP hD hS => ?_)
          obtain ⟨f1_44, rfl⟩ : ∃ z, z = u9 := ⟨_, rfl⟩
          try dsimp only at hw
          have hP : va_P (dC, dI) classes [(w, .inr (1, [.ref a, .int (nI M.length), .int x, .int y, .int g, .int t])), (a, .inl (cI, 1024, .inl fw)), (r, .inr (2, [.ref b, .int (nI (((((([] : List Nat) ++ lowB (lNat (77 : Int32).toInt64) 1) ++ lowB (lNat (68 : Int32).toInt64) 1) ++ lowB (lNat (1 : Int32).toInt64) 1) ++ lowB (lNat x.toInt64) 2) ++ lowB (lNat y.toInt64) 2).length)])), (b, .inl (cB, cap, .inl f1_44))] H := hP
          have hD : va_D A [(w, .inr (1, [.ref a, .int (nI M.length), .int x, .int y, .int g, .int t])), (a, .inl (cI, 1024, .inl fw)), (r, .inr (2, [.ref b, .int (nI (((((([] : List Nat) ++ lowB (lNat (77 : Int32).toInt64) 1) ++ lowB (lNat (68 : Int32).toInt64) 1) ++ lowB (lNat (1 : Int32).toInt64) 1) ++ lowB (lNat x.toInt64) 2) ++ lowB (lNat y.toInt64) 2).length)])), (b, .inl (cB, cap, .inl f1_44))] := hD
          have hB_44 := hw
          refine lv_aload_n hx hb d_Walk_putInto_47 rfl (lv_at hl 2 rfl) ?_
          refine lv_aload_n hx hb d_Walk_putInto_48 rfl (lv_at hl 1 rfl) ?_
          refine va_get (D := (dC, dI)) (ci := 1) (v := .int g) (C := "DemoTape$Walk") (T := F_Walk) (N := 6) hx hb hts i_Walk hown hK hP 0 rfl rfl 4 (by decide) (hts _ mw51) (fun _ h9 => h9) rfl d_Walk_putInto_49 ?_
          refine lv_i2l (v := g.toInt64) hx hb d_Walk_putInto_52 rfl ?_
          refine lv_iconst (v := 1) hx hb d_Walk_putInto_53 (by decide) ?_
          refine kc_v (wr := [(w, .inr (1, [.ref a, .int (nI M.length), .int x, .int y, .int g, .int t])), (a, .inl (cI, 1024, .inl fw))]) (w2 := fun (u9 : (Nat → Int32)) => [(w, .inr (1, [.ref a, .int (nI M.length), .int x, .int y, .int g, .int t])), (a, .inl (cI, 1024, .inl fw)), (r, .inr (2, [.ref b, .int (nI ((((((([] : List Nat) ++ lowB (lNat (77 : Int32).toInt64) 1) ++ lowB (lNat (68 : Int32).toInt64) 1) ++ lowB (lNat (1 : Int32).toInt64) 1) ++ lowB (lNat x.toInt64) 2) ++ lowB (lNat y.toInt64) 2) ++ lowB (lNat g.toInt64) 1).length)])), (b, .inl (cB, cap, .inl u9))]) (va_runV (As := [.long g.toInt64, .int 1]) (rest := []) ⟨hx, hb, hml, hown, hts⟩ (c_Row_addLowest l dC dI cI cB cZ _ r b cap f1_44 (((((([] : List Nat) ++ lowB (lNat (77 : Int32).toInt64) 1) ++ lowB (lNat (68 : Int32).toInt64) 1) ++ lowB (lNat (1 : Int32).toInt64) 1) ++ lowB (lNat x.toInt64) 2) ++ lowB (lNat y.toInt64) 2) g.toInt64 1 (by first | with_reducible assumption | omega | decide) (by first | with_reducible assumption | omega | decide) (by simp only [List.length_append, lowB_len, List.length_nil]; omega)) (cwV 2 hts (gV mw193 mw194 mw195 mw27 mw196) rfl rfl rfl (by decide +kernel) ⟨Nat.le_of_ble_eq_true rfl, Nat.le_of_ble_eq_true rfl⟩) (kpV (wc := [(r, .inr (2, [.ref b, .int (nI (((((([] : List Nat) ++ lowB (lNat (77 : Int32).toInt64) 1) ++ lowB (lNat (68 : Int32).toInt64) 1) ++ lowB (lNat (1 : Int32).toInt64) 1) ++ lowB (lNat x.toInt64) 2) ++ lowB (lNat y.toInt64) 2).length)])), (b, .inl (cB, cap, .inl f1_44))]) (q0 := 2) (ci := 2) hK hP hD [2, 3] rfl (by decide) rfl rfl rfl) rfl rfl hl.1 rfl (lv_room (Nat.le_of_ble_eq_true rfl)) d_Walk_putInto_54 ⟨Nat.le_of_ble_eq_true rfl, Nat.le_of_ble_eq_true rfl⟩) hP hD hS hA [2, 3] [0, 1] [0, 1, 2, 3] rfl rfl (by decide) (by decide) (fun _ => rfl) (by decide) (fun _ => rfl) (fun u9 H locs hw hP hD hS => ?_)
          obtain ⟨f1_54, rfl⟩ : ∃ z, z = u9 := ⟨_, rfl⟩
          try dsimp only at hw
          have hP : va_P (dC, dI) classes [(w, .inr (1, [.ref a, .int (nI M.length), .int x, .int y, .int g, .int t])), (a, .inl (cI, 1024, .inl fw)), (r, .inr (2, [.ref b, .int (nI ((((((([] : List Nat) ++ lowB (lNat (77 : Int32).toInt64) 1) ++ lowB (lNat (68 : Int32).toInt64) 1) ++ lowB (lNat (1 : Int32).toInt64) 1) ++ lowB (lNat x.toInt64) 2) ++ lowB (lNat y.toInt64) 2) ++ lowB (lNat g.toInt64) 1).length)])), (b, .inl (cB, cap, .inl f1_54))] H := hP
          have hD : va_D A [(w, .inr (1, [.ref a, .int (nI M.length), .int x, .int y, .int g, .int t])), (a, .inl (cI, 1024, .inl fw)), (r, .inr (2, [.ref b, .int (nI ((((((([] : List Nat) ++ lowB (lNat (77 : Int32).toInt64) 1) ++ lowB (lNat (68 : Int32).toInt64) 1) ++ lowB (lNat (1 : Int32).toInt64) 1) ++ lowB (lNat x.toInt64) 2) ++ lowB (lNat y.toInt64) 2) ++ lowB (lNat g.toInt64) 1).length)])), (b, .inl (cB, cap, .inl f1_54))] := hD
          have hB_54 := hw
          refine lv_aload_n hx hb d_Walk_putInto_57 rfl (lv_at hl 2 rfl) ?_
          refine lv_aload_n hx hb d_Walk_putInto_58 rfl (lv_at hl 1 rfl) ?_
          refine va_get (D := (dC, dI)) (ci := 1) (v := .int t) (C := "DemoTape$Walk") (T := F_Walk) (N := 6) hx hb hts i_Walk hown hK hP 0 rfl rfl 5 (by decide) (hts _ mw52) (fun _ h9 => h9) rfl d_Walk_putInto_59 ?_
          refine lv_i2l (v := t.toInt64) hx hb d_Walk_putInto_62 rfl ?_
          refine lv_iconst (v := 1) hx hb d_Walk_putInto_63 (by decide) ?_
          refine kc_v (wr := [(w, .inr (1, [.ref a, .int (nI M.length), .int x, .int y, .int g, .int t])), (a, .inl (cI, 1024, .inl fw))]) (w2 := fun (u9 : (Nat → Int32)) => [(w, .inr (1, [.ref a, .int (nI M.length), .int x, .int y, .int g, .int t])), (a, .inl (cI, 1024, .inl fw)), (r, .inr (2, [.ref b, .int (nI (((((((([] : List Nat) ++ lowB (lNat (77 : Int32).toInt64) 1) ++ lowB (lNat (68 : Int32).toInt64) 1) ++ lowB (lNat (1 : Int32).toInt64) 1) ++ lowB (lNat x.toInt64) 2) ++ lowB (lNat y.toInt64) 2) ++ lowB (lNat g.toInt64) 1) ++ lowB (lNat t.toInt64) 1).length)])), (b, .inl (cB, cap, .inl u9))]) (va_runV (As := [.long t.toInt64, .int 1]) (rest := []) ⟨hx, hb, hml, hown, hts⟩ (c_Row_addLowest l dC dI cI cB cZ _ r b cap f1_54 ((((((([] : List Nat) ++ lowB (lNat (77 : Int32).toInt64) 1) ++ lowB (lNat (68 : Int32).toInt64) 1) ++ lowB (lNat (1 : Int32).toInt64) 1) ++ lowB (lNat x.toInt64) 2) ++ lowB (lNat y.toInt64) 2) ++ lowB (lNat g.toInt64) 1) t.toInt64 1 (by first | with_reducible assumption | omega | decide) (by first | with_reducible assumption | omega | decide) (by simp only [List.length_append, lowB_len, List.length_nil]; omega)) (cwV 2 hts (gV mw193 mw194 mw195 mw27 mw196) rfl rfl rfl (by decide +kernel) ⟨Nat.le_of_ble_eq_true rfl, Nat.le_of_ble_eq_true rfl⟩) (kpV (wc := [(r, .inr (2, [.ref b, .int (nI ((((((([] : List Nat) ++ lowB (lNat (77 : Int32).toInt64) 1) ++ lowB (lNat (68 : Int32).toInt64) 1) ++ lowB (lNat (1 : Int32).toInt64) 1) ++ lowB (lNat x.toInt64) 2) ++ lowB (lNat y.toInt64) 2) ++ lowB (lNat g.toInt64) 1).length)])), (b, .inl (cB, cap, .inl f1_54))]) (q0 := 2) (ci := 2) hK hP hD [2, 3] rfl (by decide) rfl rfl rfl) rfl rfl hl.1 rfl (lv_room (Nat.le_of_ble_eq_true rfl)) d_Walk_putInto_64 ⟨Nat.le_of_ble_eq_true rfl, Nat.le_of_ble_eq_true rfl⟩) hP hD hS hA [2, 3] [0, 1] [0, 1, 2, 3] rfl rfl (by decide) (by decide) (fun _ => rfl) (by decide) (fun _ => rfl) (fun u9 H locs hw hP hD hS => ?_)
          obtain ⟨f1_64, rfl⟩ : ∃ z, z = u9 := ⟨_, rfl⟩
          try dsimp only at hw
          have hP : va_P (dC, dI) classes [(w, .inr (1, [.ref a, .int (nI M.length), .int x, .int y, .int g, .int t])), (a, .inl (cI, 1024, .inl fw)), (r, .inr (2, [.ref b, .int (nI (((((((([] : List Nat) ++ lowB (lNat (77 : Int32).toInt64) 1) ++ lowB (lNat (68 : Int32).toInt64) 1) ++ lowB (lNat (1 : Int32).toInt64) 1) ++ lowB (lNat x.toInt64) 2) ++ lowB (lNat y.toInt64) 2) ++ lowB (lNat g.toInt64) 1) ++ lowB (lNat t.toInt64) 1).length)])), (b, .inl (cB, cap, .inl f1_64))] H := hP
          have hD : va_D A [(w, .inr (1, [.ref a, .int (nI M.length), .int x, .int y, .int g, .int t])), (a, .inl (cI, 1024, .inl fw)), (r, .inr (2, [.ref b, .int (nI (((((((([] : List Nat) ++ lowB (lNat (77 : Int32).toInt64) 1) ++ lowB (lNat (68 : Int32).toInt64) 1) ++ lowB (lNat (1 : Int32).toInt64) 1) ++ lowB (lNat x.toInt64) 2) ++ lowB (lNat y.toInt64) 2) ++ lowB (lNat g.toInt64) 1) ++ lowB (lNat t.toInt64) 1).length)])), (b, .inl (cB, cap, .inl f1_64))] := hD
          have hB_64 := hw
          refine lv_aload_n hx hb d_Walk_putInto_67 rfl (lv_at hl 1 rfl) ?_
          refine lv_aload_n hx hb d_Walk_putInto_68 rfl (lv_at hl 2 rfl) ?_
          refine kc_v (wr := []) (w2 := fun (u9 : (Nat → Int32)) => [(w, .inr (1, [.ref a, .int (nI M.length), .int x, .int y, .int g, .int t])), (a, .inl (cI, 1024, .inl fw)), (r, .inr (2, [.ref b, .int (nI ((((((((([] : List Nat) ++ lowB (lNat (77 : Int32).toInt64) 1) ++ lowB (lNat (68 : Int32).toInt64) 1) ++ lowB (lNat (1 : Int32).toInt64) 1) ++ lowB (lNat x.toInt64) 2) ++ lowB (lNat y.toInt64) 2) ++ lowB (lNat g.toInt64) 1) ++ lowB (lNat t.toInt64) 1) ++ (kGr 0 M).flatMap kGB).length)])), (b, .inl (cB, cap, .inl u9))]) (va_runV (As := [.ref r]) (rest := []) ⟨hx, hb, hml, hown, hts⟩ (c_Walk_putGroups l dC dI cI cB cZ _ w a fw M x y g t r b cap f1_64 (((((((([] : List Nat) ++ lowB (lNat (77 : Int32).toInt64) 1) ++ lowB (lNat (68 : Int32).toInt64) 1) ++ lowB (lNat (1 : Int32).toInt64) 1) ++ lowB (lNat x.toInt64) 2) ++ lowB (lNat y.toInt64) 2) ++ lowB (lNat g.toInt64) 1) ++ lowB (lNat t.toInt64) 1) (by first | with_reducible assumption | omega | decide) (by first | with_reducible assumption | omega | decide) (by simp only [List.length_append, lowB_len, List.length_nil]; omega)) (cwV 1 hts (gV mw197 mw199 mw0 mw26 mw200) rfl rfl rfl (by decide +kernel) ⟨Nat.le_of_ble_eq_true rfl, Nat.le_of_ble_eq_true rfl⟩) (kpV (wc := [(w, .inr (1, [.ref a, .int (nI M.length), .int x, .int y, .int g, .int t])), (a, .inl (cI, 1024, .inl fw)), (r, .inr (2, [.ref b, .int (nI (((((((([] : List Nat) ++ lowB (lNat (77 : Int32).toInt64) 1) ++ lowB (lNat (68 : Int32).toInt64) 1) ++ lowB (lNat (1 : Int32).toInt64) 1) ++ lowB (lNat x.toInt64) 2) ++ lowB (lNat y.toInt64) 2) ++ lowB (lNat g.toInt64) 1) ++ lowB (lNat t.toInt64) 1).length)])), (b, .inl (cB, cap, .inl f1_64))]) (q0 := 0) (ci := 1) hK hP hD [0, 1, 2, 3] rfl (by decide) rfl rfl rfl) rfl rfl hl.1 rfl (lv_room (Nat.le_of_ble_eq_true rfl)) d_Walk_putInto_69 ⟨Nat.le_of_ble_eq_true rfl, Nat.le_of_ble_eq_true rfl⟩) hP hD hS hA [0, 1, 2, 3] [] [0, 1, 2, 3] rfl rfl (by decide) (by decide) (fun _ => rfl) (by decide) (fun _ => rfl) (fun u9 H locs hw hP hD hS => ?_)
          obtain ⟨f1_69, rfl⟩ : ∃ z, z = u9 := ⟨_, rfl⟩
          try dsimp only at hw
          have hP : va_P (dC, dI) classes [(w, .inr (1, [.ref a, .int (nI M.length), .int x, .int y, .int g, .int t])), (a, .inl (cI, 1024, .inl fw)), (r, .inr (2, [.ref b, .int (nI ((((((((([] : List Nat) ++ lowB (lNat (77 : Int32).toInt64) 1) ++ lowB (lNat (68 : Int32).toInt64) 1) ++ lowB (lNat (1 : Int32).toInt64) 1) ++ lowB (lNat x.toInt64) 2) ++ lowB (lNat y.toInt64) 2) ++ lowB (lNat g.toInt64) 1) ++ lowB (lNat t.toInt64) 1) ++ (kGr 0 M).flatMap kGB).length)])), (b, .inl (cB, cap, .inl f1_69))] H := hP
          have hD : va_D A [(w, .inr (1, [.ref a, .int (nI M.length), .int x, .int y, .int g, .int t])), (a, .inl (cI, 1024, .inl fw)), (r, .inr (2, [.ref b, .int (nI ((((((((([] : List Nat) ++ lowB (lNat (77 : Int32).toInt64) 1) ++ lowB (lNat (68 : Int32).toInt64) 1) ++ lowB (lNat (1 : Int32).toInt64) 1) ++ lowB (lNat x.toInt64) 2) ++ lowB (lNat y.toInt64) 2) ++ lowB (lNat g.toInt64) 1) ++ lowB (lNat t.toInt64) 1) ++ (kGr 0 M).flatMap kGB).length)])), (b, .inl (cB, cap, .inl f1_69))] := hD
          have hB_69 := hw
          refine lv_aload_n hx hb d_Walk_putInto_72 rfl (lv_at hl 2 rfl) ?_
          refine lv_lconst (v := 0) hx hb d_Walk_putInto_73 (by decide) ?_
          refine lv_iconst (v := 1) hx hb d_Walk_putInto_74 (by decide) ?_
          refine kc_v (wr := [(w, .inr (1, [.ref a, .int (nI M.length), .int x, .int y, .int g, .int t])), (a, .inl (cI, 1024, .inl fw))]) (w2 := fun (u9 : (Nat → Int32)) => [(w, .inr (1, [.ref a, .int (nI M.length), .int x, .int y, .int g, .int t])), (a, .inl (cI, 1024, .inl fw)), (r, .inr (2, [.ref b, .int (nI (((((((((([] : List Nat) ++ lowB (lNat (77 : Int32).toInt64) 1) ++ lowB (lNat (68 : Int32).toInt64) 1) ++ lowB (lNat (1 : Int32).toInt64) 1) ++ lowB (lNat x.toInt64) 2) ++ lowB (lNat y.toInt64) 2) ++ lowB (lNat g.toInt64) 1) ++ lowB (lNat t.toInt64) 1) ++ (kGr 0 M).flatMap kGB) ++ lowB (lNat 0) 1).length)])), (b, .inl (cB, cap, .inl u9))]) (va_runV (As := [.long 0, .int 1]) (rest := []) ⟨hx, hb, hml, hown, hts⟩ (c_Row_addLowest l dC dI cI cB cZ _ r b cap f1_69 ((((((((([] : List Nat) ++ lowB (lNat (77 : Int32).toInt64) 1) ++ lowB (lNat (68 : Int32).toInt64) 1) ++ lowB (lNat (1 : Int32).toInt64) 1) ++ lowB (lNat x.toInt64) 2) ++ lowB (lNat y.toInt64) 2) ++ lowB (lNat g.toInt64) 1) ++ lowB (lNat t.toInt64) 1) ++ (kGr 0 M).flatMap kGB) 0 1 (by first | with_reducible assumption | omega | decide) (by first | with_reducible assumption | omega | decide) (by simp only [List.length_append, lowB_len, List.length_nil]; have := kGr_len M; omega)) (cwV 2 hts (gV mw193 mw194 mw195 mw27 mw196) rfl rfl rfl (by decide +kernel) ⟨Nat.le_of_ble_eq_true rfl, Nat.le_of_ble_eq_true rfl⟩) (kpV (wc := [(r, .inr (2, [.ref b, .int (nI ((((((((([] : List Nat) ++ lowB (lNat (77 : Int32).toInt64) 1) ++ lowB (lNat (68 : Int32).toInt64) 1) ++ lowB (lNat (1 : Int32).toInt64) 1) ++ lowB (lNat x.toInt64) 2) ++ lowB (lNat y.toInt64) 2) ++ lowB (lNat g.toInt64) 1) ++ lowB (lNat t.toInt64) 1) ++ (kGr 0 M).flatMap kGB).length)])), (b, .inl (cB, cap, .inl f1_69))]) (q0 := 2) (ci := 2) hK hP hD [2, 3] rfl (by decide) rfl rfl rfl) rfl rfl hl.1 rfl (lv_room (Nat.le_of_ble_eq_true rfl)) d_Walk_putInto_75 ⟨Nat.le_of_ble_eq_true rfl, Nat.le_of_ble_eq_true rfl⟩) hP hD hS hA [2, 3] [0, 1] [0, 1, 2, 3] rfl rfl (by decide) (by decide) (fun _ => rfl) (by decide) (fun _ => rfl) (fun u9 H locs hw hP hD hS => ?_)
          obtain ⟨f1_75, rfl⟩ : ∃ z, z = u9 := ⟨_, rfl⟩
          try dsimp only at hw
          have hP : va_P (dC, dI) classes [(w, .inr (1, [.ref a, .int (nI M.length), .int x, .int y, .int g, .int t])), (a, .inl (cI, 1024, .inl fw)), (r, .inr (2, [.ref b, .int (nI (((((((((([] : List Nat) ++ lowB (lNat (77 : Int32).toInt64) 1) ++ lowB (lNat (68 : Int32).toInt64) 1) ++ lowB (lNat (1 : Int32).toInt64) 1) ++ lowB (lNat x.toInt64) 2) ++ lowB (lNat y.toInt64) 2) ++ lowB (lNat g.toInt64) 1) ++ lowB (lNat t.toInt64) 1) ++ (kGr 0 M).flatMap kGB) ++ lowB (lNat 0) 1).length)])), (b, .inl (cB, cap, .inl f1_75))] H := hP
          have hD : va_D A [(w, .inr (1, [.ref a, .int (nI M.length), .int x, .int y, .int g, .int t])), (a, .inl (cI, 1024, .inl fw)), (r, .inr (2, [.ref b, .int (nI (((((((((([] : List Nat) ++ lowB (lNat (77 : Int32).toInt64) 1) ++ lowB (lNat (68 : Int32).toInt64) 1) ++ lowB (lNat (1 : Int32).toInt64) 1) ++ lowB (lNat x.toInt64) 2) ++ lowB (lNat y.toInt64) 2) ++ lowB (lNat g.toInt64) 1) ++ lowB (lNat t.toInt64) 1) ++ (kGr 0 M).flatMap kGB) ++ lowB (lNat 0) 1).length)])), (b, .inl (cB, cap, .inl f1_75))] := hD
          have hB_75 := hw
          refine lv_aload_n hx hb d_Walk_putInto_78 rfl (lv_at hl 2 rfl) ?_
          refine lv_aload_n hx hb d_Walk_putInto_79 rfl (lv_at hl 2 rfl) ?_
          refine lv_aload_n hx hb d_Walk_putInto_80 rfl (lv_at hl 2 rfl) ?_
          refine kq_i (wr := [(w, .inr (1, [.ref a, .int (nI M.length), .int x, .int y, .int g, .int t])), (a, .inl (cI, 1024, .inl fw))]) (va_runV (As := []) (rest := [.ref r, .ref r]) ⟨hx, hb, hml, hown, hts⟩ (c_Row_size l dC dI cI cB cZ _ r b cap f1_75 (((((((((([] : List Nat) ++ lowB (lNat (77 : Int32).toInt64) 1) ++ lowB (lNat (68 : Int32).toInt64) 1) ++ lowB (lNat (1 : Int32).toInt64) 1) ++ lowB (lNat x.toInt64) 2) ++ lowB (lNat y.toInt64) 2) ++ lowB (lNat g.toInt64) 1) ++ lowB (lNat t.toInt64) 1) ++ (kGr 0 M).flatMap kGB) ++ lowB (lNat 0) 1) ) (cwV 0 hts (gV mw225 mw226 mw227 mw27 mw228) rfl rfl rfl (by decide +kernel) ⟨Nat.le_of_ble_eq_true rfl, Nat.le_of_ble_eq_true rfl⟩) (kpV (wc := [(r, .inr (2, [.ref b, .int (nI (((((((((([] : List Nat) ++ lowB (lNat (77 : Int32).toInt64) 1) ++ lowB (lNat (68 : Int32).toInt64) 1) ++ lowB (lNat (1 : Int32).toInt64) 1) ++ lowB (lNat x.toInt64) 2) ++ lowB (lNat y.toInt64) 2) ++ lowB (lNat g.toInt64) 1) ++ lowB (lNat t.toInt64) 1) ++ (kGr 0 M).flatMap kGB) ++ lowB (lNat 0) 1).length)])), (b, .inl (cB, cap, .inl f1_75))]) (q0 := 2) (ci := 2) hK hP hD [2, 3] rfl (by decide) rfl rfl rfl) rfl rfl hl.1 rfl (lv_room (Nat.le_of_ble_eq_true rfl)) d_Walk_putInto_81 ⟨Nat.le_of_ble_eq_true rfl, Nat.le_of_ble_eq_true rfl⟩) hP hD hS hA [2, 3] [0, 1] [0, 1, 2, 3] rfl rfl (by decide) (by decide) rfl (fun r_81 H locs hw hP hS => ?_)
          have e_81 := hw
          refine kt_i e_81 ?_
          refine kq_i (wr := [(w, .inr (1, [.ref a, .int (nI M.length), .int x, .int y, .int g, .int t])), (a, .inl (cI, 1024, .inl fw))]) (va_runV (As := [.int (nI (((((((((([] : List Nat) ++ lowB (lNat (77 : Int32).toInt64) 1) ++ lowB (lNat (68 : Int32).toInt64) 1) ++ lowB (lNat (1 : Int32).toInt64) 1) ++ lowB (lNat x.toInt64) 2) ++ lowB (lNat y.toInt64) 2) ++ lowB (lNat g.toInt64) 1) ++ lowB (lNat t.toInt64) 1) ++ (kGr 0 M).flatMap kGB) ++ lowB (lNat 0) 1).length)]) (rest := [.ref r]) ⟨hx, hb, hml, hown, hts⟩ (c_Row_checkOfFirst l dC dI cI cB cZ _ r b cap f1_75 (((((((((([] : List Nat) ++ lowB (lNat (77 : Int32).toInt64) 1) ++ lowB (lNat (68 : Int32).toInt64) 1) ++ lowB (lNat (1 : Int32).toInt64) 1) ++ lowB (lNat x.toInt64) 2) ++ lowB (lNat y.toInt64) 2) ++ lowB (lNat g.toInt64) 1) ++ lowB (lNat t.toInt64) 1) ++ (kGr 0 M).flatMap kGB) ++ lowB (lNat 0) 1) (((((((((([] : List Nat) ++ lowB (lNat (77 : Int32).toInt64) 1) ++ lowB (lNat (68 : Int32).toInt64) 1) ++ lowB (lNat (1 : Int32).toInt64) 1) ++ lowB (lNat x.toInt64) 2) ++ lowB (lNat y.toInt64) 2) ++ lowB (lNat g.toInt64) 1) ++ lowB (lNat t.toInt64) 1) ++ (kGr 0 M).flatMap kGB) ++ lowB (lNat 0) 1).length (by first | with_reducible assumption | omega | decide) (Nat.le_refl _)) (cwV 1 hts (gV mw229 mw230 mw231 mw27 mw232) rfl rfl rfl (by decide +kernel) ⟨Nat.le_of_ble_eq_true rfl, Nat.le_of_ble_eq_true rfl⟩) (kpV (wc := [(r, .inr (2, [.ref b, .int (nI (((((((((([] : List Nat) ++ lowB (lNat (77 : Int32).toInt64) 1) ++ lowB (lNat (68 : Int32).toInt64) 1) ++ lowB (lNat (1 : Int32).toInt64) 1) ++ lowB (lNat x.toInt64) 2) ++ lowB (lNat y.toInt64) 2) ++ lowB (lNat g.toInt64) 1) ++ lowB (lNat t.toInt64) 1) ++ (kGr 0 M).flatMap kGB) ++ lowB (lNat 0) 1).length)])), (b, .inl (cB, cap, .inl f1_75))]) (q0 := 2) (ci := 2) hK hP hD [2, 3] rfl (by decide) rfl rfl rfl) rfl rfl hl.1 rfl (lv_room (Nat.le_of_ble_eq_true rfl)) d_Walk_putInto_84 ⟨Nat.le_of_ble_eq_true rfl, Nat.le_of_ble_eq_true rfl⟩) hP hD hS hA [2, 3] [0, 1] [0, 1, 2, 3] rfl rfl (by decide) (by decide) rfl (fun r_84 H locs hw hP hS => ?_)
          have e_84 := hw
          refine kt_i e_84 ?_
          refine lv_i2l (v := (kChk ((((((((((([] : List Nat) ++ lowB (lNat (77 : Int32).toInt64) 1) ++ lowB (lNat (68 : Int32).toInt64) 1) ++ lowB (lNat (1 : Int32).toInt64) 1) ++ lowB (lNat x.toInt64) 2) ++ lowB (lNat y.toInt64) 2) ++ lowB (lNat g.toInt64) 1) ++ lowB (lNat t.toInt64) 1) ++ (kGr 0 M).flatMap kGB) ++ lowB (lNat 0) 1).take (((((((((([] : List Nat) ++ lowB (lNat (77 : Int32).toInt64) 1) ++ lowB (lNat (68 : Int32).toInt64) 1) ++ lowB (lNat (1 : Int32).toInt64) 1) ++ lowB (lNat x.toInt64) 2) ++ lowB (lNat y.toInt64) 2) ++ lowB (lNat g.toInt64) 1) ++ lowB (lNat t.toInt64) 1) ++ (kGr 0 M).flatMap kGB) ++ lowB (lNat 0) 1).length)).toInt64) hx hb d_Walk_putInto_87 rfl ?_
          refine lv_iconst (v := 4) hx hb d_Walk_putInto_88 (by decide) ?_
          refine kc_v (wr := [(w, .inr (1, [.ref a, .int (nI M.length), .int x, .int y, .int g, .int t])), (a, .inl (cI, 1024, .inl fw))]) (w2 := fun (u9 : (Nat → Int32)) => [(w, .inr (1, [.ref a, .int (nI M.length), .int x, .int y, .int g, .int t])), (a, .inl (cI, 1024, .inl fw)), (r, .inr (2, [.ref b, .int (nI ((((((((((([] : List Nat) ++ lowB (lNat (77 : Int32).toInt64) 1) ++ lowB (lNat (68 : Int32).toInt64) 1) ++ lowB (lNat (1 : Int32).toInt64) 1) ++ lowB (lNat x.toInt64) 2) ++ lowB (lNat y.toInt64) 2) ++ lowB (lNat g.toInt64) 1) ++ lowB (lNat t.toInt64) 1) ++ (kGr 0 M).flatMap kGB) ++ lowB (lNat 0) 1) ++ lowB (lNat (kChk ((((((((((([] : List Nat) ++ lowB (lNat (77 : Int32).toInt64) 1) ++ lowB (lNat (68 : Int32).toInt64) 1) ++ lowB (lNat (1 : Int32).toInt64) 1) ++ lowB (lNat x.toInt64) 2) ++ lowB (lNat y.toInt64) 2) ++ lowB (lNat g.toInt64) 1) ++ lowB (lNat t.toInt64) 1) ++ (kGr 0 M).flatMap kGB) ++ lowB (lNat 0) 1).take (((((((((([] : List Nat) ++ lowB (lNat (77 : Int32).toInt64) 1) ++ lowB (lNat (68 : Int32).toInt64) 1) ++ lowB (lNat (1 : Int32).toInt64) 1) ++ lowB (lNat x.toInt64) 2) ++ lowB (lNat y.toInt64) 2) ++ lowB (lNat g.toInt64) 1) ++ lowB (lNat t.toInt64) 1) ++ (kGr 0 M).flatMap kGB) ++ lowB (lNat 0) 1).length)).toInt64) 4).length)])), (b, .inl (cB, cap, .inl u9))]) (va_runV (As := [.long (kChk ((((((((((([] : List Nat) ++ lowB (lNat (77 : Int32).toInt64) 1) ++ lowB (lNat (68 : Int32).toInt64) 1) ++ lowB (lNat (1 : Int32).toInt64) 1) ++ lowB (lNat x.toInt64) 2) ++ lowB (lNat y.toInt64) 2) ++ lowB (lNat g.toInt64) 1) ++ lowB (lNat t.toInt64) 1) ++ (kGr 0 M).flatMap kGB) ++ lowB (lNat 0) 1).take (((((((((([] : List Nat) ++ lowB (lNat (77 : Int32).toInt64) 1) ++ lowB (lNat (68 : Int32).toInt64) 1) ++ lowB (lNat (1 : Int32).toInt64) 1) ++ lowB (lNat x.toInt64) 2) ++ lowB (lNat y.toInt64) 2) ++ lowB (lNat g.toInt64) 1) ++ lowB (lNat t.toInt64) 1) ++ (kGr 0 M).flatMap kGB) ++ lowB (lNat 0) 1).length)).toInt64, .int 4]) (rest := []) ⟨hx, hb, hml, hown, hts⟩ (c_Row_addLowest l dC dI cI cB cZ _ r b cap f1_75 (((((((((([] : List Nat) ++ lowB (lNat (77 : Int32).toInt64) 1) ++ lowB (lNat (68 : Int32).toInt64) 1) ++ lowB (lNat (1 : Int32).toInt64) 1) ++ lowB (lNat x.toInt64) 2) ++ lowB (lNat y.toInt64) 2) ++ lowB (lNat g.toInt64) 1) ++ lowB (lNat t.toInt64) 1) ++ (kGr 0 M).flatMap kGB) ++ lowB (lNat 0) 1) (kChk ((((((((((([] : List Nat) ++ lowB (lNat (77 : Int32).toInt64) 1) ++ lowB (lNat (68 : Int32).toInt64) 1) ++ lowB (lNat (1 : Int32).toInt64) 1) ++ lowB (lNat x.toInt64) 2) ++ lowB (lNat y.toInt64) 2) ++ lowB (lNat g.toInt64) 1) ++ lowB (lNat t.toInt64) 1) ++ (kGr 0 M).flatMap kGB) ++ lowB (lNat 0) 1).take (((((((((([] : List Nat) ++ lowB (lNat (77 : Int32).toInt64) 1) ++ lowB (lNat (68 : Int32).toInt64) 1) ++ lowB (lNat (1 : Int32).toInt64) 1) ++ lowB (lNat x.toInt64) 2) ++ lowB (lNat y.toInt64) 2) ++ lowB (lNat g.toInt64) 1) ++ lowB (lNat t.toInt64) 1) ++ (kGr 0 M).flatMap kGB) ++ lowB (lNat 0) 1).length)).toInt64 4 (by first | with_reducible assumption | omega | decide) (by first | with_reducible assumption | omega | decide) (by simp only [List.length_append, lowB_len, List.length_nil]; have := kGr_len M; omega)) (cwV 2 hts (gV mw193 mw194 mw195 mw27 mw196) rfl rfl rfl (by decide +kernel) ⟨Nat.le_of_ble_eq_true rfl, Nat.le_of_ble_eq_true rfl⟩) (kpV (wc := [(r, .inr (2, [.ref b, .int (nI (((((((((([] : List Nat) ++ lowB (lNat (77 : Int32).toInt64) 1) ++ lowB (lNat (68 : Int32).toInt64) 1) ++ lowB (lNat (1 : Int32).toInt64) 1) ++ lowB (lNat x.toInt64) 2) ++ lowB (lNat y.toInt64) 2) ++ lowB (lNat g.toInt64) 1) ++ lowB (lNat t.toInt64) 1) ++ (kGr 0 M).flatMap kGB) ++ lowB (lNat 0) 1).length)])), (b, .inl (cB, cap, .inl f1_75))]) (q0 := 2) (ci := 2) hK hP hD [2, 3] rfl (by decide) rfl rfl rfl) rfl rfl hl.1 rfl (lv_room (Nat.le_of_ble_eq_true rfl)) d_Walk_putInto_89 ⟨Nat.le_of_ble_eq_true rfl, Nat.le_of_ble_eq_true rfl⟩) hP hD hS hA [2, 3] [0, 1] [0, 1, 2, 3] rfl rfl (by decide) (by decide) (fun _ => rfl) (by decide) (fun _ => rfl) (fun u9 H locs hw hP hD hS => ?_)
          obtain ⟨f1_89, rfl⟩ : ∃ z, z = u9 := ⟨_, rfl⟩
          try dsimp only at hw
          have hP : va_P (dC, dI) classes [(w, .inr (1, [.ref a, .int (nI M.length), .int x, .int y, .int g, .int t])), (a, .inl (cI, 1024, .inl fw)), (r, .inr (2, [.ref b, .int (nI ((((((((((([] : List Nat) ++ lowB (lNat (77 : Int32).toInt64) 1) ++ lowB (lNat (68 : Int32).toInt64) 1) ++ lowB (lNat (1 : Int32).toInt64) 1) ++ lowB (lNat x.toInt64) 2) ++ lowB (lNat y.toInt64) 2) ++ lowB (lNat g.toInt64) 1) ++ lowB (lNat t.toInt64) 1) ++ (kGr 0 M).flatMap kGB) ++ lowB (lNat 0) 1) ++ lowB (lNat (kChk ((((((((((([] : List Nat) ++ lowB (lNat (77 : Int32).toInt64) 1) ++ lowB (lNat (68 : Int32).toInt64) 1) ++ lowB (lNat (1 : Int32).toInt64) 1) ++ lowB (lNat x.toInt64) 2) ++ lowB (lNat y.toInt64) 2) ++ lowB (lNat g.toInt64) 1) ++ lowB (lNat t.toInt64) 1) ++ (kGr 0 M).flatMap kGB) ++ lowB (lNat 0) 1).take (((((((((([] : List Nat) ++ lowB (lNat (77 : Int32).toInt64) 1) ++ lowB (lNat (68 : Int32).toInt64) 1) ++ lowB (lNat (1 : Int32).toInt64) 1) ++ lowB (lNat x.toInt64) 2) ++ lowB (lNat y.toInt64) 2) ++ lowB (lNat g.toInt64) 1) ++ lowB (lNat t.toInt64) 1) ++ (kGr 0 M).flatMap kGB) ++ lowB (lNat 0) 1).length)).toInt64) 4).length)])), (b, .inl (cB, cap, .inl f1_89))] H := hP
          have hD : va_D A [(w, .inr (1, [.ref a, .int (nI M.length), .int x, .int y, .int g, .int t])), (a, .inl (cI, 1024, .inl fw)), (r, .inr (2, [.ref b, .int (nI ((((((((((([] : List Nat) ++ lowB (lNat (77 : Int32).toInt64) 1) ++ lowB (lNat (68 : Int32).toInt64) 1) ++ lowB (lNat (1 : Int32).toInt64) 1) ++ lowB (lNat x.toInt64) 2) ++ lowB (lNat y.toInt64) 2) ++ lowB (lNat g.toInt64) 1) ++ lowB (lNat t.toInt64) 1) ++ (kGr 0 M).flatMap kGB) ++ lowB (lNat 0) 1) ++ lowB (lNat (kChk ((((((((((([] : List Nat) ++ lowB (lNat (77 : Int32).toInt64) 1) ++ lowB (lNat (68 : Int32).toInt64) 1) ++ lowB (lNat (1 : Int32).toInt64) 1) ++ lowB (lNat x.toInt64) 2) ++ lowB (lNat y.toInt64) 2) ++ lowB (lNat g.toInt64) 1) ++ lowB (lNat t.toInt64) 1) ++ (kGr 0 M).flatMap kGB) ++ lowB (lNat 0) 1).take (((((((((([] : List Nat) ++ lowB (lNat (77 : Int32).toInt64) 1) ++ lowB (lNat (68 : Int32).toInt64) 1) ++ lowB (lNat (1 : Int32).toInt64) 1) ++ lowB (lNat x.toInt64) 2) ++ lowB (lNat y.toInt64) 2) ++ lowB (lNat g.toInt64) 1) ++ lowB (lNat t.toInt64) 1) ++ (kGr 0 M).flatMap kGB) ++ lowB (lNat 0) 1).length)).toInt64) 4).length)])), (b, .inl (cB, cap, .inl f1_89))] := hD
          have hB_89 := hw
          exact kr_v f1_89 hx hb hr hK (hP.sub [0, 1, 2, 3] (rfl)) (hD.sub [0, 1, 2, 3] (by decide) (rfl)) hS (hB_89) d_Walk_putInto_92 hlocks
        · exact absurd (by decide) c_7
end
section
abbrev Qc_Walk_init (dC : Nat → ClassId) (dI : Nat → Nat → Nat) (cI cB cZ : ClassId) (w : Nat) (A : Nat → Prop) := va_Qv (fun (u9 : Nat) => True) (ka (dC, dI) classes [(cI, .int), (cB, .byte), (cZ, .boolean)] (fun (u9 : Nat) => [(w, .inr (1, [.ref u9, .int 0, .int 0, .int 0, .int 0, .int 0])), (u9, .inl (cI, 1024, .inl (fun _ => 0)))]) A) A
set_option maxHeartbeats 1000000 in
set_option maxRecDepth 100000 in
/-- Walk() -/
theorem c_Walk_init (l : Launch) (dC : Nat → ClassId) (dI : Nat → Nat → Nat) (cI cB cZ : ClassId) (sz : Nat) (w : Nat)  : Met l y_Walk_init w_Walk_init ({ frames := 1, cells := 1, slots := 1024, locals := 12 }) (va_Pc [.ref w] (kp (dC, dI) classes [(cI, .int), (cB, .byte), (cZ, .boolean)] [(w, .inr (1, [.null, .int 0, .int 0, .int 0, .int 0, .int 0]))] sz)) (Qc_Walk_init dC dI cI cB cZ w (va_A [(w, .inr (1, [.null, .int 0, .int 0, .int 0, .int 0, .int 0]))] sz)) 1 1024 (va_A [(w, .inr (1, [.null, .int 0, .int 0, .int 0, .int 0, .int 0]))] sz) := by
  refine Met.ofW (cc := prog_5_method_1_code) (maxL := 1) (ret := none) (by decide) rfl ?_
  intro p e s m args below meth c s₁ B hml hv
  obtain ⟨rfl, hsz, hP, hK, hD0⟩ := hv
  have hx := B.exec
  have hb := B.bytes
  have hr := B.returns
  have hts := fun w h => atoms_spec (ws := w_Walk_init) B.pre w (List.mem_cons_of_mem _ h)
  have hown : s.vm.findClass "DemoTape$Walk" = some m.cls := findClass_of_methodNamed B.named
  have hlocks := B.notSynchronized
  have hin : meth.name = "<init>" := (name_of_methodNamed B.named B.method).1
  subst hsz
  have hD := hD0.self (sz := s.heap.size)
  generalize hAe : va_A ([(w, .inr (1, [.null, .int 0, .int 0, .int 0, .int 0, .int 0]))] : va_W) s.heap.size = A at hD ⊢
  have hA : ∀ q : Nat, s.heap.size ≤ q → A q := fun q h => by rw [← hAe]; exact Or.inr h
  have hS : va_S A s.heap s.heap [] := va_S.rf
  have hP : va_P (dC, dI) classes [(w, .inr (1, [.null, .int 0, .int 0, .int 0, .int 0, .int 0]))] s.heap := hP
  have hl := lv_entry ([.ref w]) (n := 1) (Nat.le_of_ble_eq_true rfl)
  rw [lg_entry_eq]
  generalize (lg_sl ([.ref w]) ++ List.replicate (1 - (lg_sl ([.ref w])).length) Slot.unset).toArray = ls at hl ⊢
  have hl : lv_has ls 1 [(0, .ref w)] := hl
  refine lv_aload_n hx hb d_Walk_init_0 rfl (lv_at hl 0 rfl) ?_
  refine W.objInit hx hb hown (hts _ mw46) (hts _ mw39) (hts _ mw40) rfl (by rw [hml]; exact hl.1) rfl d_Walk_init_1 (Nat.le_of_ble_eq_true rfl) (Nat.le_of_ble_eq_true rfl) ?_
  refine W.eq (g2 := F0 m 4 ls []) rfl ?_
  refine lv_aload_n hx hb d_Walk_init_4 rfl (lv_at hl 0 rfl) ?_
  refine lv_sipush (v := 1024) hx hb d_Walk_init_5 (by decide) ?_
  refine va_newa (atype := .int) (ty := .int) (a0 := (1024, .inl (fun _ => 0))) hx hb (hts _ mw66) rfl hK hP hD hS hA (fun _ => rfl) (by decide) (by decide) (by decide) (Nat.le_of_ble_eq_true rfl) (Nat.le_of_ble_eq_true rfl) d_Walk_init_8 (fun q8 cA9 H hK9 hP hD hS => ?_)
  obtain rfl : cI = cA9 := ks_int hK9
  refine W.widen (k := 1) (n := 1024) (by decide) (by decide) ?_
  have hP : va_P (dC, dI) classes [(w, .inr (1, [.null, .int 0, .int 0, .int 0, .int 0, .int 0])), (q8, .inl (cI, 1024, .inl (fun _ => 0)))] H := hP
  have hD : va_D A [(w, .inr (1, [.null, .int 0, .int 0, .int 0, .int 0, .int 0])), (q8, .inl (cI, 1024, .inl (fun _ => 0)))] := hD
  refine va_putF (D := (dC, dI)) (ci := 1) (v := .ref q8) (ty := (.array .int)) (C := "DemoTape$Walk") (T := F_Walk) (N := 6) hx hb hts i_Walk t_Walk t_Walk_ok n_Walk hown hK hP hD hS 0 rfl rfl 0 (by decide) (hts _ mw47) (fun _ h9 => h9) rfl hin rfl (by decide +kernel) rfl rfl (Nat.le_of_ble_eq_true rfl) d_Walk_init_10 (fun H locs hP hD hS => ?_)
  have hP : va_P (dC, dI) classes [(w, .inr (1, [.ref q8, .int 0, .int 0, .int 0, .int 0, .int 0])), (q8, .inl (cI, 1024, .inl (fun _ => 0)))] H := hP
  have hD : va_D A [(w, .inr (1, [.ref q8, .int 0, .int 0, .int 0, .int 0, .int 0])), (q8, .inl (cI, 1024, .inl (fun _ => 0)))] := hD
  exact kr_v q8 hx hb hr hK (hP.sub [0, 1] (rfl)) (hD.sub [0, 1] (by decide) (rfl)) hS trivial d_Walk_init_13 hlocks
abbrev Qc_Row_init_4110 (dC : Nat → ClassId) (dI : Nat → Nat → Nat) (cI cB cZ : ClassId) (r : Nat) (A : Nat → Prop) := va_Qv (fun (u9 : Nat) => True) (ka (dC, dI) classes [(cI, .int), (cB, .byte), (cZ, .boolean)] (fun (u9 : Nat) => [(r, .inr (2, [.ref u9, .int 0])), (u9, .inl (cB, 4110, .inl (fun _ => 0)))]) A) A
set_option maxHeartbeats 1000000 in
set_option maxRecDepth 100000 in
/-- ByteRow(4110) -/
theorem c_Row_init_4110 (l : Launch) (dC : Nat → ClassId) (dI : Nat → Nat → Nat) (cI cB cZ : ClassId) (sz : Nat) (r : Nat)  : Met l y_Row_init w_Row_init ({ frames := 1, cells := 1, slots := 4110, locals := 14 }) (va_Pc [.ref r, .int 4110] (kp (dC, dI) classes [(cI, .int), (cB, .byte), (cZ, .boolean)] [(r, .inr (2, [.null, .int 0]))] sz)) (Qc_Row_init_4110 dC dI cI cB cZ r (va_A [(r, .inr (2, [.null, .int 0]))] sz)) 1 4110 (va_A [(r, .inr (2, [.null, .int 0]))] sz) := by
  refine Met.ofW (cc := prog_2_method_1_code) (maxL := 2) (ret := none) (by decide) rfl ?_
  intro p e s m args below meth c s₁ B hml hv
  obtain ⟨rfl, hsz, hP, hK, hD0⟩ := hv
  have hx := B.exec
  have hb := B.bytes
  have hr := B.returns
  have hts := fun w h => atoms_spec (ws := w_Row_init) B.pre w (List.mem_cons_of_mem _ h)
  have hown : s.vm.findClass "DemoTape$ByteRow" = some m.cls := findClass_of_methodNamed B.named
  have hlocks := B.notSynchronized
  have hin : meth.name = "<init>" := (name_of_methodNamed B.named B.method).1
  subst hsz
  have hD := hD0.self (sz := s.heap.size)
  generalize hAe : va_A ([(r, .inr (2, [.null, .int 0]))] : va_W) s.heap.size = A at hD ⊢
  have hA : ∀ q : Nat, s.heap.size ≤ q → A q := fun q h => by rw [← hAe]; exact Or.inr h
  have hS : va_S A s.heap s.heap [] := va_S.rf
  have hP : va_P (dC, dI) classes [(r, .inr (2, [.null, .int 0]))] s.heap := hP
  have hl := lv_entry ([.ref r, .int 4110]) (n := 2) (Nat.le_of_ble_eq_true rfl)
  rw [lg_entry_eq]
  generalize (lg_sl ([.ref r, .int 4110]) ++ List.replicate (2 - (lg_sl ([.ref r, .int 4110])).length) Slot.unset).toArray = ls at hl ⊢
  have hl : lv_has ls 2 [(0, .ref r), (1, .int 4110)] := hl
  refine lv_aload_n hx hb d_Row_init_0 rfl (lv_at hl 0 rfl) ?_
  refine W.objInit hx hb hown (hts _ mw72) (hts _ mw39) (hts _ mw40) rfl (by rw [hml]; exact hl.1) rfl d_Row_init_1 (Nat.le_of_ble_eq_true rfl) (Nat.le_of_ble_eq_true rfl) ?_
  refine W.eq (g2 := F0 m 4 ls []) rfl ?_
  refine lv_aload_n hx hb d_Row_init_4 rfl (lv_at hl 0 rfl) ?_
  refine lv_iload_n hx hb d_Row_init_5 rfl (lv_at hl 1 rfl) ?_
  refine lv_iconst (v := 0) hx hb d_Row_init_6 (by decide) ?_
  refine va_mmax hx hb (by rw [hml]; exact hl.1.symm) hown (hts _ mw73) (hts _ mw74) (hts _ mw28) (hts _ mw75) (Nat.le_of_ble_eq_true rfl) (Nat.le_of_ble_eq_true rfl) (Nat.le_of_ble_eq_true rfl) (Nat.le_of_ble_eq_true rfl) d_Row_init_7 ?_
  refine kt_i (y := 4110) (by decide) ?_
  refine va_newa (atype := .byte) (ty := .byte) (a0 := (4110, .inl (fun _ => 0))) hx hb (hts _ mw83) rfl hK hP hD hS hA (fun _ => rfl) (by decide) (by decide) (by decide) (Nat.le_of_ble_eq_true rfl) (Nat.le_of_ble_eq_true rfl) d_Row_init_10 (fun q10 cA9 H hK9 hP hD hS => ?_)
  obtain rfl : cB = cA9 := ks_byte hK9
  refine W.widen (k := 1) (n := 4110) (by decide) (by decide) ?_
  have hP : va_P (dC, dI) classes [(r, .inr (2, [.null, .int 0])), (q10, .inl (cB, 4110, .inl (fun _ => 0)))] H := hP
  have hD : va_D A [(r, .inr (2, [.null, .int 0])), (q10, .inl (cB, 4110, .inl (fun _ => 0)))] := hD
  refine va_putF (D := (dC, dI)) (ci := 2) (v := .ref q10) (ty := (.array .byte)) (C := "DemoTape$ByteRow") (T := F_Row) (N := 2) hx hb hts i_Row t_Row t_Row_ok n_Row hown hK hP hD hS 0 rfl rfl 0 (by decide) (hts _ mw76) (fun _ h9 => h9) rfl hin rfl (by decide +kernel) rfl rfl (Nat.le_of_ble_eq_true rfl) d_Row_init_12 (fun H locs hP hD hS => ?_)
  have hP : va_P (dC, dI) classes [(r, .inr (2, [.ref q10, .int 0])), (q10, .inl (cB, 4110, .inl (fun _ => 0)))] H := hP
  have hD : va_D A [(r, .inr (2, [.ref q10, .int 0])), (q10, .inl (cB, 4110, .inl (fun _ => 0)))] := hD
  exact kr_v q10 hx hb hr hK (hP.sub [0, 1] (rfl)) (hD.sub [0, 1] (by decide) (rfl)) hS trivial d_Row_init_15 hlocks
abbrev Qc_Row_init_8192 (dC : Nat → ClassId) (dI : Nat → Nat → Nat) (cI cB cZ : ClassId) (r : Nat) (A : Nat → Prop) := va_Qv (fun (u9 : Nat) => True) (ka (dC, dI) classes [(cI, .int), (cB, .byte), (cZ, .boolean)] (fun (u9 : Nat) => [(r, .inr (2, [.ref u9, .int 0])), (u9, .inl (cB, 8192, .inl (fun _ => 0)))]) A) A
set_option maxHeartbeats 1000000 in
set_option maxRecDepth 100000 in
/-- ByteRow(8192) -/
theorem c_Row_init_8192 (l : Launch) (dC : Nat → ClassId) (dI : Nat → Nat → Nat) (cI cB cZ : ClassId) (sz : Nat) (r : Nat)  : Met l y_Row_init w_Row_init ({ frames := 1, cells := 1, slots := 8192, locals := 14 }) (va_Pc [.ref r, .int 8192] (kp (dC, dI) classes [(cI, .int), (cB, .byte), (cZ, .boolean)] [(r, .inr (2, [.null, .int 0]))] sz)) (Qc_Row_init_8192 dC dI cI cB cZ r (va_A [(r, .inr (2, [.null, .int 0]))] sz)) 1 8192 (va_A [(r, .inr (2, [.null, .int 0]))] sz) := by
  refine Met.ofW (cc := prog_2_method_1_code) (maxL := 2) (ret := none) (by decide) rfl ?_
  intro p e s m args below meth c s₁ B hml hv
  obtain ⟨rfl, hsz, hP, hK, hD0⟩ := hv
  have hx := B.exec
  have hb := B.bytes
  have hr := B.returns
  have hts := fun w h => atoms_spec (ws := w_Row_init) B.pre w (List.mem_cons_of_mem _ h)
  have hown : s.vm.findClass "DemoTape$ByteRow" = some m.cls := findClass_of_methodNamed B.named
  have hlocks := B.notSynchronized
  have hin : meth.name = "<init>" := (name_of_methodNamed B.named B.method).1
  subst hsz
  have hD := hD0.self (sz := s.heap.size)
  generalize hAe : va_A ([(r, .inr (2, [.null, .int 0]))] : va_W) s.heap.size = A at hD ⊢
  have hA : ∀ q : Nat, s.heap.size ≤ q → A q := fun q h => by rw [← hAe]; exact Or.inr h
  have hS : va_S A s.heap s.heap [] := va_S.rf
  have hP : va_P (dC, dI) classes [(r, .inr (2, [.null, .int 0]))] s.heap := hP
  have hl := lv_entry ([.ref r, .int 8192]) (n := 2) (Nat.le_of_ble_eq_true rfl)
  rw [lg_entry_eq]
  generalize (lg_sl ([.ref r, .int 8192]) ++ List.replicate (2 - (lg_sl ([.ref r, .int 8192])).length) Slot.unset).toArray = ls at hl ⊢
  have hl : lv_has ls 2 [(0, .ref r), (1, .int 8192)] := hl
  refine lv_aload_n hx hb d_Row_init_0 rfl (lv_at hl 0 rfl) ?_
  refine W.objInit hx hb hown (hts _ mw72) (hts _ mw39) (hts _ mw40) rfl (by rw [hml]; exact hl.1) rfl d_Row_init_1 (Nat.le_of_ble_eq_true rfl) (Nat.le_of_ble_eq_true rfl) ?_
  refine W.eq (g2 := F0 m 4 ls []) rfl ?_
  refine lv_aload_n hx hb d_Row_init_4 rfl (lv_at hl 0 rfl) ?_
  refine lv_iload_n hx hb d_Row_init_5 rfl (lv_at hl 1 rfl) ?_
  refine lv_iconst (v := 0) hx hb d_Row_init_6 (by decide) ?_
  refine va_mmax hx hb (by rw [hml]; exact hl.1.symm) hown (hts _ mw73) (hts _ mw74) (hts _ mw28) (hts _ mw75) (Nat.le_of_ble_eq_true rfl) (Nat.le_of_ble_eq_true rfl) (Nat.le_of_ble_eq_true rfl) (Nat.le_of_ble_eq_true rfl) d_Row_init_7 ?_
  refine kt_i (y := 8192) (by decide) ?_
  refine va_newa (atype := .byte) (ty := .byte) (a0 := (8192, .inl (fun _ => 0))) hx hb (hts _ mw83) rfl hK hP hD hS hA (fun _ => rfl) (by decide) (by decide) (by decide) (Nat.le_of_ble_eq_true rfl) (Nat.le_of_ble_eq_true rfl) d_Row_init_10 (fun q10 cA9 H hK9 hP hD hS => ?_)
  obtain rfl : cB = cA9 := ks_byte hK9
  refine W.widen (k := 1) (n := 8192) (by decide) (by decide) ?_
  have hP : va_P (dC, dI) classes [(r, .inr (2, [.null, .int 0])), (q10, .inl (cB, 8192, .inl (fun _ => 0)))] H := hP
  have hD : va_D A [(r, .inr (2, [.null, .int 0])), (q10, .inl (cB, 8192, .inl (fun _ => 0)))] := hD
  refine va_putF (D := (dC, dI)) (ci := 2) (v := .ref q10) (ty := (.array .byte)) (C := "DemoTape$ByteRow") (T := F_Row) (N := 2) hx hb hts i_Row t_Row t_Row_ok n_Row hown hK hP hD hS 0 rfl rfl 0 (by decide) (hts _ mw76) (fun _ h9 => h9) rfl hin rfl (by decide +kernel) rfl rfl (Nat.le_of_ble_eq_true rfl) d_Row_init_12 (fun H locs hP hD hS => ?_)
  have hP : va_P (dC, dI) classes [(r, .inr (2, [.ref q10, .int 0])), (q10, .inl (cB, 8192, .inl (fun _ => 0)))] H := hP
  have hD : va_D A [(r, .inr (2, [.ref q10, .int 0])), (q10, .inl (cB, 8192, .inl (fun _ => 0)))] := hD
  exact kr_v q10 hx hb hr hK (hP.sub [0, 1] (rfl)) (hD.sub [0, 1] (by decide) (rfl)) hS trivial d_Row_init_15 hlocks
abbrev Qc_Rd_init (dC : Nat → ClassId) (dI : Nat → Nat → Nat) (cI cB cZ : ClassId) (d : Nat) (r : Nat) (A : Nat → Prop) := va_Qv (fun (_ : Unit) => True) (ka (dC, dI) classes [(cI, .int), (cB, .byte), (cZ, .boolean)] (fun (_ : Unit) => [(d, .inr (3, [.ref r, .int 0, .int 0, .int 0, .int (-1)]))]) A) A
set_option maxHeartbeats 1000000 in
set_option maxRecDepth 100000 in
/-- Reader(row) -/
theorem c_Rd_init (l : Launch) (dC : Nat → ClassId) (dI : Nat → Nat → Nat) (cI cB cZ : ClassId) (sz : Nat) (d : Nat) (r : Nat)  : Met l y_Rd_init w_Rd_init ({ frames := 1, cells := 0, slots := 0, locals := 12 }) (va_Pc [.ref d, .ref r] (kp (dC, dI) classes [(cI, .int), (cB, .byte), (cZ, .boolean)] [(d, .inr (3, [.null, .int 0, .int 0, .int 0, .int 0]))] sz)) (Qc_Rd_init dC dI cI cB cZ d r (va_A [(d, .inr (3, [.null, .int 0, .int 0, .int 0, .int 0]))] sz)) 0 0 (va_A [(d, .inr (3, [.null, .int 0, .int 0, .int 0, .int 0]))] sz) := by
  refine Met.ofW (cc := prog_4_method_1_code) (maxL := 2) (ret := none) (by decide) rfl ?_
  intro p e s m args below meth c s₁ B hml hv
  obtain ⟨rfl, hsz, hP, hK, hD0⟩ := hv
  have hx := B.exec
  have hb := B.bytes
  have hr := B.returns
  have hts := fun w h => atoms_spec (ws := w_Rd_init) B.pre w (List.mem_cons_of_mem _ h)
  have hown : s.vm.findClass "DemoTape$Reader" = some m.cls := findClass_of_methodNamed B.named
  have hlocks := B.notSynchronized
  have hin : meth.name = "<init>" := (name_of_methodNamed B.named B.method).1
  subst hsz
  have hD := hD0.self (sz := s.heap.size)
  generalize hAe : va_A ([(d, .inr (3, [.null, .int 0, .int 0, .int 0, .int 0]))] : va_W) s.heap.size = A at hD ⊢
  have hA : ∀ q : Nat, s.heap.size ≤ q → A q := fun q h => by rw [← hAe]; exact Or.inr h
  have hS : va_S A s.heap s.heap [] := va_S.rf
  have hP : va_P (dC, dI) classes [(d, .inr (3, [.null, .int 0, .int 0, .int 0, .int 0]))] s.heap := hP
  have hl := lv_entry ([.ref d, .ref r]) (n := 2) (Nat.le_of_ble_eq_true rfl)
  rw [lg_entry_eq]
  generalize (lg_sl ([.ref d, .ref r]) ++ List.replicate (2 - (lg_sl ([.ref d, .ref r])).length) Slot.unset).toArray = ls at hl ⊢
  have hl : lv_has ls 2 [(0, .ref d), (1, .ref r)] := hl
  refine lv_aload_n hx hb d_Rd_init_0 rfl (lv_at hl 0 rfl) ?_
  refine W.objInit hx hb hown (hts _ mw89) (hts _ mw39) (hts _ mw40) rfl (by rw [hml]; exact hl.1) rfl d_Rd_init_1 (Nat.le_of_ble_eq_true rfl) (Nat.le_of_ble_eq_true rfl) ?_
  refine W.eq (g2 := F0 m 4 ls []) rfl ?_
  refine lv_aload_n hx hb d_Rd_init_4 rfl (lv_at hl 0 rfl) ?_
  refine lv_aload_n hx hb d_Rd_init_5 rfl (lv_at hl 1 rfl) ?_
  refine va_putF (D := (dC, dI)) (ci := 3) (v := .ref r) (ty := (.object "DemoTape$ByteRow")) (C := "DemoTape$Reader") (T := F_Rd) (N := 5) hx hb hts i_Rd t_Rd t_Rd_ok n_Rd hown hK hP hD hS 0 rfl rfl 0 (by decide) (hts _ mw90) (fun _ h9 => h9) rfl hin rfl (by decide +kernel) rfl rfl (Nat.le_of_ble_eq_true rfl) d_Rd_init_6 (fun H locs hP hD hS => ?_)
  have hP : va_P (dC, dI) classes [(d, .inr (3, [.ref r, .int 0, .int 0, .int 0, .int 0]))] H := hP
  have hD : va_D A [(d, .inr (3, [.ref r, .int 0, .int 0, .int 0, .int 0]))] := hD
  refine lv_aload_n hx hb d_Rd_init_9 rfl (lv_at hl 0 rfl) ?_
  refine lv_iconst (v := 0) hx hb d_Rd_init_10 (by decide) ?_
  refine va_put (D := (dC, dI)) (ci := 3) (v := .int 0) (ty := .int) (C := "DemoTape$Reader") (T := F_Rd) (N := 5) hx hb hts i_Rd t_Rd t_Rd_ok n_Rd hown hK hP hD hS 0 rfl rfl 3 (by decide) (hts _ mw93) (fun _ h9 => h9) rfl (by decide +kernel) rfl rfl (Nat.le_of_ble_eq_true rfl) d_Rd_init_11 (fun H locs hP hD hS => ?_)
  have hP : va_P (dC, dI) classes [(d, .inr (3, [.ref r, .int 0, .int 0, .int 0, .int 0]))] H := hP
  have hD : va_D A [(d, .inr (3, [.ref r, .int 0, .int 0, .int 0, .int 0]))] := hD
  refine lv_aload_n hx hb d_Rd_init_14 rfl (lv_at hl 0 rfl) ?_
  refine lv_iconst (v := -1) hx hb d_Rd_init_15 (by decide) ?_
  refine va_put (D := (dC, dI)) (ci := 3) (v := .int (-1)) (ty := .int) (C := "DemoTape$Reader") (T := F_Rd) (N := 5) hx hb hts i_Rd t_Rd t_Rd_ok n_Rd hown hK hP hD hS 0 rfl rfl 4 (by decide) (hts _ mw94) (fun _ h9 => h9) rfl (by decide +kernel) rfl rfl (Nat.le_of_ble_eq_true rfl) d_Rd_init_16 (fun H locs hP hD hS => ?_)
  have hP : va_P (dC, dI) classes [(d, .inr (3, [.ref r, .int 0, .int 0, .int 0, .int (-1)]))] H := hP
  have hD : va_D A [(d, .inr (3, [.ref r, .int 0, .int 0, .int 0, .int (-1)]))] := hD
  exact kr_v () hx hb hr hK (hP.sub [0] (rfl)) (hD.sub [0] (by decide) (rfl)) hS trivial d_Rd_init_19 hlocks
end
section
abbrev Qc_T_start (dC : Nat → ClassId) (dI : Nat → Nat → Nat) (cI cB cZ : ClassId) (h0 : Nat) (w : Nat) (a : Nat) (fw : Nat → Int32) (M : List Int32) (x : Int32) (y : Int32) (g : Int32) (t : Int32) (w2 : Nat) (a2 : Nat) (fv : Nat → Int32) (M2 : List Int32) (x2 : Int32) (y2 : Int32) (g2 : Int32) (t2 : Int32) (ro : Nat) (bo : Nat) (fo : Nat → Int32) (O : List Nat) (ri : Nat) (bi : Nat) (fi : Nat → Int32) (I : List Nat) (d : Nat) (q : RS) (px : Int32) (py : Int32) (pg : Int32) (pt : Int32) (A : Nat → Prop) := va_Qi (fun (r9 : Int32) (u9 : Int32 × Int32 × Int32 × Int32) => (r9 = if kStOk px py pg pt then 1 else 0) ∧ ((u9.1, u9.2.1, u9.2.2.1, u9.2.2.2) = if kStOk px py pg pt then (px, py, pg, pt) else (x, y, g, t))) (ka (dC, dI) classes [(cI, .int), (cB, .byte), (cZ, .boolean)] (fun (u9 : Int32 × Int32 × Int32 × Int32) => [(h0, .inr (0, [.ref w, .ref w2, .ref ro, .ref ri, .ref d])), (w, .inr (1, [.ref a, .int (nI M.length), .int u9.1, .int u9.2.1, .int u9.2.2.1, .int u9.2.2.2])), (a, .inl (cI, 1024, .inl fw)), (w2, .inr (1, [.ref a2, .int (nI M2.length), .int x2, .int y2, .int g2, .int t2])), (a2, .inl (cI, 1024, .inl fv)), (ro, .inr (2, [.ref bo, .int (nI O.length)])), (bo, .inl (cB, 4110, .inl fo)), (ri, .inr (2, [.ref bi, .int (nI I.length)])), (bi, .inl (cB, 8192, .inl fi)), (d, .inr (3, [.ref ri, .int (nI (rNx q)), .int (nI (rAn q)), .int (rFt q), .int (rPl q)]))]) A) A
set_option maxHeartbeats 1000000 in
set_option maxRecDepth 100000 in
/-- start -/
theorem c_T_start (l : Launch) (dC : Nat → ClassId) (dI : Nat → Nat → Nat) (cI cB cZ : ClassId) (sz : Nat) (h0 : Nat) (w : Nat) (a : Nat) (fw : Nat → Int32) (M : List Int32) (x : Int32) (y : Int32) (g : Int32) (t : Int32) (w2 : Nat) (a2 : Nat) (fv : Nat → Int32) (M2 : List Int32) (x2 : Int32) (y2 : Int32) (g2 : Int32) (t2 : Int32) (ro : Nat) (bo : Nat) (fo : Nat → Int32) (O : List Nat) (ri : Nat) (bi : Nat) (fi : Nat → Int32) (I : List Nat) (d : Nat) (q : RS) (px : Int32) (py : Int32) (pg : Int32) (pt : Int32) (hW : WRow fw M) (hV : WRow fv M2) (hO : BRow 4110 fo O) (hI : BRow 8192 fi I) : Met l y_Tape_start w_Tape_start ({ frames := 1, cells := 0, slots := 0, locals := 24 }) (va_Pc [.ref h0, .int px, .int py, .int pg, .int pt] (kp (dC, dI) classes [(cI, .int), (cB, .byte), (cZ, .boolean)] [(h0, .inr (0, [.ref w, .ref w2, .ref ro, .ref ri, .ref d])), (w, .inr (1, [.ref a, .int (nI M.length), .int x, .int y, .int g, .int t])), (a, .inl (cI, 1024, .inl fw)), (w2, .inr (1, [.ref a2, .int (nI M2.length), .int x2, .int y2, .int g2, .int t2])), (a2, .inl (cI, 1024, .inl fv)), (ro, .inr (2, [.ref bo, .int (nI O.length)])), (bo, .inl (cB, 4110, .inl fo)), (ri, .inr (2, [.ref bi, .int (nI I.length)])), (bi, .inl (cB, 8192, .inl fi)), (d, .inr (3, [.ref ri, .int (nI (rNx q)), .int (nI (rAn q)), .int (rFt q), .int (rPl q)]))] sz)) (Qc_T_start dC dI cI cB cZ h0 w a fw M x y g t w2 a2 fv M2 x2 y2 g2 t2 ro bo fo O ri bi fi I d q px py pg pt (va_A [(h0, .inr (0, [.ref w, .ref w2, .ref ro, .ref ri, .ref d])), (w, .inr (1, [.ref a, .int (nI M.length), .int x, .int y, .int g, .int t])), (a, .inl (cI, 1024, .inl fw)), (w2, .inr (1, [.ref a2, .int (nI M2.length), .int x2, .int y2, .int g2, .int t2])), (a2, .inl (cI, 1024, .inl fv)), (ro, .inr (2, [.ref bo, .int (nI O.length)])), (bo, .inl (cB, 4110, .inl fo)), (ri, .inr (2, [.ref bi, .int (nI I.length)])), (bi, .inl (cB, 8192, .inl fi)), (d, .inr (3, [.ref ri, .int (nI (rNx q)), .int (nI (rAn q)), .int (rFt q), .int (rPl q)]))] sz)) 0 0 (va_A [(h0, .inr (0, [.ref w, .ref w2, .ref ro, .ref ri, .ref d])), (w, .inr (1, [.ref a, .int (nI M.length), .int x, .int y, .int g, .int t])), (a, .inl (cI, 1024, .inl fw)), (w2, .inr (1, [.ref a2, .int (nI M2.length), .int x2, .int y2, .int g2, .int t2])), (a2, .inl (cI, 1024, .inl fv)), (ro, .inr (2, [.ref bo, .int (nI O.length)])), (bo, .inl (cB, 4110, .inl fo)), (ri, .inr (2, [.ref bi, .int (nI I.length)])), (bi, .inl (cB, 8192, .inl fi)), (d, .inr (3, [.ref ri, .int (nI (rNx q)), .int (nI (rAn q)), .int (rFt q), .int (rPl q)]))] sz) := by
  refine Met.ofW (cc := prog_1_method_2_code) (maxL := 5) (ret := (some .boolean)) (by decide) rfl ?_
  intro p e s m args below meth c s₁ B hml hv
  obtain ⟨rfl, hsz, hP, hK, hD0⟩ := hv
  have hx := B.exec
  have hb := B.bytes
  have hr := B.returns
  have hts := fun w h => atoms_spec (ws := w_Tape_start) B.pre w (List.mem_cons_of_mem _ h)
  have hown : s.vm.findClass "DemoTape" = some m.cls := findClass_of_methodNamed B.named
  have hlocks := B.notSynchronized
  subst hsz
  have hD := hD0.self (sz := s.heap.size)
  generalize hAe : va_A ([(h0, .inr (0, [.ref w, .ref w2, .ref ro, .ref ri, .ref d])), (w, .inr (1, [.ref a, .int (nI M.length), .int x, .int y, .int g, .int t])), (a, .inl (cI, 1024, .inl fw)), (w2, .inr (1, [.ref a2, .int (nI M2.length), .int x2, .int y2, .int g2, .int t2])), (a2, .inl (cI, 1024, .inl fv)), (ro, .inr (2, [.ref bo, .int (nI O.length)])), (bo, .inl (cB, 4110, .inl fo)), (ri, .inr (2, [.ref bi, .int (nI I.length)])), (bi, .inl (cB, 8192, .inl fi)), (d, .inr (3, [.ref ri, .int (nI (rNx q)), .int (nI (rAn q)), .int (rFt q), .int (rPl q)]))] : va_W) s.heap.size = A at hD ⊢
  have hA : ∀ q : Nat, s.heap.size ≤ q → A q := fun q h => by rw [← hAe]; exact Or.inr h
  have hS : va_S A s.heap s.heap [] := va_S.rf
  have hP : va_P (dC, dI) classes [(h0, .inr (0, [.ref w, .ref w2, .ref ro, .ref ri, .ref d])), (w, .inr (1, [.ref a, .int (nI M.length), .int x, .int y, .int g, .int t])), (a, .inl (cI, 1024, .inl fw)), (w2, .inr (1, [.ref a2, .int (nI M2.length), .int x2, .int y2, .int g2, .int t2])), (a2, .inl (cI, 1024, .inl fv)), (ro, .inr (2, [.ref bo, .int (nI O.length)])), (bo, .inl (cB, 4110, .inl fo)), (ri, .inr (2, [.ref bi, .int (nI I.length)])), (bi, .inl (cB, 8192, .inl fi)), (d, .inr (3, [.ref ri, .int (nI (rNx q)), .int (nI (rAn q)), .int (rFt q), .int (rPl q)]))] s.heap := hP
  have hl := lv_entry ([.ref h0, .int px, .int py, .int pg, .int pt]) (n := 5) (Nat.le_of_ble_eq_true rfl)
  rw [lg_entry_eq]
  generalize (lg_sl ([.ref h0, .int px, .int py, .int pg, .int pt]) ++ List.replicate (5 - (lg_sl ([.ref h0, .int px, .int py, .int pg, .int pt])).length) Slot.unset).toArray = ls at hl ⊢
  have hl : lv_has ls 5 [(0, .ref h0), (1, .int px), (2, .int py), (3, .int pg), (4, .int pt)] := hl
  refine lv_iload_n hx hb d_Tape_start_0 rfl (lv_at hl 1 rfl) ?_
  refine lv_sipush (v := -32768) hx hb d_Tape_start_1 (by decide) ?_
  refine lv_sipush (v := 32767) hx hb d_Tape_start_4 (by decide) ?_
  refine kq_i (wr := [(h0, .inr (0, [.ref w, .ref w2, .ref ro, .ref ri, .ref d])), (w, .inr (1, [.ref a, .int (nI M.length), .int x, .int y, .int g, .int t])), (a, .inl (cI, 1024, .inl fw)), (w2, .inr (1, [.ref a2, .int (nI M2.length), .int x2, .int y2, .int g2, .int t2])), (a2, .inl (cI, 1024, .inl fv)), (ro, .inr (2, [.ref bo, .int (nI O.length)])), (bo, .inl (cB, 4110, .inl fo)), (ri, .inr (2, [.ref bi, .int (nI I.length)])), (bi, .inl (cB, 8192, .inl fi)), (d, .inr (3, [.ref ri, .int (nI (rNx q)), .int (nI (rAn q)), .int (rFt q), .int (rPl q)]))]) (va_runS (As := [.int px, .int (-32768), .int 32767]) (rest := []) ⟨hx, hb, hml, hown, hts⟩ (c_D_isWithin l dC dI cI cB cZ _ px (-32768) 32767 ) (va_cwS 3 hts (gS mw126 mw127 mw25 mw128) rfl rfl rfl (by decide +kernel) ⟨Nat.le_of_ble_eq_true rfl, Nat.le_of_ble_eq_true rfl⟩) (kpS (wc := []) hK hP hD [] rfl (by decide) rfl) rfl rfl hl.1 rfl (lv_room (Nat.le_of_ble_eq_true rfl)) d_Tape_start_7 ⟨Nat.le_of_ble_eq_true rfl, Nat.le_of_ble_eq_true rfl⟩) hP hD hS hA [] [0, 1, 2, 3, 4, 5, 6, 7, 8, 9] [0, 1, 2, 3, 4, 5, 6, 7, 8, 9] rfl rfl (by decide) (by decide) rfl (fun r_7 H locs hw hP hS => ?_)
  have e_7 := hw
  refine kt_i e_7 ?_
  refine lv_if_eq (tgt := 48) hx hb d_Tape_start_10 (by decide) (fun c_10 => ?_) (fun c_10 => ?_)
  · refine lv_iconst (v := 0) hx hb d_Tape_start_48 (by decide) ?_
    exact kr_i (v := 0) (x, y, g, t) hx hb hr (by decide) hK (hP.sub [0, 1, 2, 3, 4, 5, 6, 7, 8, 9] (rfl)) (hD.sub [0, 1, 2, 3, 4, 5, 6, 7, 8, 9] (by decide) (rfl)) hS ⟨(if_neg (fun z => z.1 c_10)).symm, (if_neg (fun z => z.1 c_10)).symm⟩ d_Tape_start_49 hlocks
  · refine lv_iload_n hx hb d_Tape_start_13 rfl (lv_at hl 2 rfl) ?_
    refine lv_sipush (v := -32768) hx hb d_Tape_start_14 (by decide) ?_
    refine lv_sipush (v := 32767) hx hb d_Tape_start_17 (by decide) ?_
    refine kq_i (wr := [(h0, .inr (0, [.ref w, .ref w2, .ref ro, .ref ri, .ref d])), (w, .inr (1, [.ref a, .int (nI M.length), .int x, .int y, .int g, .int t])), (a, .inl (cI, 1024, .inl fw)), (w2, .inr (1, [.ref a2, .int (nI M2.length), .int x2, .int y2, .int g2, .int t2])), (a2, .inl (cI, 1024, .inl fv)), (ro, .inr (2, [.ref bo, .int (nI O.length)])), (bo, .inl (cB, 4110, .inl fo)), (ri, .inr (2, [.ref bi, .int (nI I.length)])), (bi, .inl (cB, 8192, .inl fi)), (d, .inr (3, [.ref ri, .int (nI (rNx q)), .int (nI (rAn q)), .int (rFt q), .int (rPl q)]))]) (va_runS (As := [.int py, .int (-32768), .int 32767]) (rest := []) ⟨hx, hb, hml, hown, hts⟩ (c_D_isWithin l dC dI cI cB cZ _ py (-32768) 32767 ) (va_cwS 3 hts (gS mw126 mw127 mw25 mw128) rfl rfl rfl (by decide +kernel) ⟨Nat.le_of_ble_eq_true rfl, Nat.le_of_ble_eq_true rfl⟩) (kpS (wc := []) hK hP hD [] rfl (by decide) rfl) rfl rfl hl.1 rfl (lv_room (Nat.le_of_ble_eq_true rfl)) d_Tape_start_20 ⟨Nat.le_of_ble_eq_true rfl, Nat.le_of_ble_eq_true rfl⟩) hP hD hS hA [] [0, 1, 2, 3, 4, 5, 6, 7, 8, 9] [0, 1, 2, 3, 4, 5, 6, 7, 8, 9] rfl rfl (by decide) (by decide) rfl (fun r_20 H locs hw hP hS => ?_)
    have e_20 := hw
    refine kt_i e_20 ?_
    refine lv_if_eq (tgt := 48) hx hb d_Tape_start_23 (by decide) (fun c_23 => ?_) (fun c_23 => ?_)
    · refine lv_iconst (v := 0) hx hb d_Tape_start_48 (by decide) ?_
      exact kr_i (v := 0) (x, y, g, t) hx hb hr (by decide) hK (hP.sub [0, 1, 2, 3, 4, 5, 6, 7, 8, 9] (rfl)) (hD.sub [0, 1, 2, 3, 4, 5, 6, 7, 8, 9] (by decide) (rfl)) hS ⟨(if_neg (fun z => z.2.1 c_23)).symm, (if_neg (fun z => z.2.1 c_23)).symm⟩ d_Tape_start_49 hlocks
    · refine lv_iload_n hx hb d_Tape_start_26 rfl (lv_at hl 3 rfl) ?_
      refine lv_iconst (v := 0) hx hb d_Tape_start_27 (by decide) ?_
      refine lv_bipush (v := 63) hx hb d_Tape_start_28 (by decide) ?_
      refine kq_i (wr := [(h0, .inr (0, [.ref w, .ref w2, .ref ro, .ref ri, .ref d])), (w, .inr (1, [.ref a, .int (nI M.length), .int x, .int y, .int g, .int t])), (a, .inl (cI, 1024, .inl fw)), (w2, .inr (1, [.ref a2, .int (nI M2.length), .int x2, .int y2, .int g2, .int t2])), (a2, .inl (cI, 1024, .inl fv)), (ro, .inr (2, [.ref bo, .int (nI O.length)])), (bo, .inl (cB, 4110, .inl fo)), (ri, .inr (2, [.ref bi, .int (nI I.length)])), (bi, .inl (cB, 8192, .inl fi)), (d, .inr (3, [.ref ri, .int (nI (rNx q)), .int (nI (rAn q)), .int (rFt q), .int (rPl q)]))]) (va_runS (As := [.int pg, .int 0, .int 63]) (rest := []) ⟨hx, hb, hml, hown, hts⟩ (c_D_isWithin l dC dI cI cB cZ _ pg 0 63 ) (va_cwS 3 hts (gS mw126 mw127 mw25 mw128) rfl rfl rfl (by decide +kernel) ⟨Nat.le_of_ble_eq_true rfl, Nat.le_of_ble_eq_true rfl⟩) (kpS (wc := []) hK hP hD [] rfl (by decide) rfl) rfl rfl hl.1 rfl (lv_room (Nat.le_of_ble_eq_true rfl)) d_Tape_start_30 ⟨Nat.le_of_ble_eq_true rfl, Nat.le_of_ble_eq_true rfl⟩) hP hD hS hA [] [0, 1, 2, 3, 4, 5, 6, 7, 8, 9] [0, 1, 2, 3, 4, 5, 6, 7, 8, 9] rfl rfl (by decide) (by decide) rfl (fun r_30 H locs hw hP hS => ?_)
      have e_30 := hw
      refine kt_i e_30 ?_
      refine lv_if_eq (tgt := 48) hx hb d_Tape_start_33 (by decide) (fun c_33 => ?_) (fun c_33 => ?_)
      · refine lv_iconst (v := 0) hx hb d_Tape_start_48 (by decide) ?_
        exact kr_i (v := 0) (x, y, g, t) hx hb hr (by decide) hK (hP.sub [0, 1, 2, 3, 4, 5, 6, 7, 8, 9] (rfl)) (hD.sub [0, 1, 2, 3, 4, 5, 6, 7, 8, 9] (by decide) (rfl)) hS ⟨(if_neg (fun z => z.2.2.1 c_33)).symm, (if_neg (fun z => z.2.2.1 c_33)).symm⟩ d_Tape_start_49 hlocks
      · refine lv_iload hx hb d_Tape_start_36 (lv_at hl 4 rfl) ?_
        refine lv_iconst (v := 0) hx hb d_Tape_start_38 (by decide) ?_
        refine lv_sipush (v := 255) hx hb d_Tape_start_39 (by decide) ?_
        refine kq_i (wr := [(h0, .inr (0, [.ref w, .ref w2, .ref ro, .ref ri, .ref d])), (w, .inr (1, [.ref a, .int (nI M.length), .int x, .int y, .int g, .int t])), (a, .inl (cI, 1024, .inl fw)), (w2, .inr (1, [.ref a2, .int (nI M2.length), .int x2, .int y2, .int g2, .int t2])), (a2, .inl (cI, 1024, .inl fv)), (ro, .inr (2, [.ref bo, .int (nI O.length)])), (bo, .inl (cB, 4110, .inl fo)), (ri, .inr (2, [.ref bi, .int (nI I.length)])), (bi, .inl (cB, 8192, .inl fi)), (d, .inr (3, [.ref ri, .int (nI (rNx q)), .int (nI (rAn q)), .int (rFt q), .int (rPl q)]))]) (va_runS (As := [.int pt, .int 0, .int 255]) (rest := []) ⟨hx, hb, hml, hown, hts⟩ (c_D_isWithin l dC dI cI cB cZ _ pt 0 255 ) (va_cwS 3 hts (gS mw126 mw127 mw25 mw128) rfl rfl rfl (by decide +kernel) ⟨Nat.le_of_ble_eq_true rfl, Nat.le_of_ble_eq_true rfl⟩) (kpS (wc := []) hK hP hD [] rfl (by decide) rfl) rfl rfl hl.1 rfl (lv_room (Nat.le_of_ble_eq_true rfl)) d_Tape_start_42 ⟨Nat.le_of_ble_eq_true rfl, Nat.le_of_ble_eq_true rfl⟩) hP hD hS hA [] [0, 1, 2, 3, 4, 5, 6, 7, 8, 9] [0, 1, 2, 3, 4, 5, 6, 7, 8, 9] rfl rfl (by decide) (by decide) rfl (fun r_42 H locs hw hP hS => ?_)
        have e_42 := hw
        refine kt_i e_42 ?_
        refine lv_if_ne (tgt := 50) hx hb d_Tape_start_45 (by decide) (fun c_45 => ?_) (fun c_45 => ?_)
        · refine lv_aload_n hx hb d_Tape_start_50 rfl (lv_at hl 0 rfl) ?_
          refine va_get (D := (dC, dI)) (ci := 0) (v := .ref w) (C := "DemoTape") (T := F_Tape) (N := 5) hx hb hts i_Tape hown hK hP 0 rfl rfl 0 (by decide) (hts _ mw106) (fun _ h9 => h9) rfl d_Tape_start_51 ?_
          refine lv_iload_n hx hb d_Tape_start_54 rfl (lv_at hl 1 rfl) ?_
          refine lv_iload_n hx hb d_Tape_start_55 rfl (lv_at hl 2 rfl) ?_
          refine lv_iload_n hx hb d_Tape_start_56 rfl (lv_at hl 3 rfl) ?_
          refine lv_iload hx hb d_Tape_start_57 (lv_at hl 4 rfl) ?_
          refine kc_v (wr := [(h0, .inr (0, [.ref w, .ref w2, .ref ro, .ref ri, .ref d])), (w2, .inr (1, [.ref a2, .int (nI M2.length), .int x2, .int y2, .int g2, .int t2])), (a2, .inl (cI, 1024, .inl fv)), (ro, .inr (2, [.ref bo, .int (nI O.length)])), (bo, .inl (cB, 4110, .inl fo)), (ri, .inr (2, [.ref bi, .int (nI I.length)])), (bi, .inl (cB, 8192, .inl fi)), (d, .inr (3, [.ref ri, .int (nI (rNx q)), .int (nI (rAn q)), .int (rFt q), .int (rPl q)]))]) (w2 := fun (_ : Unit) => [(h0, .inr (0, [.ref w, .ref w2, .ref ro, .ref ri, .ref d])), (w, .inr (1, [.ref a, .int (nI M.length), .int px, .int py, .int pg, .int pt])), (a, .inl (cI, 1024, .inl fw)), (w2, .inr (1, [.ref a2, .int (nI M2.length), .int x2, .int y2, .int g2, .int t2])), (a2, .inl (cI, 1024, .inl fv)), (ro, .inr (2, [.ref bo, .int (nI O.length)])), (bo, .inl (cB, 4110, .inl fo)), (ri, .inr (2, [.ref bi, .int (nI I.length)])), (bi, .inl (cB, 8192, .inl fi)), (d, .inr (3, [.ref ri, .int (nI (rNx q)), .int (nI (rAn q)), .int (rFt q), .int (rPl q)]))]) (va_runV (As := [.int px, .int py, .int pg, .int pt]) (rest := []) ⟨hx, hb, hml, hown, hts⟩ (c_Walk_setStart l dC dI cI cB cZ _ w a fw M x y g t px py pg pt ) (cwV 4 hts (gV mw129 mw130 mw131 mw26 mw132) rfl rfl rfl (by decide +kernel) ⟨Nat.le_of_ble_eq_true rfl, Nat.le_of_ble_eq_true rfl⟩) (kpV (wc := [(w, .inr (1, [.ref a, .int (nI M.length), .int x, .int y, .int g, .int t])), (a, .inl (cI, 1024, .inl fw))]) (q0 := 1) (ci := 1) hK hP hD [1, 2] rfl (by decide) rfl rfl rfl) rfl rfl hl.1 rfl (lv_room (Nat.le_of_ble_eq_true rfl)) d_Tape_start_59 ⟨Nat.le_of_ble_eq_true rfl, Nat.le_of_ble_eq_true rfl⟩) hP hD hS hA [1, 2] [0, 3, 4, 5, 6, 7, 8, 9] [0, 8, 9, 1, 2, 3, 4, 5, 6, 7] rfl rfl (by decide) (by decide) (fun _ => rfl) (by decide) (fun _ => rfl) (fun u9 H locs hw hP hD hS => ?_)
          have hP : va_P (dC, dI) classes [(h0, .inr (0, [.ref w, .ref w2, .ref ro, .ref ri, .ref d])), (w, .inr (1, [.ref a, .int (nI M.length), .int px, .int py, .int pg, .int pt])), (a, .inl (cI, 1024, .inl fw)), (w2, .inr (1, [.ref a2, .int (nI M2.length), .int x2, .int y2, .int g2, .int t2])), (a2, .inl (cI, 1024, .inl fv)), (ro, .inr (2, [.ref bo, .int (nI O.length)])), (bo, .inl (cB, 4110, .inl fo)), (ri, .inr (2, [.ref bi, .int (nI I.length)])), (bi, .inl (cB, 8192, .inl fi)), (d, .inr (3, [.ref ri, .int (nI (rNx q)), .int (nI (rAn q)), .int (rFt q), .int (rPl q)]))] H := hP
          have hD : va_D A [(h0, .inr (0, [.ref w, .ref w2, .ref ro, .ref ri, .ref d])), (w, .inr (1, [.ref a, .int (nI M.length), .int px, .int py, .int pg, .int pt])), (a, .inl (cI, 1024, .inl fw)), (w2, .inr (1, [.ref a2, .int (nI M2.length), .int x2, .int y2, .int g2, .int t2])), (a2, .inl (cI, 1024, .inl fv)), (ro, .inr (2, [.ref bo, .int (nI O.length)])), (bo, .inl (cB, 4110, .inl fo)), (ri, .inr (2, [.ref bi, .int (nI I.length)])), (bi, .inl (cB, 8192, .inl fi)), (d, .inr (3, [.ref ri, .int (nI (rNx q)), .int (nI (rAn q)), .int (rFt q), .int (rPl q)]))] := hD
          refine lv_iconst (v := 1) hx hb d_Tape_start_62 (by decide) ?_
          exact kr_i (v := 1) (px, py, pg, pt) hx hb hr (by decide) hK (hP.sub [0, 1, 2, 3, 4, 5, 6, 7, 8, 9] (rfl)) (hD.sub [0, 1, 2, 3, 4, 5, 6, 7, 8, 9] (by decide) (rfl)) hS ⟨(if_pos ⟨c_10, c_23, c_33, c_45⟩).symm, (if_pos ⟨c_10, c_23, c_33, c_45⟩).symm⟩ d_Tape_start_63 hlocks
        · refine lv_iconst (v := 0) hx hb d_Tape_start_48 (by decide) ?_
          exact kr_i (v := 0) (x, y, g, t) hx hb hr (by decide) hK (hP.sub [0, 1, 2, 3, 4, 5, 6, 7, 8, 9] (rfl)) (hD.sub [0, 1, 2, 3, 4, 5, 6, 7, 8, 9] (by decide) (rfl)) hS ⟨(if_neg (fun z => z.2.2.2 c_45)).symm, (if_neg (fun z => z.2.2.2 c_45)).symm⟩ d_Tape_start_49 hlocks
abbrev Qc_T_record (dC : Nat → ClassId) (dI : Nat → Nat → Nat) (cI cB cZ : ClassId) (h0 : Nat) (w : Nat) (a : Nat) (fw : Nat → Int32) (M : List Int32) (x : Int32) (y : Int32) (g : Int32) (t : Int32) (w2 : Nat) (a2 : Nat) (fv : Nat → Int32) (M2 : List Int32) (x2 : Int32) (y2 : Int32) (g2 : Int32) (t2 : Int32) (ro : Nat) (bo : Nat) (fo : Nat → Int32) (O : List Nat) (ri : Nat) (bi : Nat) (fi : Nat → Int32) (I : List Nat) (d : Nat) (q : RS) (pa : Int32) (ps : Int32) (pt : Int32) (pu : Int32) (pn : Int32) (A : Nat → Prop) := va_Qi (fun (r9 : Int32) (u9 : (Nat → Int32) × List Int32) => (r9 = if kRcOk M pa ps pt pn then nI u9.2.length else -1) ∧ (u9.2 = if kRcOk M pa ps pt pn then M ++ List.replicate pn.toNatClampNeg (kCode pu (pa + 64) (ps + 64) (pt + 16)) else M) ∧ (WRow u9.1 u9.2)) (ka (dC, dI) classes [(cI, .int), (cB, .byte), (cZ, .boolean)] (fun (u9 : (Nat → Int32) × List Int32) => [(h0, .inr (0, [.ref w, .ref w2, .ref ro, .ref ri, .ref d])), (w, .inr (1, [.ref a, .int (nI u9.2.length), .int x, .int y, .int g, .int t])), (a, .inl (cI, 1024, .inl u9.1)), (w2, .inr (1, [.ref a2, .int (nI M2.length), .int x2, .int y2, .int g2, .int t2])), (a2, .inl (cI, 1024, .inl fv)), (ro, .inr (2, [.ref bo, .int (nI O.length)])), (bo, .inl (cB, 4110, .inl fo)), (ri, .inr (2, [.ref bi, .int (nI I.length)])), (bi, .inl (cB, 8192, .inl fi)), (d, .inr (3, [.ref ri, .int (nI (rNx q)), .int (nI (rAn q)), .int (rFt q), .int (rPl q)]))]) A) A
set_option maxHeartbeats 1000000 in
set_option maxRecDepth 100000 in
/-- record -/
theorem c_T_record (l : Launch) (dC : Nat → ClassId) (dI : Nat → Nat → Nat) (cI cB cZ : ClassId) (sz : Nat) (h0 : Nat) (w : Nat) (a : Nat) (fw : Nat → Int32) (M : List Int32) (x : Int32) (y : Int32) (g : Int32) (t : Int32) (w2 : Nat) (a2 : Nat) (fv : Nat → Int32) (M2 : List Int32) (x2 : Int32) (y2 : Int32) (g2 : Int32) (t2 : Int32) (ro : Nat) (bo : Nat) (fo : Nat → Int32) (O : List Nat) (ri : Nat) (bi : Nat) (fi : Nat → Int32) (I : List Nat) (d : Nat) (q : RS) (pa : Int32) (ps : Int32) (pt : Int32) (pu : Int32) (pn : Int32) (hW : WRow fw M) (hV : WRow fv M2) (hO : BRow 4110 fo O) (hI : BRow 8192 fi I) : Met l y_Tape_record w_Tape_record ({ frames := 2, cells := 0, slots := 0, locals := 37 }) (va_Pc [.ref h0, .int pa, .int ps, .int pt, .int pu, .int pn] (kp (dC, dI) classes [(cI, .int), (cB, .byte), (cZ, .boolean)] [(h0, .inr (0, [.ref w, .ref w2, .ref ro, .ref ri, .ref d])), (w, .inr (1, [.ref a, .int (nI M.length), .int x, .int y, .int g, .int t])), (a, .inl (cI, 1024, .inl fw)), (w2, .inr (1, [.ref a2, .int (nI M2.length), .int x2, .int y2, .int g2, .int t2])), (a2, .inl (cI, 1024, .inl fv)), (ro, .inr (2, [.ref bo, .int (nI O.length)])), (bo, .inl (cB, 4110, .inl fo)), (ri, .inr (2, [.ref bi, .int (nI I.length)])), (bi, .inl (cB, 8192, .inl fi)), (d, .inr (3, [.ref ri, .int (nI (rNx q)), .int (nI (rAn q)), .int (rFt q), .int (rPl q)]))] sz)) (Qc_T_record dC dI cI cB cZ h0 w a fw M x y g t w2 a2 fv M2 x2 y2 g2 t2 ro bo fo O ri bi fi I d q pa ps pt pu pn (va_A [(h0, .inr (0, [.ref w, .ref w2, .ref ro, .ref ri, .ref d])), (w, .inr (1, [.ref a, .int (nI M.length), .int x, .int y, .int g, .int t])), (a, .inl (cI, 1024, .inl fw)), (w2, .inr (1, [.ref a2, .int (nI M2.length), .int x2, .int y2, .int g2, .int t2])), (a2, .inl (cI, 1024, .inl fv)), (ro, .inr (2, [.ref bo, .int (nI O.length)])), (bo, .inl (cB, 4110, .inl fo)), (ri, .inr (2, [.ref bi, .int (nI I.length)])), (bi, .inl (cB, 8192, .inl fi)), (d, .inr (3, [.ref ri, .int (nI (rNx q)), .int (nI (rAn q)), .int (rFt q), .int (rPl q)]))] sz)) 0 0 (va_A [(h0, .inr (0, [.ref w, .ref w2, .ref ro, .ref ri, .ref d])), (w, .inr (1, [.ref a, .int (nI M.length), .int x, .int y, .int g, .int t])), (a, .inl (cI, 1024, .inl fw)), (w2, .inr (1, [.ref a2, .int (nI M2.length), .int x2, .int y2, .int g2, .int t2])), (a2, .inl (cI, 1024, .inl fv)), (ro, .inr (2, [.ref bo, .int (nI O.length)])), (bo, .inl (cB, 4110, .inl fo)), (ri, .inr (2, [.ref bi, .int (nI I.length)])), (bi, .inl (cB, 8192, .inl fi)), (d, .inr (3, [.ref ri, .int (nI (rNx q)), .int (nI (rAn q)), .int (rFt q), .int (rPl q)]))] sz) := by
  refine Met.ofW (cc := prog_1_method_3_code) (maxL := 6) (ret := (some .int)) (by decide) rfl ?_
  intro p e s m args below meth c s₁ B hml hv
  obtain ⟨rfl, hsz, hP, hK, hD0⟩ := hv
  have hx := B.exec
  have hb := B.bytes
  have hr := B.returns
  have hts := fun w h => atoms_spec (ws := w_Tape_record) B.pre w (List.mem_cons_of_mem _ h)
  have hown : s.vm.findClass "DemoTape" = some m.cls := findClass_of_methodNamed B.named
  have hlocks := B.notSynchronized
  subst hsz
  have hD := hD0.self (sz := s.heap.size)
  generalize hAe : va_A ([(h0, .inr (0, [.ref w, .ref w2, .ref ro, .ref ri, .ref d])), (w, .inr (1, [.ref a, .int (nI M.length), .int x, .int y, .int g, .int t])), (a, .inl (cI, 1024, .inl fw)), (w2, .inr (1, [.ref a2, .int (nI M2.length), .int x2, .int y2, .int g2, .int t2])), (a2, .inl (cI, 1024, .inl fv)), (ro, .inr (2, [.ref bo, .int (nI O.length)])), (bo, .inl (cB, 4110, .inl fo)), (ri, .inr (2, [.ref bi, .int (nI I.length)])), (bi, .inl (cB, 8192, .inl fi)), (d, .inr (3, [.ref ri, .int (nI (rNx q)), .int (nI (rAn q)), .int (rFt q), .int (rPl q)]))] : va_W) s.heap.size = A at hD ⊢
  have hA : ∀ q : Nat, s.heap.size ≤ q → A q := fun q h => by rw [← hAe]; exact Or.inr h
  have hS : va_S A s.heap s.heap [] := va_S.rf
  have hP : va_P (dC, dI) classes [(h0, .inr (0, [.ref w, .ref w2, .ref ro, .ref ri, .ref d])), (w, .inr (1, [.ref a, .int (nI M.length), .int x, .int y, .int g, .int t])), (a, .inl (cI, 1024, .inl fw)), (w2, .inr (1, [.ref a2, .int (nI M2.length), .int x2, .int y2, .int g2, .int t2])), (a2, .inl (cI, 1024, .inl fv)), (ro, .inr (2, [.ref bo, .int (nI O.length)])), (bo, .inl (cB, 4110, .inl fo)), (ri, .inr (2, [.ref bi, .int (nI I.length)])), (bi, .inl (cB, 8192, .inl fi)), (d, .inr (3, [.ref ri, .int (nI (rNx q)), .int (nI (rAn q)), .int (rFt q), .int (rPl q)]))] s.heap := hP
  have hM := hW.2
  have hIl := hI.2.2.1
  have hOl := hO.2.2.1
  have hl := lv_entry ([.ref h0, .int pa, .int ps, .int pt, .int pu, .int pn]) (n := 6) (Nat.le_of_ble_eq_true rfl)
  rw [lg_entry_eq]
  generalize (lg_sl ([.ref h0, .int pa, .int ps, .int pt, .int pu, .int pn]) ++ List.replicate (6 - (lg_sl ([.ref h0, .int pa, .int ps, .int pt, .int pu, .int pn])).length) Slot.unset).toArray = ls at hl ⊢
  have hl : lv_has ls 6 [(0, .ref h0), (1, .int pa), (2, .int ps), (3, .int pt), (4, .int pu), (5, .int pn)] := hl
  refine lv_iload_n hx hb d_Tape_record_0 rfl (lv_at hl 1 rfl) ?_
  refine lv_bipush (v := -64) hx hb d_Tape_record_1 (by decide) ?_
  refine lv_bipush (v := 64) hx hb d_Tape_record_3 (by decide) ?_
  refine kq_i (wr := [(h0, .inr (0, [.ref w, .ref w2, .ref ro, .ref ri, .ref d])), (w, .inr (1, [.ref a, .int (nI M.length), .int x, .int y, .int g, .int t])), (a, .inl (cI, 1024, .inl fw)), (w2, .inr (1, [.ref a2, .int (nI M2.length), .int x2, .int y2, .int g2, .int t2])), (a2, .inl (cI, 1024, .inl fv)), (ro, .inr (2, [.ref bo, .int (nI O.length)])), (bo, .inl (cB, 4110, .inl fo)), (ri, .inr (2, [.ref bi, .int (nI I.length)])), (bi, .inl (cB, 8192, .inl fi)), (d, .inr (3, [.ref ri, .int (nI (rNx q)), .int (nI (rAn q)), .int (rFt q), .int (rPl q)]))]) (va_runS (As := [.int pa, .int (-64), .int 64]) (rest := []) ⟨hx, hb, hml, hown, hts⟩ (c_D_isWithin l dC dI cI cB cZ _ pa (-64) 64 ) (va_cwS 3 hts (gS mw126 mw127 mw25 mw128) rfl rfl rfl (by decide +kernel) ⟨Nat.le_of_ble_eq_true rfl, Nat.le_of_ble_eq_true rfl⟩) (kpS (wc := []) hK hP hD [] rfl (by decide) rfl) rfl rfl hl.1 rfl (lv_room (Nat.le_of_ble_eq_true rfl)) d_Tape_record_5 ⟨Nat.le_of_ble_eq_true rfl, Nat.le_of_ble_eq_true rfl⟩) hP hD hS hA [] [0, 1, 2, 3, 4, 5, 6, 7, 8, 9] [0, 1, 2, 3, 4, 5, 6, 7, 8, 9] rfl rfl (by decide) (by decide) rfl (fun r_5 H locs hw hP hS => ?_)
  have e_5 := hw
  refine kt_i e_5 ?_
  refine lv_if_eq (tgt := 49) hx hb d_Tape_record_8 (by decide) (fun c_8 => ?_) (fun c_8 => ?_)
  · refine lv_iconst (v := -1) hx hb d_Tape_record_49 (by decide) ?_
    exact kr_i (v := -1) (fw, M) hx hb hr rfl hK (hP.sub [0, 1, 2, 3, 4, 5, 6, 7, 8, 9] (rfl)) (hD.sub [0, 1, 2, 3, 4, 5, 6, 7, 8, 9] (by decide) (rfl)) hS ⟨(if_neg (fun z => z.1 c_8)).symm, (if_neg (fun z => z.1 c_8)).symm, hW⟩ d_Tape_record_50 hlocks
  · refine lv_iload_n hx hb d_Tape_record_11 rfl (lv_at hl 2 rfl) ?_
    refine lv_bipush (v := -64) hx hb d_Tape_record_12 (by decide) ?_
    refine lv_bipush (v := 64) hx hb d_Tape_record_14 (by decide) ?_
    refine kq_i (wr := [(h0, .inr (0, [.ref w, .ref w2, .ref ro, .ref ri, .ref d])), (w, .inr (1, [.ref a, .int (nI M.length), .int x, .int y, .int g, .int t])), (a, .inl (cI, 1024, .inl fw)), (w2, .inr (1, [.ref a2, .int (nI M2.length), .int x2, .int y2, .int g2, .int t2])), (a2, .inl (cI, 1024, .inl fv)), (ro, .inr (2, [.ref bo, .int (nI O.length)])), (bo, .inl (cB, 4110, .inl fo)), (ri, .inr (2, [.ref bi, .int (nI I.length)])), (bi, .inl (cB, 8192, .inl fi)), (d, .inr (3, [.ref ri, .int (nI (rNx q)), .int (nI (rAn q)), .int (rFt q), .int (rPl q)]))]) (va_runS (As := [.int ps, .int (-64), .int 64]) (rest := []) ⟨hx, hb, hml, hown, hts⟩ (c_D_isWithin l dC dI cI cB cZ _ ps (-64) 64 ) (va_cwS 3 hts (gS mw126 mw127 mw25 mw128) rfl rfl rfl (by decide +kernel) ⟨Nat.le_of_ble_eq_true rfl, Nat.le_of_ble_eq_true rfl⟩) (kpS (wc := []) hK hP hD [] rfl (by decide) rfl) rfl rfl hl.1 rfl (lv_room (Nat.le_of_ble_eq_true rfl)) d_Tape_record_16 ⟨Nat.le_of_ble_eq_true rfl, Nat.le_of_ble_eq_true rfl⟩) hP hD hS hA [] [0, 1, 2, 3, 4, 5, 6, 7, 8, 9] [0, 1, 2, 3, 4, 5, 6, 7, 8, 9] rfl rfl (by decide) (by decide) rfl (fun r_16 H locs hw hP hS => ?_)
    have e_16 := hw
    refine kt_i e_16 ?_
    refine lv_if_eq (tgt := 49) hx hb d_Tape_record_19 (by decide) (fun c_19 => ?_) (fun c_19 => ?_)
    · refine lv_iconst (v := -1) hx hb d_Tape_record_49 (by decide) ?_
      exact kr_i (v := -1) (fw, M) hx hb hr rfl hK (hP.sub [0, 1, 2, 3, 4, 5, 6, 7, 8, 9] (rfl)) (hD.sub [0, 1, 2, 3, 4, 5, 6, 7, 8, 9] (by decide) (rfl)) hS ⟨(if_neg (fun z => z.2.1 c_19)).symm, (if_neg (fun z => z.2.1 c_19)).symm, hW⟩ d_Tape_record_50 hlocks
    · refine lv_iload_n hx hb d_Tape_record_22 rfl (lv_at hl 3 rfl) ?_
      refine lv_bipush (v := -16) hx hb d_Tape_record_23 (by decide) ?_
      refine lv_bipush (v := 16) hx hb d_Tape_record_25 (by decide) ?_
      refine kq_i (wr := [(h0, .inr (0, [.ref w, .ref w2, .ref ro, .ref ri, .ref d])), (w, .inr (1, [.ref a, .int (nI M.length), .int x, .int y, .int g, .int t])), (a, .inl (cI, 1024, .inl fw)), (w2, .inr (1, [.ref a2, .int (nI M2.length), .int x2, .int y2, .int g2, .int t2])), (a2, .inl (cI, 1024, .inl fv)), (ro, .inr (2, [.ref bo, .int (nI O.length)])), (bo, .inl (cB, 4110, .inl fo)), (ri, .inr (2, [.ref bi, .int (nI I.length)])), (bi, .inl (cB, 8192, .inl fi)), (d, .inr (3, [.ref ri, .int (nI (rNx q)), .int (nI (rAn q)), .int (rFt q), .int (rPl q)]))]) (va_runS (As := [.int pt, .int (-16), .int 16]) (rest := []) ⟨hx, hb, hml, hown, hts⟩ (c_D_isWithin l dC dI cI cB cZ _ pt (-16) 16 ) (va_cwS 3 hts (gS mw126 mw127 mw25 mw128) rfl rfl rfl (by decide +kernel) ⟨Nat.le_of_ble_eq_true rfl, Nat.le_of_ble_eq_true rfl⟩) (kpS (wc := []) hK hP hD [] rfl (by decide) rfl) rfl rfl hl.1 rfl (lv_room (Nat.le_of_ble_eq_true rfl)) d_Tape_record_27 ⟨Nat.le_of_ble_eq_true rfl, Nat.le_of_ble_eq_true rfl⟩) hP hD hS hA [] [0, 1, 2, 3, 4, 5, 6, 7, 8, 9] [0, 1, 2, 3, 4, 5, 6, 7, 8, 9] rfl rfl (by decide) (by decide) rfl (fun r_27 H locs hw hP hS => ?_)
      have e_27 := hw
      refine kt_i e_27 ?_
      refine lv_if_eq (tgt := 49) hx hb d_Tape_record_30 (by decide) (fun c_30 => ?_) (fun c_30 => ?_)
      · refine lv_iconst (v := -1) hx hb d_Tape_record_49 (by decide) ?_
        exact kr_i (v := -1) (fw, M) hx hb hr rfl hK (hP.sub [0, 1, 2, 3, 4, 5, 6, 7, 8, 9] (rfl)) (hD.sub [0, 1, 2, 3, 4, 5, 6, 7, 8, 9] (by decide) (rfl)) hS ⟨(if_neg (fun z => z.2.2.1 c_30)).symm, (if_neg (fun z => z.2.2.1 c_30)).symm, hW⟩ d_Tape_record_50 hlocks
      · refine lv_iload hx hb d_Tape_record_33 (lv_at hl 5 rfl) ?_
        refine lv_iconst (v := 1) hx hb d_Tape_record_35 (by decide) ?_
        refine lv_aload_n hx hb d_Tape_record_36 rfl (lv_at hl 0 rfl) ?_
        refine va_get (D := (dC, dI)) (ci := 0) (v := .ref w) (C := "DemoTape") (T := F_Tape) (N := 5) hx hb hts i_Tape hown hK hP 0 rfl rfl 0 (by decide) (hts _ mw106) (fun _ h9 => h9) rfl d_Tape_record_37 ?_
        refine kq_i (wr := [(h0, .inr (0, [.ref w, .ref w2, .ref ro, .ref ri, .ref d])), (w2, .inr (1, [.ref a2, .int (nI M2.length), .int x2, .int y2, .int g2, .int t2])), (a2, .inl (cI, 1024, .inl fv)), (ro, .inr (2, [.ref bo, .int (nI O.length)])), (bo, .inl (cB, 4110, .inl fo)), (ri, .inr (2, [.ref bi, .int (nI I.length)])), (bi, .inl (cB, 8192, .inl fi)), (d, .inr (3, [.ref ri, .int (nI (rNx q)), .int (nI (rAn q)), .int (rFt q), .int (rPl q)]))]) (va_runV (As := []) (rest := [.int 1, .int pn]) ⟨hx, hb, hml, hown, hts⟩ (c_Walk_room l dC dI cI cB cZ _ w a fw M x y g t (by first | with_reducible assumption | omega | decide)) (cwV 0 hts (gV mw137 mw138 mw139 mw26 mw140) rfl rfl rfl (by decide +kernel) ⟨Nat.le_of_ble_eq_true rfl, Nat.le_of_ble_eq_true rfl⟩) (kpV (wc := [(w, .inr (1, [.ref a, .int (nI M.length), .int x, .int y, .int g, .int t])), (a, .inl (cI, 1024, .inl fw))]) (q0 := 1) (ci := 1) hK hP hD [1, 2] rfl (by decide) rfl rfl rfl) rfl rfl hl.1 rfl (lv_room (Nat.le_of_ble_eq_true rfl)) d_Tape_record_40 ⟨Nat.le_of_ble_eq_true rfl, Nat.le_of_ble_eq_true rfl⟩) hP hD hS hA [1, 2] [0, 3, 4, 5, 6, 7, 8, 9] [0, 8, 9, 1, 2, 3, 4, 5, 6, 7] rfl rfl (by decide) (by decide) rfl (fun r_40 H locs hw hP hS => ?_)
        have e_40 := hw
        refine kt_i e_40 ?_
        refine kq_i (wr := [(h0, .inr (0, [.ref w, .ref w2, .ref ro, .ref ri, .ref d])), (w, .inr (1, [.ref a, .int (nI M.length), .int x, .int y, .int g, .int t])), (a, .inl (cI, 1024, .inl fw)), (w2, .inr (1, [.ref a2, .int (nI M2.length), .int x2, .int y2, .int g2, .int t2])), (a2, .inl (cI, 1024, .inl fv)), (ro, .inr (2, [.ref bo, .int (nI O.length)])), (bo, .inl (cB, 4110, .inl fo)), (ri, .inr (2, [.ref bi, .int (nI I.length)])), (bi, .inl (cB, 8192, .inl fi)), (d, .inr (3, [.ref ri, .int (nI (rNx q)), .int (nI (rAn q)), .int (rFt q), .int (rPl q)]))]) (va_runS (As := [.int pn, .int 1, .int (nI (1024 - M.length))]) (rest := []) ⟨hx, hb, hml, hown, hts⟩ (c_D_isWithin l dC dI cI cB cZ _ pn 1 (nI (1024 - M.length)) ) (va_cwS 3 hts (gS mw126 mw127 mw25 mw128) rfl rfl rfl (by decide +kernel) ⟨Nat.le_of_ble_eq_true rfl, Nat.le_of_ble_eq_true rfl⟩) (kpS (wc := []) hK hP hD [] rfl (by decide) rfl) rfl rfl hl.1 rfl (lv_room (Nat.le_of_ble_eq_true rfl)) d_Tape_record_43 ⟨Nat.le_of_ble_eq_true rfl, Nat.le_of_ble_eq_true rfl⟩) hP hD hS hA [] [0, 1, 2, 3, 4, 5, 6, 7, 8, 9] [0, 1, 2, 3, 4, 5, 6, 7, 8, 9] rfl rfl (by decide) (by decide) rfl (fun r_43 H locs hw hP hS => ?_)
        have e_43 := hw
        refine kt_i e_43 ?_
        refine lv_if_ne (tgt := 51) hx hb d_Tape_record_46 (by decide) (fun c_46 => ?_) (fun c_46 => ?_)
        · obtain ⟨k, hk, rfl⟩ := kIn_nI c_46 (by omega)
          refine lv_aload_n hx hb d_Tape_record_51 rfl (lv_at hl 0 rfl) ?_
          refine va_get (D := (dC, dI)) (ci := 0) (v := .ref w) (C := "DemoTape") (T := F_Tape) (N := 5) hx hb hts i_Tape hown hK hP 0 rfl rfl 0 (by decide) (hts _ mw106) (fun _ h9 => h9) rfl d_Tape_record_52 ?_
          refine lv_iload hx hb d_Tape_record_55 (lv_at hl 4 rfl) ?_
          refine lv_iload_n hx hb d_Tape_record_57 rfl (lv_at hl 1 rfl) ?_
          refine lv_bipush (v := 64) hx hb d_Tape_record_58 (by decide) ?_
          refine lv_iadd hx hb d_Tape_record_60 ?_
          refine lv_iload_n hx hb d_Tape_record_61 rfl (lv_at hl 2 rfl) ?_
          refine lv_bipush (v := 64) hx hb d_Tape_record_62 (by decide) ?_
          refine lv_iadd hx hb d_Tape_record_64 ?_
          refine lv_iload_n hx hb d_Tape_record_65 rfl (lv_at hl 3 rfl) ?_
          refine lv_bipush (v := 16) hx hb d_Tape_record_66 (by decide) ?_
          refine lv_iadd hx hb d_Tape_record_68 ?_
          refine kq_i (wr := [(h0, .inr (0, [.ref w, .ref w2, .ref ro, .ref ri, .ref d])), (w, .inr (1, [.ref a, .int (nI M.length), .int x, .int y, .int g, .int t])), (a, .inl (cI, 1024, .inl fw)), (w2, .inr (1, [.ref a2, .int (nI M2.length), .int x2, .int y2, .int g2, .int t2])), (a2, .inl (cI, 1024, .inl fv)), (ro, .inr (2, [.ref bo, .int (nI O.length)])), (bo, .inl (cB, 4110, .inl fo)), (ri, .inr (2, [.ref bi, .int (nI I.length)])), (bi, .inl (cB, 8192, .inl fi)), (d, .inr (3, [.ref ri, .int (nI (rNx q)), .int (nI (rAn q)), .int (rFt q), .int (rPl q)]))]) (va_runS (As := [.int pu, .int (pa + 64), .int (ps + 64), .int (pt + 16)]) (rest := [.ref w]) ⟨hx, hb, hml, hown, hts⟩ (c_Code_of l dC dI cI cB cZ _ pu (pa + 64) (ps + 64) (pt + 16) ) (va_cwS 4 hts (gS mw141 mw142 mw31 mw143) rfl rfl rfl (by decide +kernel) ⟨Nat.le_of_ble_eq_true rfl, Nat.le_of_ble_eq_true rfl⟩) (kpS (wc := []) hK hP hD [] rfl (by decide) rfl) rfl rfl hl.1 rfl (lv_room (Nat.le_of_ble_eq_true rfl)) d_Tape_record_69 ⟨Nat.le_of_ble_eq_true rfl, Nat.le_of_ble_eq_true rfl⟩) hP hD hS hA [] [0, 1, 2, 3, 4, 5, 6, 7, 8, 9] [0, 1, 2, 3, 4, 5, 6, 7, 8, 9] rfl rfl (by decide) (by decide) rfl (fun r_69 H locs hw hP hS => ?_)
          have e_69 := hw
          refine kt_i e_69 ?_
          refine lv_iload hx hb d_Tape_record_72 (lv_at hl 5 rfl) ?_
          refine kc_v (wr := [(h0, .inr (0, [.ref w, .ref w2, .ref ro, .ref ri, .ref d])), (w2, .inr (1, [.ref a2, .int (nI M2.length), .int x2, .int y2, .int g2, .int t2])), (a2, .inl (cI, 1024, .inl fv)), (ro, .inr (2, [.ref bo, .int (nI O.length)])), (bo, .inl (cB, 4110, .inl fo)), (ri, .inr (2, [.ref bi, .int (nI I.length)])), (bi, .inl (cB, 8192, .inl fi)), (d, .inr (3, [.ref ri, .int (nI (rNx q)), .int (nI (rAn q)), .int (rFt q), .int (rPl q)]))]) (w2 := fun (u9 : (Nat → Int32)) => [(h0, .inr (0, [.ref w, .ref w2, .ref ro, .ref ri, .ref d])), (w, .inr (1, [.ref a, .int (nI (M ++ List.replicate k (kCode pu (pa + 64) (ps + 64) (pt + 16))).length), .int x, .int y, .int g, .int t])), (a, .inl (cI, 1024, .inl u9)), (w2, .inr (1, [.ref a2, .int (nI M2.length), .int x2, .int y2, .int g2, .int t2])), (a2, .inl (cI, 1024, .inl fv)), (ro, .inr (2, [.ref bo, .int (nI O.length)])), (bo, .inl (cB, 4110, .inl fo)), (ri, .inr (2, [.ref bi, .int (nI I.length)])), (bi, .inl (cB, 8192, .inl fi)), (d, .inr (3, [.ref ri, .int (nI (rNx q)), .int (nI (rAn q)), .int (rFt q), .int (rPl q)]))]) (va_runV (As := [.int (kCode pu (pa + 64) (ps + 64) (pt + 16)), .int (nI k)]) (rest := []) ⟨hx, hb, hml, hown, hts⟩ (c_Walk_append l dC dI cI cB cZ _ w a fw M x y g t (kCode pu (pa + 64) (ps + 64) (pt + 16)) k (by first | with_reducible assumption | omega | decide) (by omega)) (cwV 2 hts (gV mw145 mw146 mw147 mw26 mw148) rfl rfl rfl (by decide +kernel) ⟨Nat.le_of_ble_eq_true rfl, Nat.le_of_ble_eq_true rfl⟩) (kpV (wc := [(w, .inr (1, [.ref a, .int (nI M.length), .int x, .int y, .int g, .int t])), (a, .inl (cI, 1024, .inl fw))]) (q0 := 1) (ci := 1) hK hP hD [1, 2] rfl (by decide) rfl rfl rfl) rfl rfl hl.1 rfl (lv_room (Nat.le_of_ble_eq_true rfl)) d_Tape_record_74 ⟨Nat.le_of_ble_eq_true rfl, Nat.le_of_ble_eq_true rfl⟩) hP hD hS hA [1, 2] [0, 3, 4, 5, 6, 7, 8, 9] [0, 8, 9, 1, 2, 3, 4, 5, 6, 7] rfl rfl (by decide) (by decide) (fun _ => rfl) (by decide) (fun _ => rfl) (fun u9 H locs hw hP hD hS => ?_)
          obtain ⟨f1_74, rfl⟩ : ∃ z, z = u9 := ⟨_, rfl⟩
          try dsimp only at hw
          have hP : va_P (dC, dI) classes [(h0, .inr (0, [.ref w, .ref w2, .ref ro, .ref ri, .ref d])), (w, .inr (1, [.ref a, .int (nI (M ++ List.replicate k (kCode pu (pa + 64) (ps + 64) (pt + 16))).length), .int x, .int y, .int g, .int t])), (a, .inl (cI, 1024, .inl f1_74)), (w2, .inr (1, [.ref a2, .int (nI M2.length), .int x2, .int y2, .int g2, .int t2])), (a2, .inl (cI, 1024, .inl fv)), (ro, .inr (2, [.ref bo, .int (nI O.length)])), (bo, .inl (cB, 4110, .inl fo)), (ri, .inr (2, [.ref bi, .int (nI I.length)])), (bi, .inl (cB, 8192, .inl fi)), (d, .inr (3, [.ref ri, .int (nI (rNx q)), .int (nI (rAn q)), .int (rFt q), .int (rPl q)]))] H := hP
          have hD : va_D A [(h0, .inr (0, [.ref w, .ref w2, .ref ro, .ref ri, .ref d])), (w, .inr (1, [.ref a, .int (nI (M ++ List.replicate k (kCode pu (pa + 64) (ps + 64) (pt + 16))).length), .int x, .int y, .int g, .int t])), (a, .inl (cI, 1024, .inl f1_74)), (w2, .inr (1, [.ref a2, .int (nI M2.length), .int x2, .int y2, .int g2, .int t2])), (a2, .inl (cI, 1024, .inl fv)), (ro, .inr (2, [.ref bo, .int (nI O.length)])), (bo, .inl (cB, 4110, .inl fo)), (ri, .inr (2, [.ref bi, .int (nI I.length)])), (bi, .inl (cB, 8192, .inl fi)), (d, .inr (3, [.ref ri, .int (nI (rNx q)), .int (nI (rAn q)), .int (rFt q), .int (rPl q)]))] := hD
          have hW_74 := hw
          refine lv_aload_n hx hb d_Tape_record_77 rfl (lv_at hl 0 rfl) ?_
          refine va_get (D := (dC, dI)) (ci := 0) (v := .ref w) (C := "DemoTape") (T := F_Tape) (N := 5) hx hb hts i_Tape hown hK hP 0 rfl rfl 0 (by decide) (hts _ mw106) (fun _ h9 => h9) rfl d_Tape_record_78 ?_
          refine kq_i (wr := [(h0, .inr (0, [.ref w, .ref w2, .ref ro, .ref ri, .ref d])), (w2, .inr (1, [.ref a2, .int (nI M2.length), .int x2, .int y2, .int g2, .int t2])), (a2, .inl (cI, 1024, .inl fv)), (ro, .inr (2, [.ref bo, .int (nI O.length)])), (bo, .inl (cB, 4110, .inl fo)), (ri, .inr (2, [.ref bi, .int (nI I.length)])), (bi, .inl (cB, 8192, .inl fi)), (d, .inr (3, [.ref ri, .int (nI (rNx q)), .int (nI (rAn q)), .int (rFt q), .int (rPl q)]))]) (va_runV (As := []) (rest := []) ⟨hx, hb, hml, hown, hts⟩ (c_Walk_count l dC dI cI cB cZ _ w a f1_74 (M ++ List.replicate k (kCode pu (pa + 64) (ps + 64) (pt + 16))) x y g t ) (cwV 0 hts (gV mw152 mw153 mw154 mw26 mw155) rfl rfl rfl (by decide +kernel) ⟨Nat.le_of_ble_eq_true rfl, Nat.le_of_ble_eq_true rfl⟩) (kpV (wc := [(w, .inr (1, [.ref a, .int (nI (M ++ List.replicate k (kCode pu (pa + 64) (ps + 64) (pt + 16))).length), .int x, .int y, .int g, .int t])), (a, .inl (cI, 1024, .inl f1_74))]) (q0 := 1) (ci := 1) hK hP hD [1, 2] rfl (by decide) rfl rfl rfl) rfl rfl hl.1 rfl (lv_room (Nat.le_of_ble_eq_true rfl)) d_Tape_record_81 ⟨Nat.le_of_ble_eq_true rfl, Nat.le_of_ble_eq_true rfl⟩) hP hD hS hA [1, 2] [0, 3, 4, 5, 6, 7, 8, 9] [0, 8, 9, 1, 2, 3, 4, 5, 6, 7] rfl rfl (by decide) (by decide) rfl (fun r_81 H locs hw hP hS => ?_)
          have e_81 := hw
          refine kt_i e_81 ?_
          exact kr_i (v := nI (M ++ List.replicate k (kCode pu (pa + 64) (ps + 64) (pt + 16))).length) (f1_74, M ++ List.replicate k (kCode pu (pa + 64) (ps + 64) (pt + 16))) hx hb hr rfl hK (hP.sub [0, 1, 2, 3, 4, 5, 6, 7, 8, 9] (rfl)) (hD.sub [0, 1, 2, 3, 4, 5, 6, 7, 8, 9] (by decide) (rfl)) hS ⟨(if_pos ⟨c_8, c_19, c_30, c_46⟩).symm, by rw [if_pos ⟨c_8, c_19, c_30, c_46⟩, nI_clamp (by omega)], hW_74⟩ d_Tape_record_84 hlocks
        · refine lv_iconst (v := -1) hx hb d_Tape_record_49 (by decide) ?_
          exact kr_i (v := -1) (fw, M) hx hb hr rfl hK (hP.sub [0, 1, 2, 3, 4, 5, 6, 7, 8, 9] (rfl)) (hD.sub [0, 1, 2, 3, 4, 5, 6, 7, 8, 9] (by decide) (rfl)) hS ⟨(if_neg (fun z => z.2.2.2 c_46)).symm, (if_neg (fun z => z.2.2.2 c_46)).symm, hW⟩ d_Tape_record_50 hlocks
abbrev Qc_T_undo (dC : Nat → ClassId) (dI : Nat → Nat → Nat) (cI cB cZ : ClassId) (h0 : Nat) (w : Nat) (a : Nat) (fw : Nat → Int32) (M : List Int32) (x : Int32) (y : Int32) (g : Int32) (t : Int32) (w2 : Nat) (a2 : Nat) (fv : Nat → Int32) (M2 : List Int32) (x2 : Int32) (y2 : Int32) (g2 : Int32) (t2 : Int32) (ro : Nat) (bo : Nat) (fo : Nat → Int32) (O : List Nat) (ri : Nat) (bi : Nat) (fi : Nat → Int32) (I : List Nat) (d : Nat) (q : RS) (pn : Int32) (A : Nat → Prop) := va_Qi (fun (r9 : Int32) (u9 : List Int32) => (r9 = if kIn pn 0 (nI M.length) = 0 then 0 else 1) ∧ (u9 = if kIn pn 0 (nI M.length) = 0 then M else M.take (M.length - pn.toNatClampNeg)) ∧ (WRow fw u9)) (ka (dC, dI) classes [(cI, .int), (cB, .byte), (cZ, .boolean)] (fun (u9 : List Int32) => [(h0, .inr (0, [.ref w, .ref w2, .ref ro, .ref ri, .ref d])), (w, .inr (1, [.ref a, .int (nI u9.length), .int x, .int y, .int g, .int t])), (a, .inl (cI, 1024, .inl fw)), (w2, .inr (1, [.ref a2, .int (nI M2.length), .int x2, .int y2, .int g2, .int t2])), (a2, .inl (cI, 1024, .inl fv)), (ro, .inr (2, [.ref bo, .int (nI O.length)])), (bo, .inl (cB, 4110, .inl fo)), (ri, .inr (2, [.ref bi, .int (nI I.length)])), (bi, .inl (cB, 8192, .inl fi)), (d, .inr (3, [.ref ri, .int (nI (rNx q)), .int (nI (rAn q)), .int (rFt q), .int (rPl q)]))]) A) A
set_option maxHeartbeats 1000000 in
set_option maxRecDepth 100000 in
/-- undo -/
theorem c_T_undo (l : Launch) (dC : Nat → ClassId) (dI : Nat → Nat → Nat) (cI cB cZ : ClassId) (sz : Nat) (h0 : Nat) (w : Nat) (a : Nat) (fw : Nat → Int32) (M : List Int32) (x : Int32) (y : Int32) (g : Int32) (t : Int32) (w2 : Nat) (a2 : Nat) (fv : Nat → Int32) (M2 : List Int32) (x2 : Int32) (y2 : Int32) (g2 : Int32) (t2 : Int32) (ro : Nat) (bo : Nat) (fo : Nat → Int32) (O : List Nat) (ri : Nat) (bi : Nat) (fi : Nat → Int32) (I : List Nat) (d : Nat) (q : RS) (pn : Int32) (hW : WRow fw M) (hV : WRow fv M2) (hO : BRow 4110 fo O) (hI : BRow 8192 fi I) : Met l y_Tape_undo w_Tape_undo ({ frames := 2, cells := 0, slots := 0, locals := 35 }) (va_Pc [.ref h0, .int pn] (kp (dC, dI) classes [(cI, .int), (cB, .byte), (cZ, .boolean)] [(h0, .inr (0, [.ref w, .ref w2, .ref ro, .ref ri, .ref d])), (w, .inr (1, [.ref a, .int (nI M.length), .int x, .int y, .int g, .int t])), (a, .inl (cI, 1024, .inl fw)), (w2, .inr (1, [.ref a2, .int (nI M2.length), .int x2, .int y2, .int g2, .int t2])), (a2, .inl (cI, 1024, .inl fv)), (ro, .inr (2, [.ref bo, .int (nI O.length)])), (bo, .inl (cB, 4110, .inl fo)), (ri, .inr (2, [.ref bi, .int (nI I.length)])), (bi, .inl (cB, 8192, .inl fi)), (d, .inr (3, [.ref ri, .int (nI (rNx q)), .int (nI (rAn q)), .int (rFt q), .int (rPl q)]))] sz)) (Qc_T_undo dC dI cI cB cZ h0 w a fw M x y g t w2 a2 fv M2 x2 y2 g2 t2 ro bo fo O ri bi fi I d q pn (va_A [(h0, .inr (0, [.ref w, .ref w2, .ref ro, .ref ri, .ref d])), (w, .inr (1, [.ref a, .int (nI M.length), .int x, .int y, .int g, .int t])), (a, .inl (cI, 1024, .inl fw)), (w2, .inr (1, [.ref a2, .int (nI M2.length), .int x2, .int y2, .int g2, .int t2])), (a2, .inl (cI, 1024, .inl fv)), (ro, .inr (2, [.ref bo, .int (nI O.length)])), (bo, .inl (cB, 4110, .inl fo)), (ri, .inr (2, [.ref bi, .int (nI I.length)])), (bi, .inl (cB, 8192, .inl fi)), (d, .inr (3, [.ref ri, .int (nI (rNx q)), .int (nI (rAn q)), .int (rFt q), .int (rPl q)]))] sz)) 0 0 (va_A [(h0, .inr (0, [.ref w, .ref w2, .ref ro, .ref ri, .ref d])), (w, .inr (1, [.ref a, .int (nI M.length), .int x, .int y, .int g, .int t])), (a, .inl (cI, 1024, .inl fw)), (w2, .inr (1, [.ref a2, .int (nI M2.length), .int x2, .int y2, .int g2, .int t2])), (a2, .inl (cI, 1024, .inl fv)), (ro, .inr (2, [.ref bo, .int (nI O.length)])), (bo, .inl (cB, 4110, .inl fo)), (ri, .inr (2, [.ref bi, .int (nI I.length)])), (bi, .inl (cB, 8192, .inl fi)), (d, .inr (3, [.ref ri, .int (nI (rNx q)), .int (nI (rAn q)), .int (rFt q), .int (rPl q)]))] sz) := by
  refine Met.ofW (cc := prog_1_method_4_code) (maxL := 2) (ret := (some .boolean)) (by decide) rfl ?_
  intro p e s m args below meth c s₁ B hml hv
  obtain ⟨rfl, hsz, hP, hK, hD0⟩ := hv
  have hx := B.exec
  have hb := B.bytes
  have hr := B.returns
  have hts := fun w h => atoms_spec (ws := w_Tape_undo) B.pre w (List.mem_cons_of_mem _ h)
  have hown : s.vm.findClass "DemoTape" = some m.cls := findClass_of_methodNamed B.named
  have hlocks := B.notSynchronized
  subst hsz
  have hD := hD0.self (sz := s.heap.size)
  generalize hAe : va_A ([(h0, .inr (0, [.ref w, .ref w2, .ref ro, .ref ri, .ref d])), (w, .inr (1, [.ref a, .int (nI M.length), .int x, .int y, .int g, .int t])), (a, .inl (cI, 1024, .inl fw)), (w2, .inr (1, [.ref a2, .int (nI M2.length), .int x2, .int y2, .int g2, .int t2])), (a2, .inl (cI, 1024, .inl fv)), (ro, .inr (2, [.ref bo, .int (nI O.length)])), (bo, .inl (cB, 4110, .inl fo)), (ri, .inr (2, [.ref bi, .int (nI I.length)])), (bi, .inl (cB, 8192, .inl fi)), (d, .inr (3, [.ref ri, .int (nI (rNx q)), .int (nI (rAn q)), .int (rFt q), .int (rPl q)]))] : va_W) s.heap.size = A at hD ⊢
  have hA : ∀ q : Nat, s.heap.size ≤ q → A q := fun q h => by rw [← hAe]; exact Or.inr h
  have hS : va_S A s.heap s.heap [] := va_S.rf
  have hP : va_P (dC, dI) classes [(h0, .inr (0, [.ref w, .ref w2, .ref ro, .ref ri, .ref d])), (w, .inr (1, [.ref a, .int (nI M.length), .int x, .int y, .int g, .int t])), (a, .inl (cI, 1024, .inl fw)), (w2, .inr (1, [.ref a2, .int (nI M2.length), .int x2, .int y2, .int g2, .int t2])), (a2, .inl (cI, 1024, .inl fv)), (ro, .inr (2, [.ref bo, .int (nI O.length)])), (bo, .inl (cB, 4110, .inl fo)), (ri, .inr (2, [.ref bi, .int (nI I.length)])), (bi, .inl (cB, 8192, .inl fi)), (d, .inr (3, [.ref ri, .int (nI (rNx q)), .int (nI (rAn q)), .int (rFt q), .int (rPl q)]))] s.heap := hP
  have hM := hW.2
  have hIl := hI.2.2.1
  have hOl := hO.2.2.1
  have hl := lv_entry ([.ref h0, .int pn]) (n := 2) (Nat.le_of_ble_eq_true rfl)
  rw [lg_entry_eq]
  generalize (lg_sl ([.ref h0, .int pn]) ++ List.replicate (2 - (lg_sl ([.ref h0, .int pn])).length) Slot.unset).toArray = ls at hl ⊢
  have hl : lv_has ls 2 [(0, .ref h0), (1, .int pn)] := hl
  refine lv_iload_n hx hb d_Tape_undo_0 rfl (lv_at hl 1 rfl) ?_
  refine lv_iconst (v := 0) hx hb d_Tape_undo_1 (by decide) ?_
  refine lv_aload_n hx hb d_Tape_undo_2 rfl (lv_at hl 0 rfl) ?_
  refine va_get (D := (dC, dI)) (ci := 0) (v := .ref w) (C := "DemoTape") (T := F_Tape) (N := 5) hx hb hts i_Tape hown hK hP 0 rfl rfl 0 (by decide) (hts _ mw106) (fun _ h9 => h9) rfl d_Tape_undo_3 ?_
  refine kq_i (wr := [(h0, .inr (0, [.ref w, .ref w2, .ref ro, .ref ri, .ref d])), (w2, .inr (1, [.ref a2, .int (nI M2.length), .int x2, .int y2, .int g2, .int t2])), (a2, .inl (cI, 1024, .inl fv)), (ro, .inr (2, [.ref bo, .int (nI O.length)])), (bo, .inl (cB, 4110, .inl fo)), (ri, .inr (2, [.ref bi, .int (nI I.length)])), (bi, .inl (cB, 8192, .inl fi)), (d, .inr (3, [.ref ri, .int (nI (rNx q)), .int (nI (rAn q)), .int (rFt q), .int (rPl q)]))]) (va_runV (As := []) (rest := [.int 0, .int pn]) ⟨hx, hb, hml, hown, hts⟩ (c_Walk_count l dC dI cI cB cZ _ w a fw M x y g t ) (cwV 0 hts (gV mw152 mw153 mw154 mw26 mw155) rfl rfl rfl (by decide +kernel) ⟨Nat.le_of_ble_eq_true rfl, Nat.le_of_ble_eq_true rfl⟩) (kpV (wc := [(w, .inr (1, [.ref a, .int (nI M.length), .int x, .int y, .int g, .int t])), (a, .inl (cI, 1024, .inl fw))]) (q0 := 1) (ci := 1) hK hP hD [1, 2] rfl (by decide) rfl rfl rfl) rfl rfl hl.1 rfl (lv_room (Nat.le_of_ble_eq_true rfl)) d_Tape_undo_6 ⟨Nat.le_of_ble_eq_true rfl, Nat.le_of_ble_eq_true rfl⟩) hP hD hS hA [1, 2] [0, 3, 4, 5, 6, 7, 8, 9] [0, 8, 9, 1, 2, 3, 4, 5, 6, 7] rfl rfl (by decide) (by decide) rfl (fun r_6 H locs hw hP hS => ?_)
  have e_6 := hw
  refine kt_i e_6 ?_
  refine kq_i (wr := [(h0, .inr (0, [.ref w, .ref w2, .ref ro, .ref ri, .ref d])), (w, .inr (1, [.ref a, .int (nI M.length), .int x, .int y, .int g, .int t])), (a, .inl (cI, 1024, .inl fw)), (w2, .inr (1, [.ref a2, .int (nI M2.length), .int x2, .int y2, .int g2, .int t2])), (a2, .inl (cI, 1024, .inl fv)), (ro, .inr (2, [.ref bo, .int (nI O.length)])), (bo, .inl (cB, 4110, .inl fo)), (ri, .inr (2, [.ref bi, .int (nI I.length)])), (bi, .inl (cB, 8192, .inl fi)), (d, .inr (3, [.ref ri, .int (nI (rNx q)), .int (nI (rAn q)), .int (rFt q), .int (rPl q)]))]) (va_runS (As := [.int pn, .int 0, .int (nI M.length)]) (rest := []) ⟨hx, hb, hml, hown, hts⟩ (c_D_isWithin l dC dI cI cB cZ _ pn 0 (nI M.length) ) (va_cwS 3 hts (gS mw126 mw127 mw25 mw128) rfl rfl rfl (by decide +kernel) ⟨Nat.le_of_ble_eq_true rfl, Nat.le_of_ble_eq_true rfl⟩) (kpS (wc := []) hK hP hD [] rfl (by decide) rfl) rfl rfl hl.1 rfl (lv_room (Nat.le_of_ble_eq_true rfl)) d_Tape_undo_9 ⟨Nat.le_of_ble_eq_true rfl, Nat.le_of_ble_eq_true rfl⟩) hP hD hS hA [] [0, 1, 2, 3, 4, 5, 6, 7, 8, 9] [0, 1, 2, 3, 4, 5, 6, 7, 8, 9] rfl rfl (by decide) (by decide) rfl (fun r_9 H locs hw hP hS => ?_)
  have e_9 := hw
  refine kt_i e_9 ?_
  refine lv_if_ne (tgt := 17) hx hb d_Tape_undo_12 (by decide) (fun c_12 => ?_) (fun c_12 => ?_)
  · obtain ⟨k, hk, rfl⟩ := kIn_nI0 c_12 (by omega)
    refine lv_aload_n hx hb d_Tape_undo_17 rfl (lv_at hl 0 rfl) ?_
    refine va_get (D := (dC, dI)) (ci := 0) (v := .ref w) (C := "DemoTape") (T := F_Tape) (N := 5) hx hb hts i_Tape hown hK hP 0 rfl rfl 0 (by decide) (hts _ mw106) (fun _ h9 => h9) rfl d_Tape_undo_18 ?_
    refine lv_iload_n hx hb d_Tape_undo_21 rfl (lv_at hl 1 rfl) ?_
    refine kc_v (wr := [(h0, .inr (0, [.ref w, .ref w2, .ref ro, .ref ri, .ref d])), (w2, .inr (1, [.ref a2, .int (nI M2.length), .int x2, .int y2, .int g2, .int t2])), (a2, .inl (cI, 1024, .inl fv)), (ro, .inr (2, [.ref bo, .int (nI O.length)])), (bo, .inl (cB, 4110, .inl fo)), (ri, .inr (2, [.ref bi, .int (nI I.length)])), (bi, .inl (cB, 8192, .inl fi)), (d, .inr (3, [.ref ri, .int (nI (rNx q)), .int (nI (rAn q)), .int (rFt q), .int (rPl q)]))]) (w2 := fun (_ : Unit) => [(h0, .inr (0, [.ref w, .ref w2, .ref ro, .ref ri, .ref d])), (w, .inr (1, [.ref a, .int (nI (M.take (M.length - k)).length), .int x, .int y, .int g, .int t])), (a, .inl (cI, 1024, .inl fw)), (w2, .inr (1, [.ref a2, .int (nI M2.length), .int x2, .int y2, .int g2, .int t2])), (a2, .inl (cI, 1024, .inl fv)), (ro, .inr (2, [.ref bo, .int (nI O.length)])), (bo, .inl (cB, 4110, .inl fo)), (ri, .inr (2, [.ref bi, .int (nI I.length)])), (bi, .inl (cB, 8192, .inl fi)), (d, .inr (3, [.ref ri, .int (nI (rNx q)), .int (nI (rAn q)), .int (rFt q), .int (rPl q)]))]) (va_runV (As := [.int (nI k)]) (rest := []) ⟨hx, hb, hml, hown, hts⟩ (c_Walk_dropLast l dC dI cI cB cZ _ w a fw M x y g t k (by first | with_reducible assumption | omega | decide) (hk)) (cwV 1 hts (gV mw160 mw161 mw162 mw26 mw163) rfl rfl rfl (by decide +kernel) ⟨Nat.le_of_ble_eq_true rfl, Nat.le_of_ble_eq_true rfl⟩) (kpV (wc := [(w, .inr (1, [.ref a, .int (nI M.length), .int x, .int y, .int g, .int t])), (a, .inl (cI, 1024, .inl fw))]) (q0 := 1) (ci := 1) hK hP hD [1, 2] rfl (by decide) rfl rfl rfl) rfl rfl hl.1 rfl (lv_room (Nat.le_of_ble_eq_true rfl)) d_Tape_undo_22 ⟨Nat.le_of_ble_eq_true rfl, Nat.le_of_ble_eq_true rfl⟩) hP hD hS hA [1, 2] [0, 3, 4, 5, 6, 7, 8, 9] [0, 8, 9, 1, 2, 3, 4, 5, 6, 7] rfl rfl (by decide) (by decide) (fun _ => rfl) (by decide) (fun _ => rfl) (fun u9 H locs hw hP hD hS => ?_)
    have hP : va_P (dC, dI) classes [(h0, .inr (0, [.ref w, .ref w2, .ref ro, .ref ri, .ref d])), (w, .inr (1, [.ref a, .int (nI (M.take (M.length - k)).length), .int x, .int y, .int g, .int t])), (a, .inl (cI, 1024, .inl fw)), (w2, .inr (1, [.ref a2, .int (nI M2.length), .int x2, .int y2, .int g2, .int t2])), (a2, .inl (cI, 1024, .inl fv)), (ro, .inr (2, [.ref bo, .int (nI O.length)])), (bo, .inl (cB, 4110, .inl fo)), (ri, .inr (2, [.ref bi, .int (nI I.length)])), (bi, .inl (cB, 8192, .inl fi)), (d, .inr (3, [.ref ri, .int (nI (rNx q)), .int (nI (rAn q)), .int (rFt q), .int (rPl q)]))] H := hP
    have hD : va_D A [(h0, .inr (0, [.ref w, .ref w2, .ref ro, .ref ri, .ref d])), (w, .inr (1, [.ref a, .int (nI (M.take (M.length - k)).length), .int x, .int y, .int g, .int t])), (a, .inl (cI, 1024, .inl fw)), (w2, .inr (1, [.ref a2, .int (nI M2.length), .int x2, .int y2, .int g2, .int t2])), (a2, .inl (cI, 1024, .inl fv)), (ro, .inr (2, [.ref bo, .int (nI O.length)])), (bo, .inl (cB, 4110, .inl fo)), (ri, .inr (2, [.ref bi, .int (nI I.length)])), (bi, .inl (cB, 8192, .inl fi)), (d, .inr (3, [.ref ri, .int (nI (rNx q)), .int (nI (rAn q)), .int (rFt q), .int (rPl q)]))] := hD
    have hW_22 := hw
    refine lv_iconst (v := 1) hx hb d_Tape_undo_25 (by decide) ?_
    exact kr_i (v := 1) (M.take (M.length - k)) hx hb hr (by decide) hK (hP.sub [0, 1, 2, 3, 4, 5, 6, 7, 8, 9] (rfl)) (hD.sub [0, 1, 2, 3, 4, 5, 6, 7, 8, 9] (by decide) (rfl)) hS ⟨(if_neg c_12).symm, by rw [if_neg c_12, nI_clamp (by omega)], hW_22⟩ d_Tape_undo_26 hlocks
  · refine lv_iconst (v := 0) hx hb d_Tape_undo_15 (by decide) ?_
    exact kr_i (v := 0) M hx hb hr (by decide) hK (hP.sub [0, 1, 2, 3, 4, 5, 6, 7, 8, 9] (rfl)) (hD.sub [0, 1, 2, 3, 4, 5, 6, 7, 8, 9] (by decide) (rfl)) hS ⟨(if_pos c_12).symm, (if_pos c_12).symm, hW⟩ d_Tape_undo_16 hlocks
abbrev Qc_T_again (dC : Nat → ClassId) (dI : Nat → Nat → Nat) (cI cB cZ : ClassId) (h0 : Nat) (w : Nat) (a : Nat) (fw : Nat → Int32) (M : List Int32) (x : Int32) (y : Int32) (g : Int32) (t : Int32) (w2 : Nat) (a2 : Nat) (fv : Nat → Int32) (M2 : List Int32) (x2 : Int32) (y2 : Int32) (g2 : Int32) (t2 : Int32) (ro : Nat) (bo : Nat) (fo : Nat → Int32) (O : List Nat) (ri : Nat) (bi : Nat) (fi : Nat → Int32) (I : List Nat) (d : Nat) (q : RS) (pi : Int32) (pn : Int32) (A : Nat → Prop) := va_Qi (fun (r9 : Int32) (u9 : (Nat → Int32) × List Int32) => (r9 = if kAgOk M pi pn then nI u9.2.length else -1) ∧ (u9.2 = if kAgOk M pi pn then M ++ (M.drop pi.toNatClampNeg).take pn.toNatClampNeg else M) ∧ (WRow u9.1 u9.2)) (ka (dC, dI) classes [(cI, .int), (cB, .byte), (cZ, .boolean)] (fun (u9 : (Nat → Int32) × List Int32) => [(h0, .inr (0, [.ref w, .ref w2, .ref ro, .ref ri, .ref d])), (w, .inr (1, [.ref a, .int (nI u9.2.length), .int x, .int y, .int g, .int t])), (a, .inl (cI, 1024, .inl u9.1)), (w2, .inr (1, [.ref a2, .int (nI M2.length), .int x2, .int y2, .int g2, .int t2])), (a2, .inl (cI, 1024, .inl fv)), (ro, .inr (2, [.ref bo, .int (nI O.length)])), (bo, .inl (cB, 4110, .inl fo)), (ri, .inr (2, [.ref bi, .int (nI I.length)])), (bi, .inl (cB, 8192, .inl fi)), (d, .inr (3, [.ref ri, .int (nI (rNx q)), .int (nI (rAn q)), .int (rFt q), .int (rPl q)]))]) A) A
set_option maxHeartbeats 1000000 in
set_option maxRecDepth 100000 in
/-- again -/
theorem c_T_again (l : Launch) (dC : Nat → ClassId) (dI : Nat → Nat → Nat) (cI cB cZ : ClassId) (sz : Nat) (h0 : Nat) (w : Nat) (a : Nat) (fw : Nat → Int32) (M : List Int32) (x : Int32) (y : Int32) (g : Int32) (t : Int32) (w2 : Nat) (a2 : Nat) (fv : Nat → Int32) (M2 : List Int32) (x2 : Int32) (y2 : Int32) (g2 : Int32) (t2 : Int32) (ro : Nat) (bo : Nat) (fo : Nat → Int32) (O : List Nat) (ri : Nat) (bi : Nat) (fi : Nat → Int32) (I : List Nat) (d : Nat) (q : RS) (pi : Int32) (pn : Int32) (hW : WRow fw M) (hV : WRow fv M2) (hO : BRow 4110 fo O) (hI : BRow 8192 fi I) : Met l y_Tape_again w_Tape_again ({ frames := 3, cells := 0, slots := 0, locals := 60 }) (va_Pc [.ref h0, .int pi, .int pn] (kp (dC, dI) classes [(cI, .int), (cB, .byte), (cZ, .boolean)] [(h0, .inr (0, [.ref w, .ref w2, .ref ro, .ref ri, .ref d])), (w, .inr (1, [.ref a, .int (nI M.length), .int x, .int y, .int g, .int t])), (a, .inl (cI, 1024, .inl fw)), (w2, .inr (1, [.ref a2, .int (nI M2.length), .int x2, .int y2, .int g2, .int t2])), (a2, .inl (cI, 1024, .inl fv)), (ro, .inr (2, [.ref bo, .int (nI O.length)])), (bo, .inl (cB, 4110, .inl fo)), (ri, .inr (2, [.ref bi, .int (nI I.length)])), (bi, .inl (cB, 8192, .inl fi)), (d, .inr (3, [.ref ri, .int (nI (rNx q)), .int (nI (rAn q)), .int (rFt q), .int (rPl q)]))] sz)) (Qc_T_again dC dI cI cB cZ h0 w a fw M x y g t w2 a2 fv M2 x2 y2 g2 t2 ro bo fo O ri bi fi I d q pi pn (va_A [(h0, .inr (0, [.ref w, .ref w2, .ref ro, .ref ri, .ref d])), (w, .inr (1, [.ref a, .int (nI M.length), .int x, .int y, .int g, .int t])), (a, .inl (cI, 1024, .inl fw)), (w2, .inr (1, [.ref a2, .int (nI M2.length), .int x2, .int y2, .int g2, .int t2])), (a2, .inl (cI, 1024, .inl fv)), (ro, .inr (2, [.ref bo, .int (nI O.length)])), (bo, .inl (cB, 4110, .inl fo)), (ri, .inr (2, [.ref bi, .int (nI I.length)])), (bi, .inl (cB, 8192, .inl fi)), (d, .inr (3, [.ref ri, .int (nI (rNx q)), .int (nI (rAn q)), .int (rFt q), .int (rPl q)]))] sz)) 0 0 (va_A [(h0, .inr (0, [.ref w, .ref w2, .ref ro, .ref ri, .ref d])), (w, .inr (1, [.ref a, .int (nI M.length), .int x, .int y, .int g, .int t])), (a, .inl (cI, 1024, .inl fw)), (w2, .inr (1, [.ref a2, .int (nI M2.length), .int x2, .int y2, .int g2, .int t2])), (a2, .inl (cI, 1024, .inl fv)), (ro, .inr (2, [.ref bo, .int (nI O.length)])), (bo, .inl (cB, 4110, .inl fo)), (ri, .inr (2, [.ref bi, .int (nI I.length)])), (bi, .inl (cB, 8192, .inl fi)), (d, .inr (3, [.ref ri, .int (nI (rNx q)), .int (nI (rAn q)), .int (rFt q), .int (rPl q)]))] sz) := by
  refine Met.ofW (cc := prog_1_method_5_code) (maxL := 3) (ret := (some .int)) (by decide) rfl ?_
  intro p e s m args below meth c s₁ B hml hv
  obtain ⟨rfl, hsz, hP, hK, hD0⟩ := hv
  have hx := B.exec
  have hb := B.bytes
  have hr := B.returns
  have hts := fun w h => atoms_spec (ws := w_Tape_again) B.pre w (List.mem_cons_of_mem _ h)
  have hown : s.vm.findClass "DemoTape" = some m.cls := findClass_of_methodNamed B.named
  have hlocks := B.notSynchronized
  subst hsz
  have hD := hD0.self (sz := s.heap.size)
  generalize hAe : va_A ([(h0, .inr (0, [.ref w, .ref w2, .ref ro, .ref ri, .ref d])), (w, .inr (1, [.ref a, .int (nI M.length), .int x, .int y, .int g, .int t])), (a, .inl (cI, 1024, .inl fw)), (w2, .inr (1, [.ref a2, .int (nI M2.length), .int x2, .int y2, .int g2, .int t2])), (a2, .inl (cI, 1024, .inl fv)), (ro, .inr (2, [.ref bo, .int (nI O.length)])), (bo, .inl (cB, 4110, .inl fo)), (ri, .inr (2, [.ref bi, .int (nI I.length)])), (bi, .inl (cB, 8192, .inl fi)), (d, .inr (3, [.ref ri, .int (nI (rNx q)), .int (nI (rAn q)), .int (rFt q), .int (rPl q)]))] : va_W) s.heap.size = A at hD ⊢
  have hA : ∀ q : Nat, s.heap.size ≤ q → A q := fun q h => by rw [← hAe]; exact Or.inr h
  have hS : va_S A s.heap s.heap [] := va_S.rf
  have hP : va_P (dC, dI) classes [(h0, .inr (0, [.ref w, .ref w2, .ref ro, .ref ri, .ref d])), (w, .inr (1, [.ref a, .int (nI M.length), .int x, .int y, .int g, .int t])), (a, .inl (cI, 1024, .inl fw)), (w2, .inr (1, [.ref a2, .int (nI M2.length), .int x2, .int y2, .int g2, .int t2])), (a2, .inl (cI, 1024, .inl fv)), (ro, .inr (2, [.ref bo, .int (nI O.length)])), (bo, .inl (cB, 4110, .inl fo)), (ri, .inr (2, [.ref bi, .int (nI I.length)])), (bi, .inl (cB, 8192, .inl fi)), (d, .inr (3, [.ref ri, .int (nI (rNx q)), .int (nI (rAn q)), .int (rFt q), .int (rPl q)]))] s.heap := hP
  have hM := hW.2
  have hIl := hI.2.2.1
  have hOl := hO.2.2.1
  have hl := lv_entry ([.ref h0, .int pi, .int pn]) (n := 3) (Nat.le_of_ble_eq_true rfl)
  rw [lg_entry_eq]
  generalize (lg_sl ([.ref h0, .int pi, .int pn]) ++ List.replicate (3 - (lg_sl ([.ref h0, .int pi, .int pn])).length) Slot.unset).toArray = ls at hl ⊢
  have hl : lv_has ls 3 [(0, .ref h0), (1, .int pi), (2, .int pn)] := hl
  refine lv_iload_n hx hb d_Tape_again_0 rfl (lv_at hl 1 rfl) ?_
  refine lv_iconst (v := 0) hx hb d_Tape_again_1 (by decide) ?_
  refine lv_aload_n hx hb d_Tape_again_2 rfl (lv_at hl 0 rfl) ?_
  refine va_get (D := (dC, dI)) (ci := 0) (v := .ref w) (C := "DemoTape") (T := F_Tape) (N := 5) hx hb hts i_Tape hown hK hP 0 rfl rfl 0 (by decide) (hts _ mw106) (fun _ h9 => h9) rfl d_Tape_again_3 ?_
  refine kq_i (wr := [(h0, .inr (0, [.ref w, .ref w2, .ref ro, .ref ri, .ref d])), (w2, .inr (1, [.ref a2, .int (nI M2.length), .int x2, .int y2, .int g2, .int t2])), (a2, .inl (cI, 1024, .inl fv)), (ro, .inr (2, [.ref bo, .int (nI O.length)])), (bo, .inl (cB, 4110, .inl fo)), (ri, .inr (2, [.ref bi, .int (nI I.length)])), (bi, .inl (cB, 8192, .inl fi)), (d, .inr (3, [.ref ri, .int (nI (rNx q)), .int (nI (rAn q)), .int (rFt q), .int (rPl q)]))]) (va_runV (As := []) (rest := [.int 0, .int pi]) ⟨hx, hb, hml, hown, hts⟩ (c_Walk_count l dC dI cI cB cZ _ w a fw M x y g t ) (cwV 0 hts (gV mw152 mw153 mw154 mw26 mw155) rfl rfl rfl (by decide +kernel) ⟨Nat.le_of_ble_eq_true rfl, Nat.le_of_ble_eq_true rfl⟩) (kpV (wc := [(w, .inr (1, [.ref a, .int (nI M.length), .int x, .int y, .int g, .int t])), (a, .inl (cI, 1024, .inl fw))]) (q0 := 1) (ci := 1) hK hP hD [1, 2] rfl (by decide) rfl rfl rfl) rfl rfl hl.1 rfl (lv_room (Nat.le_of_ble_eq_true rfl)) d_Tape_again_6 ⟨Nat.le_of_ble_eq_true rfl, Nat.le_of_ble_eq_true rfl⟩) hP hD hS hA [1, 2] [0, 3, 4, 5, 6, 7, 8, 9] [0, 8, 9, 1, 2, 3, 4, 5, 6, 7] rfl rfl (by decide) (by decide) rfl (fun r_6 H locs hw hP hS => ?_)
  have e_6 := hw
  refine kt_i e_6 ?_
  refine lv_iconst (v := 1) hx hb d_Tape_again_9 (by decide) ?_
  refine lv_isub hx hb d_Tape_again_10 ?_
  refine kq_i (wr := [(h0, .inr (0, [.ref w, .ref w2, .ref ro, .ref ri, .ref d])), (w, .inr (1, [.ref a, .int (nI M.length), .int x, .int y, .int g, .int t])), (a, .inl (cI, 1024, .inl fw)), (w2, .inr (1, [.ref a2, .int (nI M2.length), .int x2, .int y2, .int g2, .int t2])), (a2, .inl (cI, 1024, .inl fv)), (ro, .inr (2, [.ref bo, .int (nI O.length)])), (bo, .inl (cB, 4110, .inl fo)), (ri, .inr (2, [.ref bi, .int (nI I.length)])), (bi, .inl (cB, 8192, .inl fi)), (d, .inr (3, [.ref ri, .int (nI (rNx q)), .int (nI (rAn q)), .int (rFt q), .int (rPl q)]))]) (va_runS (As := [.int pi, .int 0, .int ((nI M.length) - 1)]) (rest := []) ⟨hx, hb, hml, hown, hts⟩ (c_D_isWithin l dC dI cI cB cZ _ pi 0 ((nI M.length) - 1) ) (va_cwS 3 hts (gS mw126 mw127 mw25 mw128) rfl rfl rfl (by decide +kernel) ⟨Nat.le_of_ble_eq_true rfl, Nat.le_of_ble_eq_true rfl⟩) (kpS (wc := []) hK hP hD [] rfl (by decide) rfl) rfl rfl hl.1 rfl (lv_room (Nat.le_of_ble_eq_true rfl)) d_Tape_again_11 ⟨Nat.le_of_ble_eq_true rfl, Nat.le_of_ble_eq_true rfl⟩) hP hD hS hA [] [0, 1, 2, 3, 4, 5, 6, 7, 8, 9] [0, 1, 2, 3, 4, 5, 6, 7, 8, 9] rfl rfl (by decide) (by decide) rfl (fun r_11 H locs hw hP hS => ?_)
  have e_11 := hw
  refine kt_i e_11 ?_
  refine lv_if_eq (tgt := 45) hx hb d_Tape_again_14 (by decide) (fun c_14 => ?_) (fun c_14 => ?_)
  · refine lv_iconst (v := -1) hx hb d_Tape_again_45 (by decide) ?_
    exact kr_i (v := -1) (fw, M) hx hb hr rfl hK (hP.sub [0, 1, 2, 3, 4, 5, 6, 7, 8, 9] (rfl)) (hD.sub [0, 1, 2, 3, 4, 5, 6, 7, 8, 9] (by decide) (rfl)) hS ⟨(if_neg (fun z => z.1 c_14)).symm, (if_neg (fun z => z.1 c_14)).symm, hW⟩ d_Tape_again_46 hlocks
  · obtain ⟨i, hi, rfl⟩ := kIn_ix c_14 (by omega)
    refine lv_iload_n hx hb d_Tape_again_17 rfl (lv_at hl 2 rfl) ?_
    refine lv_iconst (v := 1) hx hb d_Tape_again_18 (by decide) ?_
    refine lv_aload_n hx hb d_Tape_again_19 rfl (lv_at hl 0 rfl) ?_
    refine va_get (D := (dC, dI)) (ci := 0) (v := .ref w) (C := "DemoTape") (T := F_Tape) (N := 5) hx hb hts i_Tape hown hK hP 0 rfl rfl 0 (by decide) (hts _ mw106) (fun _ h9 => h9) rfl d_Tape_again_20 ?_
    refine kq_i (wr := [(h0, .inr (0, [.ref w, .ref w2, .ref ro, .ref ri, .ref d])), (w2, .inr (1, [.ref a2, .int (nI M2.length), .int x2, .int y2, .int g2, .int t2])), (a2, .inl (cI, 1024, .inl fv)), (ro, .inr (2, [.ref bo, .int (nI O.length)])), (bo, .inl (cB, 4110, .inl fo)), (ri, .inr (2, [.ref bi, .int (nI I.length)])), (bi, .inl (cB, 8192, .inl fi)), (d, .inr (3, [.ref ri, .int (nI (rNx q)), .int (nI (rAn q)), .int (rFt q), .int (rPl q)]))]) (va_runV (As := []) (rest := [.int 1, .int pn]) ⟨hx, hb, hml, hown, hts⟩ (c_Walk_count l dC dI cI cB cZ _ w a fw M x y g t ) (cwV 0 hts (gV mw152 mw153 mw154 mw26 mw155) rfl rfl rfl (by decide +kernel) ⟨Nat.le_of_ble_eq_true rfl, Nat.le_of_ble_eq_true rfl⟩) (kpV (wc := [(w, .inr (1, [.ref a, .int (nI M.length), .int x, .int y, .int g, .int t])), (a, .inl (cI, 1024, .inl fw))]) (q0 := 1) (ci := 1) hK hP hD [1, 2] rfl (by decide) rfl rfl rfl) rfl rfl hl.1 rfl (lv_room (Nat.le_of_ble_eq_true rfl)) d_Tape_again_23 ⟨Nat.le_of_ble_eq_true rfl, Nat.le_of_ble_eq_true rfl⟩) hP hD hS hA [1, 2] [0, 3, 4, 5, 6, 7, 8, 9] [0, 8, 9, 1, 2, 3, 4, 5, 6, 7] rfl rfl (by decide) (by decide) rfl (fun r_23 H locs hw hP hS => ?_)
    have e_23 := hw
    refine kt_i e_23 ?_
    refine lv_iload_n hx hb d_Tape_again_26 rfl (lv_at hl 1 rfl) ?_
    refine lv_isub hx hb d_Tape_again_27 ?_
    refine kq_i (wr := [(h0, .inr (0, [.ref w, .ref w2, .ref ro, .ref ri, .ref d])), (w, .inr (1, [.ref a, .int (nI M.length), .int x, .int y, .int g, .int t])), (a, .inl (cI, 1024, .inl fw)), (w2, .inr (1, [.ref a2, .int (nI M2.length), .int x2, .int y2, .int g2, .int t2])), (a2, .inl (cI, 1024, .inl fv)), (ro, .inr (2, [.ref bo, .int (nI O.length)])), (bo, .inl (cB, 4110, .inl fo)), (ri, .inr (2, [.ref bi, .int (nI I.length)])), (bi, .inl (cB, 8192, .inl fi)), (d, .inr (3, [.ref ri, .int (nI (rNx q)), .int (nI (rAn q)), .int (rFt q), .int (rPl q)]))]) (va_runS (As := [.int pn, .int 1, .int ((nI M.length) - (nI i))]) (rest := []) ⟨hx, hb, hml, hown, hts⟩ (c_D_isWithin l dC dI cI cB cZ _ pn 1 ((nI M.length) - (nI i)) ) (va_cwS 3 hts (gS mw126 mw127 mw25 mw128) rfl rfl rfl (by decide +kernel) ⟨Nat.le_of_ble_eq_true rfl, Nat.le_of_ble_eq_true rfl⟩) (kpS (wc := []) hK hP hD [] rfl (by decide) rfl) rfl rfl hl.1 rfl (lv_room (Nat.le_of_ble_eq_true rfl)) d_Tape_again_28 ⟨Nat.le_of_ble_eq_true rfl, Nat.le_of_ble_eq_true rfl⟩) hP hD hS hA [] [0, 1, 2, 3, 4, 5, 6, 7, 8, 9] [0, 1, 2, 3, 4, 5, 6, 7, 8, 9] rfl rfl (by decide) (by decide) rfl (fun r_28 H locs hw hP hS => ?_)
    have e_28 := hw
    refine kt_i e_28 ?_
    refine lv_if_eq (tgt := 45) hx hb d_Tape_again_31 (by decide) (fun c_31 => ?_) (fun c_31 => ?_)
    · refine lv_iconst (v := -1) hx hb d_Tape_again_45 (by decide) ?_
      exact kr_i (v := -1) (fw, M) hx hb hr rfl hK (hP.sub [0, 1, 2, 3, 4, 5, 6, 7, 8, 9] (rfl)) (hD.sub [0, 1, 2, 3, 4, 5, 6, 7, 8, 9] (by decide) (rfl)) hS ⟨(if_neg (fun z => z.2.1 c_31)).symm, (if_neg (fun z => z.2.1 c_31)).symm, hW⟩ d_Tape_again_46 hlocks
    · have c31 := c_31
      rw [pk_sub (by omega)] at c31
      obtain ⟨k, hk, rfl⟩ := kIn_nI c31 (by omega)
      refine lv_iload_n hx hb d_Tape_again_34 rfl (lv_at hl 2 rfl) ?_
      refine lv_aload_n hx hb d_Tape_again_35 rfl (lv_at hl 0 rfl) ?_
      refine va_get (D := (dC, dI)) (ci := 0) (v := .ref w) (C := "DemoTape") (T := F_Tape) (N := 5) hx hb hts i_Tape hown hK hP 0 rfl rfl 0 (by decide) (hts _ mw106) (fun _ h9 => h9) rfl d_Tape_again_36 ?_
      refine kq_i (wr := [(h0, .inr (0, [.ref w, .ref w2, .ref ro, .ref ri, .ref d])), (w2, .inr (1, [.ref a2, .int (nI M2.length), .int x2, .int y2, .int g2, .int t2])), (a2, .inl (cI, 1024, .inl fv)), (ro, .inr (2, [.ref bo, .int (nI O.length)])), (bo, .inl (cB, 4110, .inl fo)), (ri, .inr (2, [.ref bi, .int (nI I.length)])), (bi, .inl (cB, 8192, .inl fi)), (d, .inr (3, [.ref ri, .int (nI (rNx q)), .int (nI (rAn q)), .int (rFt q), .int (rPl q)]))]) (va_runV (As := []) (rest := [.int (nI k)]) ⟨hx, hb, hml, hown, hts⟩ (c_Walk_room l dC dI cI cB cZ _ w a fw M x y g t (by first | with_reducible assumption | omega | decide)) (cwV 0 hts (gV mw137 mw138 mw139 mw26 mw140) rfl rfl rfl (by decide +kernel) ⟨Nat.le_of_ble_eq_true rfl, Nat.le_of_ble_eq_true rfl⟩) (kpV (wc := [(w, .inr (1, [.ref a, .int (nI M.length), .int x, .int y, .int g, .int t])), (a, .inl (cI, 1024, .inl fw))]) (q0 := 1) (ci := 1) hK hP hD [1, 2] rfl (by decide) rfl rfl rfl) rfl rfl hl.1 rfl (lv_room (Nat.le_of_ble_eq_true rfl)) d_Tape_again_39 ⟨Nat.le_of_ble_eq_true rfl, Nat.le_of_ble_eq_true rfl⟩) hP hD hS hA [1, 2] [0, 3, 4, 5, 6, 7, 8, 9] [0, 8, 9, 1, 2, 3, 4, 5, 6, 7] rfl rfl (by decide) (by decide) rfl (fun r_39 H locs hw hP hS => ?_)
      have e_39 := hw
      refine kt_i e_39 ?_
      refine lv_icmp_le (tgt := 47) hx hb d_Tape_again_42 (by decide) (fun c_42 => ?_) (fun c_42 => ?_)
      · have n_42 := kn_le (a := k) (b := 1024 - M.length) c_42 rfl rfl (by omega) (by omega)
        refine lv_aload_n hx hb d_Tape_again_47 rfl (lv_at hl 0 rfl) ?_
        refine va_get (D := (dC, dI)) (ci := 0) (v := .ref w) (C := "DemoTape") (T := F_Tape) (N := 5) hx hb hts i_Tape hown hK hP 0 rfl rfl 0 (by decide) (hts _ mw106) (fun _ h9 => h9) rfl d_Tape_again_48 ?_
        refine lv_iload_n hx hb d_Tape_again_51 rfl (lv_at hl 1 rfl) ?_
        refine lv_iload_n hx hb d_Tape_again_52 rfl (lv_at hl 2 rfl) ?_
        refine kc_v (wr := [(h0, .inr (0, [.ref w, .ref w2, .ref ro, .ref ri, .ref d])), (w2, .inr (1, [.ref a2, .int (nI M2.length), .int x2, .int y2, .int g2, .int t2])), (a2, .inl (cI, 1024, .inl fv)), (ro, .inr (2, [.ref bo, .int (nI O.length)])), (bo, .inl (cB, 4110, .inl fo)), (ri, .inr (2, [.ref bi, .int (nI I.length)])), (bi, .inl (cB, 8192, .inl fi)), (d, .inr (3, [.ref ri, .int (nI (rNx q)), .int (nI (rAn q)), .int (rFt q), .int (rPl q)]))]) (w2 := fun (u9 : (Nat → Int32)) => [(h0, .inr (0, [.ref w, .ref w2, .ref ro, .ref ri, .ref d])), (w, .inr (1, [.ref a, .int (nI (M ++ (M.drop i).take k).length), .int x, .int y, .int g, .int t])), (a, .inl (cI, 1024, .inl u9)), (w2, .inr (1, [.ref a2, .int (nI M2.length), .int x2, .int y2, .int g2, .int t2])), (a2, .inl (cI, 1024, .inl fv)), (ro, .inr (2, [.ref bo, .int (nI O.length)])), (bo, .inl (cB, 4110, .inl fo)), (ri, .inr (2, [.ref bi, .int (nI I.length)])), (bi, .inl (cB, 8192, .inl fi)), (d, .inr (3, [.ref ri, .int (nI (rNx q)), .int (nI (rAn q)), .int (rFt q), .int (rPl q)]))]) (va_runV (As := [.int (nI i), .int (nI k)]) (rest := []) ⟨hx, hb, hml, hown, hts⟩ (c_Walk_repeat l dC dI cI cB cZ _ w a fw M x y g t i k (by first | with_reducible assumption | omega | decide) (by omega) (by omega)) (cwV 2 hts (gV mw169 mw170 mw171 mw26 mw172) rfl rfl rfl (by decide +kernel) ⟨Nat.le_of_ble_eq_true rfl, Nat.le_of_ble_eq_true rfl⟩) (kpV (wc := [(w, .inr (1, [.ref a, .int (nI M.length), .int x, .int y, .int g, .int t])), (a, .inl (cI, 1024, .inl fw))]) (q0 := 1) (ci := 1) hK hP hD [1, 2] rfl (by decide) rfl rfl rfl) rfl rfl hl.1 rfl (lv_room (Nat.le_of_ble_eq_true rfl)) d_Tape_again_53 ⟨Nat.le_of_ble_eq_true rfl, Nat.le_of_ble_eq_true rfl⟩) hP hD hS hA [1, 2] [0, 3, 4, 5, 6, 7, 8, 9] [0, 8, 9, 1, 2, 3, 4, 5, 6, 7] rfl rfl (by decide) (by decide) (fun _ => rfl) (by decide) (fun _ => rfl) (fun u9 H locs hw hP hD hS => ?_)
        obtain ⟨f1_53, rfl⟩ : ∃ z, z = u9 := ⟨_, rfl⟩
        try dsimp only at hw
        have hP : va_P (dC, dI) classes [(h0, .inr (0, [.ref w, .ref w2, .ref ro, .ref ri, .ref d])), (w, .inr (1, [.ref a, .int (nI (M ++ (M.drop i).take k).length), .int x, .int y, .int g, .int t])), (a, .inl (cI, 1024, .inl f1_53)), (w2, .inr (1, [.ref a2, .int (nI M2.length), .int x2, .int y2, .int g2, .int t2])), (a2, .inl (cI, 1024, .inl fv)), (ro, .inr (2, [.ref bo, .int (nI O.length)])), (bo, .inl (cB, 4110, .inl fo)), (ri, .inr (2, [.ref bi, .int (nI I.length)])), (bi, .inl (cB, 8192, .inl fi)), (d, .inr (3, [.ref ri, .int (nI (rNx q)), .int (nI (rAn q)), .int (rFt q), .int (rPl q)]))] H := hP
        have hD : va_D A [(h0, .inr (0, [.ref w, .ref w2, .ref ro, .ref ri, .ref d])), (w, .inr (1, [.ref a, .int (nI (M ++ (M.drop i).take k).length), .int x, .int y, .int g, .int t])), (a, .inl (cI, 1024, .inl f1_53)), (w2, .inr (1, [.ref a2, .int (nI M2.length), .int x2, .int y2, .int g2, .int t2])), (a2, .inl (cI, 1024, .inl fv)), (ro, .inr (2, [.ref bo, .int (nI O.length)])), (bo, .inl (cB, 4110, .inl fo)), (ri, .inr (2, [.ref bi, .int (nI I.length)])), (bi, .inl (cB, 8192, .inl fi)), (d, .inr (3, [.ref ri, .int (nI (rNx q)), .int (nI (rAn q)), .int (rFt q), .int (rPl q)]))] := hD
        have hW_53 := hw
        refine lv_aload_n hx hb d_Tape_again_56 rfl (lv_at hl 0 rfl) ?_
        refine va_get (D := (dC, dI)) (ci := 0) (v := .ref w) (C := "DemoTape") (T := F_Tape) (N := 5) hx hb hts i_Tape hown hK hP 0 rfl rfl 0 (by decide) (hts _ mw106) (fun _ h9 => h9) rfl d_Tape_again_57 ?_
        refine kq_i (wr := [(h0, .inr (0, [.ref w, .ref w2, .ref ro, .ref ri, .ref d])), (w2, .inr (1, [.ref a2, .int (nI M2.length), .int x2, .int y2, .int g2, .int t2])), (a2, .inl (cI, 1024, .inl fv)), (ro, .inr (2, [.ref bo, .int (nI O.length)])), (bo, .inl (cB, 4110, .inl fo)), (ri, .inr (2, [.ref bi, .int (nI I.length)])), (bi, .inl (cB, 8192, .inl fi)), (d, .inr (3, [.ref ri, .int (nI (rNx q)), .int (nI (rAn q)), .int (rFt q), .int (rPl q)]))]) (va_runV (As := []) (rest := []) ⟨hx, hb, hml, hown, hts⟩ (c_Walk_count l dC dI cI cB cZ _ w a f1_53 (M ++ (M.drop i).take k) x y g t ) (cwV 0 hts (gV mw152 mw153 mw154 mw26 mw155) rfl rfl rfl (by decide +kernel) ⟨Nat.le_of_ble_eq_true rfl, Nat.le_of_ble_eq_true rfl⟩) (kpV (wc := [(w, .inr (1, [.ref a, .int (nI (M ++ (M.drop i).take k).length), .int x, .int y, .int g, .int t])), (a, .inl (cI, 1024, .inl f1_53))]) (q0 := 1) (ci := 1) hK hP hD [1, 2] rfl (by decide) rfl rfl rfl) rfl rfl hl.1 rfl (lv_room (Nat.le_of_ble_eq_true rfl)) d_Tape_again_60 ⟨Nat.le_of_ble_eq_true rfl, Nat.le_of_ble_eq_true rfl⟩) hP hD hS hA [1, 2] [0, 3, 4, 5, 6, 7, 8, 9] [0, 8, 9, 1, 2, 3, 4, 5, 6, 7] rfl rfl (by decide) (by decide) rfl (fun r_60 H locs hw hP hS => ?_)
        have e_60 := hw
        refine kt_i e_60 ?_
        exact kr_i (v := nI (M ++ (M.drop i).take k).length) (f1_53, M ++ (M.drop i).take k) hx hb hr rfl hK (hP.sub [0, 1, 2, 3, 4, 5, 6, 7, 8, 9] (rfl)) (hD.sub [0, 1, 2, 3, 4, 5, 6, 7, 8, 9] (by decide) (rfl)) hS ⟨(if_pos ⟨c_14, c_31, c_42⟩).symm, by rw [if_pos ⟨c_14, c_31, c_42⟩, nI_clamp (by omega), nI_clamp (by omega)], hW_53⟩ d_Tape_again_63 hlocks
      · have n_42 := kn_nle (a := k) (b := 1024 - M.length) c_42 rfl rfl (by omega) (by omega)
        refine lv_iconst (v := -1) hx hb d_Tape_again_45 (by decide) ?_
        exact kr_i (v := -1) (fw, M) hx hb hr rfl hK (hP.sub [0, 1, 2, 3, 4, 5, 6, 7, 8, 9] (rfl)) (hD.sub [0, 1, 2, 3, 4, 5, 6, 7, 8, 9] (by decide) (rfl)) hS ⟨(if_neg (fun z => c_42 z.2.2)).symm, (if_neg (fun z => c_42 z.2.2)).symm, hW⟩ d_Tape_again_46 hlocks
abbrev Qc_T_write (dC : Nat → ClassId) (dI : Nat → Nat → Nat) (cI cB cZ : ClassId) (tM : Nat) (h0 : Nat) (w : Nat) (a : Nat) (fw : Nat → Int32) (M : List Int32) (x : Int32) (y : Int32) (g : Int32) (t : Int32) (w2 : Nat) (a2 : Nat) (fv : Nat → Int32) (M2 : List Int32) (x2 : Int32) (y2 : Int32) (g2 : Int32) (t2 : Int32) (ro : Nat) (bo : Nat) (fo : Nat → Int32) (O : List Nat) (ri : Nat) (bi : Nat) (fi : Nat → Int32) (I : List Nat) (d : Nat) (q : RS) (A : Nat → Prop) := va_Qi (fun (r9 : Int32) (u9 : (Nat → Int32)) => (r9 = nI (kOut M x y g t).length) ∧ (BRow 4110 u9 (kOut M x y g t))) (ka (dC, dI) classes [(cI, .int), (cB, .byte), (cZ, .boolean)] (fun (u9 : (Nat → Int32)) => [(h0, .inr (0, [.ref w, .ref w2, .ref ro, .ref ri, .ref d])), (w, .inr (1, [.ref a, .int (nI M.length), .int x, .int y, .int g, .int t])), (a, .inl (cI, 1024, .inl fw)), (w2, .inr (1, [.ref a2, .int (nI M2.length), .int x2, .int y2, .int g2, .int t2])), (a2, .inl (cI, 1024, .inl fv)), (ro, .inr (2, [.ref bo, .int (nI (kOut M x y g t).length)])), (bo, .inl (cB, 4110, .inl u9)), (ri, .inr (2, [.ref bi, .int (nI I.length)])), (bi, .inl (cB, 8192, .inl fi)), (d, .inr (3, [.ref ri, .int (nI (rNx q)), .int (nI (rAn q)), .int (rFt q), .int (rPl q)]))]) A) A
set_option maxHeartbeats 1000000 in
set_option maxRecDepth 100000 in
/-- write -/
theorem c_T_write (l : Launch) (dC : Nat → ClassId) (dI : Nat → Nat → Nat) (cI cB cZ : ClassId) (sz : Nat) (tM : Nat) (h0 : Nat) (w : Nat) (a : Nat) (fw : Nat → Int32) (M : List Int32) (x : Int32) (y : Int32) (g : Int32) (t : Int32) (w2 : Nat) (a2 : Nat) (fv : Nat → Int32) (M2 : List Int32) (x2 : Int32) (y2 : Int32) (g2 : Int32) (t2 : Int32) (ro : Nat) (bo : Nat) (fo : Nat → Int32) (O : List Nat) (ri : Nat) (bi : Nat) (fi : Nat → Int32) (I : List Nat) (d : Nat) (q : RS) (hW : WRow fw M) (hV : WRow fv M2) (hO : BRow 4110 fo O) (hI : BRow 8192 fi I) : Met l y_Tape_write w_Tape_write ({ frames := 5, cells := 0, slots := 0, locals := 108 }) (va_Pc [.ref h0] (kps (dC, dI) classes [(cI, .int), (cB, .byte), (cZ, .boolean)] [(h0, .inr (0, [.ref w, .ref w2, .ref ro, .ref ri, .ref d])), (w, .inr (1, [.ref a, .int (nI M.length), .int x, .int y, .int g, .int t])), (a, .inl (cI, 1024, .inl fw)), (w2, .inr (1, [.ref a2, .int (nI M2.length), .int x2, .int y2, .int g2, .int t2])), (a2, .inl (cI, 1024, .inl fv)), (ro, .inr (2, [.ref bo, .int (nI O.length)])), (bo, .inl (cB, 4110, .inl fo)), (ri, .inr (2, [.ref bi, .int (nI I.length)])), (bi, .inl (cB, 8192, .inl fi)), (d, .inr (3, [.ref ri, .int (nI (rNx q)), .int (nI (rAn q)), .int (rFt q), .int (rPl q)]))] sz tM)) (Qc_T_write dC dI cI cB cZ tM h0 w a fw M x y g t w2 a2 fv M2 x2 y2 g2 t2 ro bo fo O ri bi fi I d q (va_A [(h0, .inr (0, [.ref w, .ref w2, .ref ro, .ref ri, .ref d])), (w, .inr (1, [.ref a, .int (nI M.length), .int x, .int y, .int g, .int t])), (a, .inl (cI, 1024, .inl fw)), (w2, .inr (1, [.ref a2, .int (nI M2.length), .int x2, .int y2, .int g2, .int t2])), (a2, .inl (cI, 1024, .inl fv)), (ro, .inr (2, [.ref bo, .int (nI O.length)])), (bo, .inl (cB, 4110, .inl fo)), (ri, .inr (2, [.ref bi, .int (nI I.length)])), (bi, .inl (cB, 8192, .inl fi)), (d, .inr (3, [.ref ri, .int (nI (rNx q)), .int (nI (rAn q)), .int (rFt q), .int (rPl q)]))] sz)) 0 0 (va_A [(h0, .inr (0, [.ref w, .ref w2, .ref ro, .ref ri, .ref d])), (w, .inr (1, [.ref a, .int (nI M.length), .int x, .int y, .int g, .int t])), (a, .inl (cI, 1024, .inl fw)), (w2, .inr (1, [.ref a2, .int (nI M2.length), .int x2, .int y2, .int g2, .int t2])), (a2, .inl (cI, 1024, .inl fv)), (ro, .inr (2, [.ref bo, .int (nI O.length)])), (bo, .inl (cB, 4110, .inl fo)), (ri, .inr (2, [.ref bi, .int (nI I.length)])), (bi, .inl (cB, 8192, .inl fi)), (d, .inr (3, [.ref ri, .int (nI (rNx q)), .int (nI (rAn q)), .int (rFt q), .int (rPl q)]))] sz) := by
  refine Met.ofW (cc := prog_1_method_6_code) (maxL := 1) (ret := (some .int)) (by decide) rfl ?_
  intro p e s m args below meth c s₁ B hml hv
  obtain ⟨rfl, ⟨hsz, hP, hK, hD0⟩, hMk⟩ := hv
  have hx := B.exec
  have hb := B.bytes
  have hr := B.returns
  have hts := fun w h => atoms_spec (ws := w_Tape_write) B.pre w (List.mem_cons_of_mem _ h)
  have hown : s.vm.findClass "DemoTape" = some m.cls := findClass_of_methodNamed B.named
  have hlocks := B.notSynchronized
  subst hsz
  have hD := hD0.self (sz := s.heap.size)
  generalize hAe : va_A ([(h0, .inr (0, [.ref w, .ref w2, .ref ro, .ref ri, .ref d])), (w, .inr (1, [.ref a, .int (nI M.length), .int x, .int y, .int g, .int t])), (a, .inl (cI, 1024, .inl fw)), (w2, .inr (1, [.ref a2, .int (nI M2.length), .int x2, .int y2, .int g2, .int t2])), (a2, .inl (cI, 1024, .inl fv)), (ro, .inr (2, [.ref bo, .int (nI O.length)])), (bo, .inl (cB, 4110, .inl fo)), (ri, .inr (2, [.ref bi, .int (nI I.length)])), (bi, .inl (cB, 8192, .inl fi)), (d, .inr (3, [.ref ri, .int (nI (rNx q)), .int (nI (rAn q)), .int (rFt q), .int (rPl q)]))] : va_W) s.heap.size = A at hD hMk ⊢
  have hA : ∀ q : Nat, s.heap.size ≤ q → A q := fun q h => by rw [← hAe]; exact Or.inr h
  have hS : va_S A s.heap s.heap [] := va_S.rf
  have hP : va_P (dC, dI) classes [(h0, .inr (0, [.ref w, .ref w2, .ref ro, .ref ri, .ref d])), (w, .inr (1, [.ref a, .int (nI M.length), .int x, .int y, .int g, .int t])), (a, .inl (cI, 1024, .inl fw)), (w2, .inr (1, [.ref a2, .int (nI M2.length), .int x2, .int y2, .int g2, .int t2])), (a2, .inl (cI, 1024, .inl fv)), (ro, .inr (2, [.ref bo, .int (nI O.length)])), (bo, .inl (cB, 4110, .inl fo)), (ri, .inr (2, [.ref bi, .int (nI I.length)])), (bi, .inl (cB, 8192, .inl fi)), (d, .inr (3, [.ref ri, .int (nI (rNx q)), .int (nI (rAn q)), .int (rFt q), .int (rPl q)]))] s.heap := hP
  have hM := hW.2
  have hIl := hI.2.2.1
  have hOl := hO.2.2.1
  have hl := lv_entry ([.ref h0]) (n := 1) (Nat.le_of_ble_eq_true rfl)
  rw [lg_entry_eq]
  generalize (lg_sl ([.ref h0]) ++ List.replicate (1 - (lg_sl ([.ref h0])).length) Slot.unset).toArray = ls at hl ⊢
  have hl : lv_has ls 1 [(0, .ref h0)] := hl
  refine lv_aload_n hx hb d_Tape_write_0 rfl (lv_at hl 0 rfl) ?_
  refine va_get (D := (dC, dI)) (ci := 0) (v := .ref ro) (C := "DemoTape") (T := F_Tape) (N := 5) hx hb hts i_Tape hown hK hP 0 rfl rfl 2 (by decide) (hts _ mw108) (fun _ h9 => h9) rfl d_Tape_write_1 ?_
  refine lv_iconst (v := 0) hx hb d_Tape_write_4 (by decide) ?_
  refine kc_v (wr := [(h0, .inr (0, [.ref w, .ref w2, .ref ro, .ref ri, .ref d])), (w, .inr (1, [.ref a, .int (nI M.length), .int x, .int y, .int g, .int t])), (a, .inl (cI, 1024, .inl fw)), (w2, .inr (1, [.ref a2, .int (nI M2.length), .int x2, .int y2, .int g2, .int t2])), (a2, .inl (cI, 1024, .inl fv)), (ri, .inr (2, [.ref bi, .int (nI I.length)])), (bi, .inl (cB, 8192, .inl fi)), (d, .inr (3, [.ref ri, .int (nI (rNx q)), .int (nI (rAn q)), .int (rFt q), .int (rPl q)]))]) (w2 := fun (_ : Unit) => [(h0, .inr (0, [.ref w, .ref w2, .ref ro, .ref ri, .ref d])), (w, .inr (1, [.ref a, .int (nI M.length), .int x, .int y, .int g, .int t])), (a, .inl (cI, 1024, .inl fw)), (w2, .inr (1, [.ref a2, .int (nI M2.length), .int x2, .int y2, .int g2, .int t2])), (a2, .inl (cI, 1024, .inl fv)), (ro, .inr (2, [.ref bo, .int (nI (O.take 0).length)])), (bo, .inl (cB, 4110, .inl fo)), (ri, .inr (2, [.ref bi, .int (nI I.length)])), (bi, .inl (cB, 8192, .inl fi)), (d, .inr (3, [.ref ri, .int (nI (rNx q)), .int (nI (rAn q)), .int (rFt q), .int (rPl q)]))]) (va_runV (As := [.int 0]) (rest := []) ⟨hx, hb, hml, hown, hts⟩ (c_Row_keepFirst l dC dI cI cB cZ _ ro bo 4110 fo O 0 (by first | with_reducible assumption | omega | decide) (Nat.zero_le _)) (cwV 1 hts (gV mw182 mw183 mw184 mw27 mw185) rfl rfl rfl (by decide +kernel) ⟨Nat.le_of_ble_eq_true rfl, Nat.le_of_ble_eq_true rfl⟩) (kpV (wc := [(ro, .inr (2, [.ref bo, .int (nI O.length)])), (bo, .inl (cB, 4110, .inl fo))]) (q0 := 5) (ci := 2) hK hP hD [5, 6] rfl (by decide) rfl rfl rfl) rfl rfl hl.1 rfl (lv_room (Nat.le_of_ble_eq_true rfl)) d_Tape_write_5 ⟨Nat.le_of_ble_eq_true rfl, Nat.le_of_ble_eq_true rfl⟩) hP hD hS hA [5, 6] [0, 1, 2, 3, 4, 7, 8, 9] [0, 1, 2, 3, 4, 8, 9, 5, 6, 7] rfl rfl (by decide) (by decide) (fun _ => rfl) (by decide) (fun _ => rfl) (fun u9 H locs hw hP hD hS => ?_)
  have hP : va_P (dC, dI) classes [(h0, .inr (0, [.ref w, .ref w2, .ref ro, .ref ri, .ref d])), (w, .inr (1, [.ref a, .int (nI M.length), .int x, .int y, .int g, .int t])), (a, .inl (cI, 1024, .inl fw)), (w2, .inr (1, [.ref a2, .int (nI M2.length), .int x2, .int y2, .int g2, .int t2])), (a2, .inl (cI, 1024, .inl fv)), (ro, .inr (2, [.ref bo, .int (nI (O.take 0).length)])), (bo, .inl (cB, 4110, .inl fo)), (ri, .inr (2, [.ref bi, .int (nI I.length)])), (bi, .inl (cB, 8192, .inl fi)), (d, .inr (3, [.ref ri, .int (nI (rNx q)), .int (nI (rAn q)), .int (rFt q), .int (rPl q)]))] H := hP
  have hD : va_D A [(h0, .inr (0, [.ref w, .ref w2, .ref ro, .ref ri, .ref d])), (w, .inr (1, [.ref a, .int (nI M.length), .int x, .int y, .int g, .int t])), (a, .inl (cI, 1024, .inl fw)), (w2, .inr (1, [.ref a2, .int (nI M2.length), .int x2, .int y2, .int g2, .int t2])), (a2, .inl (cI, 1024, .inl fv)), (ro, .inr (2, [.ref bo, .int (nI (O.take 0).length)])), (bo, .inl (cB, 4110, .inl fo)), (ri, .inr (2, [.ref bi, .int (nI I.length)])), (bi, .inl (cB, 8192, .inl fi)), (d, .inr (3, [.ref ri, .int (nI (rNx q)), .int (nI (rAn q)), .int (rFt q), .int (rPl q)]))] := hD
  have hB_5 := hw
  have e9_5 : (O.take 0) = ([] : List Nat) := rfl
  rw [e9_5] at hP hD hB_5
  have hP : va_P (dC, dI) classes [(h0, .inr (0, [.ref w, .ref w2, .ref ro, .ref ri, .ref d])), (w, .inr (1, [.ref a, .int (nI M.length), .int x, .int y, .int g, .int t])), (a, .inl (cI, 1024, .inl fw)), (w2, .inr (1, [.ref a2, .int (nI M2.length), .int x2, .int y2, .int g2, .int t2])), (a2, .inl (cI, 1024, .inl fv)), (ro, .inr (2, [.ref bo, .int (nI ([] : List Nat).length)])), (bo, .inl (cB, 4110, .inl fo)), (ri, .inr (2, [.ref bi, .int (nI I.length)])), (bi, .inl (cB, 8192, .inl fi)), (d, .inr (3, [.ref ri, .int (nI (rNx q)), .int (nI (rAn q)), .int (rFt q), .int (rPl q)]))] H := hP
  have hD : va_D A [(h0, .inr (0, [.ref w, .ref w2, .ref ro, .ref ri, .ref d])), (w, .inr (1, [.ref a, .int (nI M.length), .int x, .int y, .int g, .int t])), (a, .inl (cI, 1024, .inl fw)), (w2, .inr (1, [.ref a2, .int (nI M2.length), .int x2, .int y2, .int g2, .int t2])), (a2, .inl (cI, 1024, .inl fv)), (ro, .inr (2, [.ref bo, .int (nI ([] : List Nat).length)])), (bo, .inl (cB, 4110, .inl fo)), (ri, .inr (2, [.ref bi, .int (nI I.length)])), (bi, .inl (cB, 8192, .inl fi)), (d, .inr (3, [.ref ri, .int (nI (rNx q)), .int (nI (rAn q)), .int (rFt q), .int (rPl q)]))] := hD
  refine lv_aload_n hx hb d_Tape_write_8 rfl (lv_at hl 0 rfl) ?_
  refine va_get (D := (dC, dI)) (ci := 0) (v := .ref w) (C := "DemoTape") (T := F_Tape) (N := 5) hx hb hts i_Tape hown hK hP 0 rfl rfl 0 (by decide) (hts _ mw106) (fun _ h9 => h9) rfl d_Tape_write_9 ?_
  refine lv_aload_n hx hb d_Tape_write_12 rfl (lv_at hl 0 rfl) ?_
  refine va_get (D := (dC, dI)) (ci := 0) (v := .ref ro) (C := "DemoTape") (T := F_Tape) (N := 5) hx hb hts i_Tape hown hK hP 0 rfl rfl 2 (by decide) (hts _ mw108) (fun _ h9 => h9) rfl d_Tape_write_13 ?_
  refine kc_v (wr := [(h0, .inr (0, [.ref w, .ref w2, .ref ro, .ref ri, .ref d])), (w2, .inr (1, [.ref a2, .int (nI M2.length), .int x2, .int y2, .int g2, .int t2])), (a2, .inl (cI, 1024, .inl fv)), (ri, .inr (2, [.ref bi, .int (nI I.length)])), (bi, .inl (cB, 8192, .inl fi)), (d, .inr (3, [.ref ri, .int (nI (rNx q)), .int (nI (rAn q)), .int (rFt q), .int (rPl q)]))]) (w2 := fun (u9 : (Nat → Int32)) => [(h0, .inr (0, [.ref w, .ref w2, .ref ro, .ref ri, .ref d])), (w, .inr (1, [.ref a, .int (nI M.length), .int x, .int y, .int g, .int t])), (a, .inl (cI, 1024, .inl fw)), (w2, .inr (1, [.ref a2, .int (nI M2.length), .int x2, .int y2, .int g2, .int t2])), (a2, .inl (cI, 1024, .inl fv)), (ro, .inr (2, [.ref bo, .int (nI (kOut M x y g t).length)])), (bo, .inl (cB, 4110, .inl u9)), (ri, .inr (2, [.ref bi, .int (nI I.length)])), (bi, .inl (cB, 8192, .inl fi)), (d, .inr (3, [.ref ri, .int (nI (rNx q)), .int (nI (rAn q)), .int (rFt q), .int (rPl q)]))]) (va_runV (As := [.ref ro]) (rest := []) ⟨hx, hb, hml, hown, hts⟩ (c_Walk_putInto l dC dI cI cB cZ _ tM w a fw M x y g t ro bo 4110 fo (by first | with_reducible assumption | omega | decide) (by first | with_reducible assumption | omega | decide) (by omega)) (cwV 1 hts (gV mw187 mw188 mw189 mw26 mw190) rfl rfl rfl (by decide +kernel) ⟨Nat.le_of_ble_eq_true rfl, Nat.le_of_ble_eq_true rfl⟩) (kpsV (wc := [(w, .inr (1, [.ref a, .int (nI M.length), .int x, .int y, .int g, .int t])), (a, .inl (cI, 1024, .inl fw)), (ro, .inr (2, [.ref bo, .int (nI ([] : List Nat).length)])), (bo, .inl (cB, 4110, .inl fo))]) (q0 := 1) (ci := 1) hK hP hD hMk hS hA [1, 2, 5, 6] rfl (by decide) rfl rfl rfl) rfl rfl hl.1 rfl (lv_room (Nat.le_of_ble_eq_true rfl)) d_Tape_write_16 ⟨Nat.le_of_ble_eq_true rfl, Nat.le_of_ble_eq_true rfl⟩) hP hD hS hA [1, 2, 5, 6] [0, 3, 4, 7, 8, 9] [0, 6, 7, 1, 2, 8, 9, 3, 4, 5] rfl rfl (by decide) (by decide) (fun _ => rfl) (by decide) (fun _ => rfl) (fun u9 H locs hw hP hD hS => ?_)
  obtain ⟨f1_16, rfl⟩ : ∃ z, z = u9 := ⟨_, rfl⟩
  try dsimp only at hw
  have hP : va_P (dC, dI) classes [(h0, .inr (0, [.ref w, .ref w2, .ref ro, .ref ri, .ref d])), (w, .inr (1, [.ref a, .int (nI M.length), .int x, .int y, .int g, .int t])), (a, .inl (cI, 1024, .inl fw)), (w2, .inr (1, [.ref a2, .int (nI M2.length), .int x2, .int y2, .int g2, .int t2])), (a2, .inl (cI, 1024, .inl fv)), (ro, .inr (2, [.ref bo, .int (nI (kOut M x y g t).length)])), (bo, .inl (cB, 4110, .inl f1_16)), (ri, .inr (2, [.ref bi, .int (nI I.length)])), (bi, .inl (cB, 8192, .inl fi)), (d, .inr (3, [.ref ri, .int (nI (rNx q)), .int (nI (rAn q)), .int (rFt q), .int (rPl q)]))] H := hP
  have hD : va_D A [(h0, .inr (0, [.ref w, .ref w2, .ref ro, .ref ri, .ref d])), (w, .inr (1, [.ref a, .int (nI M.length), .int x, .int y, .int g, .int t])), (a, .inl (cI, 1024, .inl fw)), (w2, .inr (1, [.ref a2, .int (nI M2.length), .int x2, .int y2, .int g2, .int t2])), (a2, .inl (cI, 1024, .inl fv)), (ro, .inr (2, [.ref bo, .int (nI (kOut M x y g t).length)])), (bo, .inl (cB, 4110, .inl f1_16)), (ri, .inr (2, [.ref bi, .int (nI I.length)])), (bi, .inl (cB, 8192, .inl fi)), (d, .inr (3, [.ref ri, .int (nI (rNx q)), .int (nI (rAn q)), .int (rFt q), .int (rPl q)]))] := hD
  have hB_16 := hw
  refine lv_aload_n hx hb d_Tape_write_19 rfl (lv_at hl 0 rfl) ?_
  refine va_get (D := (dC, dI)) (ci := 0) (v := .ref ro) (C := "DemoTape") (T := F_Tape) (N := 5) hx hb hts i_Tape hown hK hP 0 rfl rfl 2 (by decide) (hts _ mw108) (fun _ h9 => h9) rfl d_Tape_write_20 ?_
  refine kq_i (wr := [(h0, .inr (0, [.ref w, .ref w2, .ref ro, .ref ri, .ref d])), (w, .inr (1, [.ref a, .int (nI M.length), .int x, .int y, .int g, .int t])), (a, .inl (cI, 1024, .inl fw)), (w2, .inr (1, [.ref a2, .int (nI M2.length), .int x2, .int y2, .int g2, .int t2])), (a2, .inl (cI, 1024, .inl fv)), (ri, .inr (2, [.ref bi, .int (nI I.length)])), (bi, .inl (cB, 8192, .inl fi)), (d, .inr (3, [.ref ri, .int (nI (rNx q)), .int (nI (rAn q)), .int (rFt q), .int (rPl q)]))]) (va_runV (As := []) (rest := []) ⟨hx, hb, hml, hown, hts⟩ (c_Row_size l dC dI cI cB cZ _ ro bo 4110 f1_16 (kOut M x y g t) ) (cwV 0 hts (gV mw238 mw226 mw227 mw27 mw228) rfl rfl rfl (by decide +kernel) ⟨Nat.le_of_ble_eq_true rfl, Nat.le_of_ble_eq_true rfl⟩) (kpV (wc := [(ro, .inr (2, [.ref bo, .int (nI (kOut M x y g t).length)])), (bo, .inl (cB, 4110, .inl f1_16))]) (q0 := 5) (ci := 2) hK hP hD [5, 6] rfl (by decide) rfl rfl rfl) rfl rfl hl.1 rfl (lv_room (Nat.le_of_ble_eq_true rfl)) d_Tape_write_23 ⟨Nat.le_of_ble_eq_true rfl, Nat.le_of_ble_eq_true rfl⟩) hP hD hS hA [5, 6] [0, 1, 2, 3, 4, 7, 8, 9] [0, 1, 2, 3, 4, 8, 9, 5, 6, 7] rfl rfl (by decide) (by decide) rfl (fun r_23 H locs hw hP hS => ?_)
  have e_23 := hw
  refine kt_i e_23 ?_
  exact kr_i (v := nI (kOut M x y g t).length) f1_16 hx hb hr rfl hK (hP.sub [0, 1, 2, 3, 4, 5, 6, 7, 8, 9] (rfl)) (hD.sub [0, 1, 2, 3, 4, 5, 6, 7, 8, 9] (by decide) (rfl)) hS ⟨by first | with_reducible rfl | with_reducible assumption | rfl | omega, hB_16⟩ d_Tape_write_26 hlocks
abbrev Qc_T_give (dC : Nat → ClassId) (dI : Nat → Nat → Nat) (cI cB cZ : ClassId) (h0 : Nat) (w : Nat) (a : Nat) (fw : Nat → Int32) (M : List Int32) (x : Int32) (y : Int32) (g : Int32) (t : Int32) (w2 : Nat) (a2 : Nat) (fv : Nat → Int32) (M2 : List Int32) (x2 : Int32) (y2 : Int32) (g2 : Int32) (t2 : Int32) (ro : Nat) (bo : Nat) (fo : Nat → Int32) (O : List Nat) (ri : Nat) (bi : Nat) (fi : Nat → Int32) (I : List Nat) (d : Nat) (q : RS) (pv : Int64) (pn : Int32) (A : Nat → Prop) := va_Qi (fun (r9 : Int32) (u9 : (Nat → Int32) × List Nat) => (r9 = if kGvOk I pn then 1 else 0) ∧ (u9.2 = if kGvOk I pn then I ++ lowB (lNat pv) pn.toNatClampNeg else I) ∧ (BRow 8192 u9.1 u9.2)) (ka (dC, dI) classes [(cI, .int), (cB, .byte), (cZ, .boolean)] (fun (u9 : (Nat → Int32) × List Nat) => [(h0, .inr (0, [.ref w, .ref w2, .ref ro, .ref ri, .ref d])), (w, .inr (1, [.ref a, .int (nI M.length), .int x, .int y, .int g, .int t])), (a, .inl (cI, 1024, .inl fw)), (w2, .inr (1, [.ref a2, .int (nI M2.length), .int x2, .int y2, .int g2, .int t2])), (a2, .inl (cI, 1024, .inl fv)), (ro, .inr (2, [.ref bo, .int (nI O.length)])), (bo, .inl (cB, 4110, .inl fo)), (ri, .inr (2, [.ref bi, .int (nI u9.2.length)])), (bi, .inl (cB, 8192, .inl u9.1)), (d, .inr (3, [.ref ri, .int (nI (rNx q)), .int (nI (rAn q)), .int (rFt q), .int (rPl q)]))]) A) A
set_option maxHeartbeats 1000000 in
set_option maxRecDepth 100000 in
/-- give -/
theorem c_T_give (l : Launch) (dC : Nat → ClassId) (dI : Nat → Nat → Nat) (cI cB cZ : ClassId) (sz : Nat) (h0 : Nat) (w : Nat) (a : Nat) (fw : Nat → Int32) (M : List Int32) (x : Int32) (y : Int32) (g : Int32) (t : Int32) (w2 : Nat) (a2 : Nat) (fv : Nat → Int32) (M2 : List Int32) (x2 : Int32) (y2 : Int32) (g2 : Int32) (t2 : Int32) (ro : Nat) (bo : Nat) (fo : Nat → Int32) (O : List Nat) (ri : Nat) (bi : Nat) (fi : Nat → Int32) (I : List Nat) (d : Nat) (q : RS) (pv : Int64) (pn : Int32) (hW : WRow fw M) (hV : WRow fv M2) (hO : BRow 4110 fo O) (hI : BRow 8192 fi I) : Met l y_Tape_give w_Tape_give ({ frames := 1, cells := 0, slots := 0, locals := 24 }) (va_Pc [.ref h0, .long pv, .int pn] (kp (dC, dI) classes [(cI, .int), (cB, .byte), (cZ, .boolean)] [(h0, .inr (0, [.ref w, .ref w2, .ref ro, .ref ri, .ref d])), (w, .inr (1, [.ref a, .int (nI M.length), .int x, .int y, .int g, .int t])), (a, .inl (cI, 1024, .inl fw)), (w2, .inr (1, [.ref a2, .int (nI M2.length), .int x2, .int y2, .int g2, .int t2])), (a2, .inl (cI, 1024, .inl fv)), (ro, .inr (2, [.ref bo, .int (nI O.length)])), (bo, .inl (cB, 4110, .inl fo)), (ri, .inr (2, [.ref bi, .int (nI I.length)])), (bi, .inl (cB, 8192, .inl fi)), (d, .inr (3, [.ref ri, .int (nI (rNx q)), .int (nI (rAn q)), .int (rFt q), .int (rPl q)]))] sz)) (Qc_T_give dC dI cI cB cZ h0 w a fw M x y g t w2 a2 fv M2 x2 y2 g2 t2 ro bo fo O ri bi fi I d q pv pn (va_A [(h0, .inr (0, [.ref w, .ref w2, .ref ro, .ref ri, .ref d])), (w, .inr (1, [.ref a, .int (nI M.length), .int x, .int y, .int g, .int t])), (a, .inl (cI, 1024, .inl fw)), (w2, .inr (1, [.ref a2, .int (nI M2.length), .int x2, .int y2, .int g2, .int t2])), (a2, .inl (cI, 1024, .inl fv)), (ro, .inr (2, [.ref bo, .int (nI O.length)])), (bo, .inl (cB, 4110, .inl fo)), (ri, .inr (2, [.ref bi, .int (nI I.length)])), (bi, .inl (cB, 8192, .inl fi)), (d, .inr (3, [.ref ri, .int (nI (rNx q)), .int (nI (rAn q)), .int (rFt q), .int (rPl q)]))] sz)) 0 0 (va_A [(h0, .inr (0, [.ref w, .ref w2, .ref ro, .ref ri, .ref d])), (w, .inr (1, [.ref a, .int (nI M.length), .int x, .int y, .int g, .int t])), (a, .inl (cI, 1024, .inl fw)), (w2, .inr (1, [.ref a2, .int (nI M2.length), .int x2, .int y2, .int g2, .int t2])), (a2, .inl (cI, 1024, .inl fv)), (ro, .inr (2, [.ref bo, .int (nI O.length)])), (bo, .inl (cB, 4110, .inl fo)), (ri, .inr (2, [.ref bi, .int (nI I.length)])), (bi, .inl (cB, 8192, .inl fi)), (d, .inr (3, [.ref ri, .int (nI (rNx q)), .int (nI (rAn q)), .int (rFt q), .int (rPl q)]))] sz) := by
  refine Met.ofW (cc := prog_1_method_7_code) (maxL := 4) (ret := (some .boolean)) (by decide) rfl ?_
  intro p e s m args below meth c s₁ B hml hv
  obtain ⟨rfl, hsz, hP, hK, hD0⟩ := hv
  have hx := B.exec
  have hb := B.bytes
  have hr := B.returns
  have hts := fun w h => atoms_spec (ws := w_Tape_give) B.pre w (List.mem_cons_of_mem _ h)
  have hown : s.vm.findClass "DemoTape" = some m.cls := findClass_of_methodNamed B.named
  have hlocks := B.notSynchronized
  subst hsz
  have hD := hD0.self (sz := s.heap.size)
  generalize hAe : va_A ([(h0, .inr (0, [.ref w, .ref w2, .ref ro, .ref ri, .ref d])), (w, .inr (1, [.ref a, .int (nI M.length), .int x, .int y, .int g, .int t])), (a, .inl (cI, 1024, .inl fw)), (w2, .inr (1, [.ref a2, .int (nI M2.length), .int x2, .int y2, .int g2, .int t2])), (a2, .inl (cI, 1024, .inl fv)), (ro, .inr (2, [.ref bo, .int (nI O.length)])), (bo, .inl (cB, 4110, .inl fo)), (ri, .inr (2, [.ref bi, .int (nI I.length)])), (bi, .inl (cB, 8192, .inl fi)), (d, .inr (3, [.ref ri, .int (nI (rNx q)), .int (nI (rAn q)), .int (rFt q), .int (rPl q)]))] : va_W) s.heap.size = A at hD ⊢
  have hA : ∀ q : Nat, s.heap.size ≤ q → A q := fun q h => by rw [← hAe]; exact Or.inr h
  have hS : va_S A s.heap s.heap [] := va_S.rf
  have hP : va_P (dC, dI) classes [(h0, .inr (0, [.ref w, .ref w2, .ref ro, .ref ri, .ref d])), (w, .inr (1, [.ref a, .int (nI M.length), .int x, .int y, .int g, .int t])), (a, .inl (cI, 1024, .inl fw)), (w2, .inr (1, [.ref a2, .int (nI M2.length), .int x2, .int y2, .int g2, .int t2])), (a2, .inl (cI, 1024, .inl fv)), (ro, .inr (2, [.ref bo, .int (nI O.length)])), (bo, .inl (cB, 4110, .inl fo)), (ri, .inr (2, [.ref bi, .int (nI I.length)])), (bi, .inl (cB, 8192, .inl fi)), (d, .inr (3, [.ref ri, .int (nI (rNx q)), .int (nI (rAn q)), .int (rFt q), .int (rPl q)]))] s.heap := hP
  have hM := hW.2
  have hIl := hI.2.2.1
  have hOl := hO.2.2.1
  have hl := lv_entry ([.ref h0, .long pv, .int pn]) (n := 4) (Nat.le_of_ble_eq_true rfl)
  rw [lg_entry_eq]
  generalize (lg_sl ([.ref h0, .long pv, .int pn]) ++ List.replicate (4 - (lg_sl ([.ref h0, .long pv, .int pn])).length) Slot.unset).toArray = ls at hl ⊢
  have hl : lv_has ls 4 [(0, .ref h0), (1, .long pv), (3, .int pn)] := hl
  refine lv_iload_n hx hb d_Tape_give_0 rfl (lv_at hl 2 rfl) ?_
  refine lv_iconst (v := 1) hx hb d_Tape_give_1 (by decide) ?_
  refine lv_bipush (v := 8) hx hb d_Tape_give_2 (by decide) ?_
  refine kq_i (wr := [(h0, .inr (0, [.ref w, .ref w2, .ref ro, .ref ri, .ref d])), (w, .inr (1, [.ref a, .int (nI M.length), .int x, .int y, .int g, .int t])), (a, .inl (cI, 1024, .inl fw)), (w2, .inr (1, [.ref a2, .int (nI M2.length), .int x2, .int y2, .int g2, .int t2])), (a2, .inl (cI, 1024, .inl fv)), (ro, .inr (2, [.ref bo, .int (nI O.length)])), (bo, .inl (cB, 4110, .inl fo)), (ri, .inr (2, [.ref bi, .int (nI I.length)])), (bi, .inl (cB, 8192, .inl fi)), (d, .inr (3, [.ref ri, .int (nI (rNx q)), .int (nI (rAn q)), .int (rFt q), .int (rPl q)]))]) (va_runS (As := [.int pn, .int 1, .int 8]) (rest := []) ⟨hx, hb, hml, hown, hts⟩ (c_D_isWithin l dC dI cI cB cZ _ pn 1 8 ) (va_cwS 3 hts (gS mw126 mw127 mw25 mw128) rfl rfl rfl (by decide +kernel) ⟨Nat.le_of_ble_eq_true rfl, Nat.le_of_ble_eq_true rfl⟩) (kpS (wc := []) hK hP hD [] rfl (by decide) rfl) rfl rfl hl.1 rfl (lv_room (Nat.le_of_ble_eq_true rfl)) d_Tape_give_4 ⟨Nat.le_of_ble_eq_true rfl, Nat.le_of_ble_eq_true rfl⟩) hP hD hS hA [] [0, 1, 2, 3, 4, 5, 6, 7, 8, 9] [0, 1, 2, 3, 4, 5, 6, 7, 8, 9] rfl rfl (by decide) (by decide) rfl (fun r_4 H locs hw hP hS => ?_)
  have e_4 := hw
  refine kt_i e_4 ?_
  refine lv_if_eq (tgt := 21) hx hb d_Tape_give_7 (by decide) (fun c_7 => ?_) (fun c_7 => ?_)
  · refine lv_iconst (v := 0) hx hb d_Tape_give_21 (by decide) ?_
    exact kr_i (v := 0) (fi, I) hx hb hr (by decide) hK (hP.sub [0, 1, 2, 3, 4, 5, 6, 7, 8, 9] (rfl)) (hD.sub [0, 1, 2, 3, 4, 5, 6, 7, 8, 9] (by decide) (rfl)) hS ⟨(if_neg (fun z => z.1 c_7)).symm, (if_neg (fun z => z.1 c_7)).symm, hI⟩ d_Tape_give_22 hlocks
  · obtain ⟨k, hk, rfl⟩ := kIn_nI (n := 8) c_7 (by decide)
    refine lv_iload_n hx hb d_Tape_give_10 rfl (lv_at hl 2 rfl) ?_
    refine lv_aload_n hx hb d_Tape_give_11 rfl (lv_at hl 0 rfl) ?_
    refine va_get (D := (dC, dI)) (ci := 0) (v := .ref ri) (C := "DemoTape") (T := F_Tape) (N := 5) hx hb hts i_Tape hown hK hP 0 rfl rfl 3 (by decide) (hts _ mw109) (fun _ h9 => h9) rfl d_Tape_give_12 ?_
    refine kq_i (wr := [(h0, .inr (0, [.ref w, .ref w2, .ref ro, .ref ri, .ref d])), (w, .inr (1, [.ref a, .int (nI M.length), .int x, .int y, .int g, .int t])), (a, .inl (cI, 1024, .inl fw)), (w2, .inr (1, [.ref a2, .int (nI M2.length), .int x2, .int y2, .int g2, .int t2])), (a2, .inl (cI, 1024, .inl fv)), (ro, .inr (2, [.ref bo, .int (nI O.length)])), (bo, .inl (cB, 4110, .inl fo)), (d, .inr (3, [.ref ri, .int (nI (rNx q)), .int (nI (rAn q)), .int (rFt q), .int (rPl q)]))]) (va_runV (As := []) (rest := [.int (nI k)]) ⟨hx, hb, hml, hown, hts⟩ (c_Row_room l dC dI cI cB cZ _ ri bi 8192 fi I (by first | with_reducible assumption | omega | decide)) (cwV 0 hts (gV mw243 mw244 mw245 mw27 mw246) rfl rfl rfl (by decide +kernel) ⟨Nat.le_of_ble_eq_true rfl, Nat.le_of_ble_eq_true rfl⟩) (kpV (wc := [(ri, .inr (2, [.ref bi, .int (nI I.length)])), (bi, .inl (cB, 8192, .inl fi))]) (q0 := 7) (ci := 2) hK hP hD [7, 8] rfl (by decide) rfl rfl rfl) rfl rfl hl.1 rfl (lv_room (Nat.le_of_ble_eq_true rfl)) d_Tape_give_15 ⟨Nat.le_of_ble_eq_true rfl, Nat.le_of_ble_eq_true rfl⟩) hP hD hS hA [7, 8] [0, 1, 2, 3, 4, 5, 6, 9] [0, 1, 2, 3, 4, 5, 6, 8, 9, 7] rfl rfl (by decide) (by decide) rfl (fun r_15 H locs hw hP hS => ?_)
    have e_15 := hw
    refine kt_i e_15 ?_
    refine lv_icmp_le (tgt := 23) hx hb d_Tape_give_18 (by decide) (fun c_18 => ?_) (fun c_18 => ?_)
    · have n_18 := kn_le (a := k) (b := 8192 - I.length) c_18 rfl rfl (by omega) (by omega)
      refine lv_aload_n hx hb d_Tape_give_23 rfl (lv_at hl 0 rfl) ?_
      refine va_get (D := (dC, dI)) (ci := 0) (v := .ref ri) (C := "DemoTape") (T := F_Tape) (N := 5) hx hb hts i_Tape hown hK hP 0 rfl rfl 3 (by decide) (hts _ mw109) (fun _ h9 => h9) rfl d_Tape_give_24 ?_
      refine lv_lload_n hx hb d_Tape_give_27 rfl (lv_at hl 1 rfl) ?_
      refine lv_iload_n hx hb d_Tape_give_28 rfl (lv_at hl 2 rfl) ?_
      refine kc_v (wr := [(h0, .inr (0, [.ref w, .ref w2, .ref ro, .ref ri, .ref d])), (w, .inr (1, [.ref a, .int (nI M.length), .int x, .int y, .int g, .int t])), (a, .inl (cI, 1024, .inl fw)), (w2, .inr (1, [.ref a2, .int (nI M2.length), .int x2, .int y2, .int g2, .int t2])), (a2, .inl (cI, 1024, .inl fv)), (ro, .inr (2, [.ref bo, .int (nI O.length)])), (bo, .inl (cB, 4110, .inl fo)), (d, .inr (3, [.ref ri, .int (nI (rNx q)), .int (nI (rAn q)), .int (rFt q), .int (rPl q)]))]) (w2 := fun (u9 : (Nat → Int32)) => [(h0, .inr (0, [.ref w, .ref w2, .ref ro, .ref ri, .ref d])), (w, .inr (1, [.ref a, .int (nI M.length), .int x, .int y, .int g, .int t])), (a, .inl (cI, 1024, .inl fw)), (w2, .inr (1, [.ref a2, .int (nI M2.length), .int x2, .int y2, .int g2, .int t2])), (a2, .inl (cI, 1024, .inl fv)), (ro, .inr (2, [.ref bo, .int (nI O.length)])), (bo, .inl (cB, 4110, .inl fo)), (ri, .inr (2, [.ref bi, .int (nI (I ++ lowB (lNat pv) k).length)])), (bi, .inl (cB, 8192, .inl u9)), (d, .inr (3, [.ref ri, .int (nI (rNx q)), .int (nI (rAn q)), .int (rFt q), .int (rPl q)]))]) (va_runV (As := [.long pv, .int (nI k)]) (rest := []) ⟨hx, hb, hml, hown, hts⟩ (c_Row_addLowest l dC dI cI cB cZ _ ri bi 8192 fi I pv k (by first | with_reducible assumption | omega | decide) (by omega) (by omega)) (cwV 2 hts (gV mw247 mw194 mw195 mw27 mw196) rfl rfl rfl (by decide +kernel) ⟨Nat.le_of_ble_eq_true rfl, Nat.le_of_ble_eq_true rfl⟩) (kpV (wc := [(ri, .inr (2, [.ref bi, .int (nI I.length)])), (bi, .inl (cB, 8192, .inl fi))]) (q0 := 7) (ci := 2) hK hP hD [7, 8] rfl (by decide) rfl rfl rfl) rfl rfl hl.1 rfl (lv_room (Nat.le_of_ble_eq_true rfl)) d_Tape_give_29 ⟨Nat.le_of_ble_eq_true rfl, Nat.le_of_ble_eq_true rfl⟩) hP hD hS hA [7, 8] [0, 1, 2, 3, 4, 5, 6, 9] [0, 1, 2, 3, 4, 5, 6, 8, 9, 7] rfl rfl (by decide) (by decide) (fun _ => rfl) (by decide) (fun _ => rfl) (fun u9 H locs hw hP hD hS => ?_)
      obtain ⟨f1_29, rfl⟩ : ∃ z, z = u9 := ⟨_, rfl⟩
      try dsimp only at hw
      have hP : va_P (dC, dI) classes [(h0, .inr (0, [.ref w, .ref w2, .ref ro, .ref ri, .ref d])), (w, .inr (1, [.ref a, .int (nI M.length), .int x, .int y, .int g, .int t])), (a, .inl (cI, 1024, .inl fw)), (w2, .inr (1, [.ref a2, .int (nI M2.length), .int x2, .int y2, .int g2, .int t2])), (a2, .inl (cI, 1024, .inl fv)), (ro, .inr (2, [.ref bo, .int (nI O.length)])), (bo, .inl (cB, 4110, .inl fo)), (ri, .inr (2, [.ref bi, .int (nI (I ++ lowB (lNat pv) k).length)])), (bi, .inl (cB, 8192, .inl f1_29)), (d, .inr (3, [.ref ri, .int (nI (rNx q)), .int (nI (rAn q)), .int (rFt q), .int (rPl q)]))] H := hP
      have hD : va_D A [(h0, .inr (0, [.ref w, .ref w2, .ref ro, .ref ri, .ref d])), (w, .inr (1, [.ref a, .int (nI M.length), .int x, .int y, .int g, .int t])), (a, .inl (cI, 1024, .inl fw)), (w2, .inr (1, [.ref a2, .int (nI M2.length), .int x2, .int y2, .int g2, .int t2])), (a2, .inl (cI, 1024, .inl fv)), (ro, .inr (2, [.ref bo, .int (nI O.length)])), (bo, .inl (cB, 4110, .inl fo)), (ri, .inr (2, [.ref bi, .int (nI (I ++ lowB (lNat pv) k).length)])), (bi, .inl (cB, 8192, .inl f1_29)), (d, .inr (3, [.ref ri, .int (nI (rNx q)), .int (nI (rAn q)), .int (rFt q), .int (rPl q)]))] := hD
      have hB_29 := hw
      refine lv_iconst (v := 1) hx hb d_Tape_give_32 (by decide) ?_
      exact kr_i (v := 1) (f1_29, I ++ lowB (lNat pv) k) hx hb hr (by decide) hK (hP.sub [0, 1, 2, 3, 4, 5, 6, 7, 8, 9] (rfl)) (hD.sub [0, 1, 2, 3, 4, 5, 6, 7, 8, 9] (by decide) (rfl)) hS ⟨(if_pos ⟨c_7, c_18⟩).symm, by rw [if_pos ⟨c_7, c_18⟩, nI_clamp (by omega)], hB_29⟩ d_Tape_give_33 hlocks
    · have n_18 := kn_nle (a := k) (b := 8192 - I.length) c_18 rfl rfl (by omega) (by omega)
      refine lv_iconst (v := 0) hx hb d_Tape_give_21 (by decide) ?_
      exact kr_i (v := 0) (fi, I) hx hb hr (by decide) hK (hP.sub [0, 1, 2, 3, 4, 5, 6, 7, 8, 9] (rfl)) (hD.sub [0, 1, 2, 3, 4, 5, 6, 7, 8, 9] (by decide) (rfl)) hS ⟨(if_neg (fun z => c_18 z.2)).symm, (if_neg (fun z => c_18 z.2)).symm, hI⟩ d_Tape_give_22 hlocks
abbrev Qc_T_turnOver (dC : Nat → ClassId) (dI : Nat → Nat → Nat) (cI cB cZ : ClassId) (h0 : Nat) (w : Nat) (a : Nat) (fw : Nat → Int32) (M : List Int32) (x : Int32) (y : Int32) (g : Int32) (t : Int32) (w2 : Nat) (a2 : Nat) (fv : Nat → Int32) (M2 : List Int32) (x2 : Int32) (y2 : Int32) (g2 : Int32) (t2 : Int32) (ro : Nat) (bo : Nat) (fo : Nat → Int32) (O : List Nat) (ri : Nat) (bi : Nat) (fi : Nat → Int32) (I : List Nat) (d : Nat) (q : RS) (A : Nat → Prop) := va_Qv (fun (u9 : (Nat → Int32)) => (BRow 8192 u9 O)) (ka (dC, dI) classes [(cI, .int), (cB, .byte), (cZ, .boolean)] (fun (u9 : (Nat → Int32)) => [(h0, .inr (0, [.ref w, .ref w2, .ref ro, .ref ri, .ref d])), (w, .inr (1, [.ref a, .int (nI M.length), .int x, .int y, .int g, .int t])), (a, .inl (cI, 1024, .inl fw)), (w2, .inr (1, [.ref a2, .int (nI M2.length), .int x2, .int y2, .int g2, .int t2])), (a2, .inl (cI, 1024, .inl fv)), (ro, .inr (2, [.ref bo, .int (nI O.length)])), (bo, .inl (cB, 4110, .inl fo)), (ri, .inr (2, [.ref bi, .int (nI O.length)])), (bi, .inl (cB, 8192, .inl u9)), (d, .inr (3, [.ref ri, .int (nI (rNx q)), .int (nI (rAn q)), .int (rFt q), .int (rPl q)]))]) A) A
set_option maxHeartbeats 1000000 in
set_option maxRecDepth 100000 in
/-- turnOver -/
theorem c_T_turnOver (l : Launch) (dC : Nat → ClassId) (dI : Nat → Nat → Nat) (cI cB cZ : ClassId) (sz : Nat) (h0 : Nat) (w : Nat) (a : Nat) (fw : Nat → Int32) (M : List Int32) (x : Int32) (y : Int32) (g : Int32) (t : Int32) (w2 : Nat) (a2 : Nat) (fv : Nat → Int32) (M2 : List Int32) (x2 : Int32) (y2 : Int32) (g2 : Int32) (t2 : Int32) (ro : Nat) (bo : Nat) (fo : Nat → Int32) (O : List Nat) (ri : Nat) (bi : Nat) (fi : Nat → Int32) (I : List Nat) (d : Nat) (q : RS) (hW : WRow fw M) (hV : WRow fv M2) (hO : BRow 4110 fo O) (hI : BRow 8192 fi I) : Met l y_Tape_turnOver w_Tape_turnOver ({ frames := 2, cells := 0, slots := 0, locals := 61 }) (va_Pc [.ref h0] (kp (dC, dI) classes [(cI, .int), (cB, .byte), (cZ, .boolean)] [(h0, .inr (0, [.ref w, .ref w2, .ref ro, .ref ri, .ref d])), (w, .inr (1, [.ref a, .int (nI M.length), .int x, .int y, .int g, .int t])), (a, .inl (cI, 1024, .inl fw)), (w2, .inr (1, [.ref a2, .int (nI M2.length), .int x2, .int y2, .int g2, .int t2])), (a2, .inl (cI, 1024, .inl fv)), (ro, .inr (2, [.ref bo, .int (nI O.length)])), (bo, .inl (cB, 4110, .inl fo)), (ri, .inr (2, [.ref bi, .int (nI I.length)])), (bi, .inl (cB, 8192, .inl fi)), (d, .inr (3, [.ref ri, .int (nI (rNx q)), .int (nI (rAn q)), .int (rFt q), .int (rPl q)]))] sz)) (Qc_T_turnOver dC dI cI cB cZ h0 w a fw M x y g t w2 a2 fv M2 x2 y2 g2 t2 ro bo fo O ri bi fi I d q (va_A [(h0, .inr (0, [.ref w, .ref w2, .ref ro, .ref ri, .ref d])), (w, .inr (1, [.ref a, .int (nI M.length), .int x, .int y, .int g, .int t])), (a, .inl (cI, 1024, .inl fw)), (w2, .inr (1, [.ref a2, .int (nI M2.length), .int x2, .int y2, .int g2, .int t2])), (a2, .inl (cI, 1024, .inl fv)), (ro, .inr (2, [.ref bo, .int (nI O.length)])), (bo, .inl (cB, 4110, .inl fo)), (ri, .inr (2, [.ref bi, .int (nI I.length)])), (bi, .inl (cB, 8192, .inl fi)), (d, .inr (3, [.ref ri, .int (nI (rNx q)), .int (nI (rAn q)), .int (rFt q), .int (rPl q)]))] sz)) 0 0 (va_A [(h0, .inr (0, [.ref w, .ref w2, .ref ro, .ref ri, .ref d])), (w, .inr (1, [.ref a, .int (nI M.length), .int x, .int y, .int g, .int t])), (a, .inl (cI, 1024, .inl fw)), (w2, .inr (1, [.ref a2, .int (nI M2.length), .int x2, .int y2, .int g2, .int t2])), (a2, .inl (cI, 1024, .inl fv)), (ro, .inr (2, [.ref bo, .int (nI O.length)])), (bo, .inl (cB, 4110, .inl fo)), (ri, .inr (2, [.ref bi, .int (nI I.length)])), (bi, .inl (cB, 8192, .inl fi)), (d, .inr (3, [.ref ri, .int (nI (rNx q)), .int (nI (rAn q)), .int (rFt q), .int (rPl q)]))] sz) := by
  refine Met.ofW (cc := prog_1_method_8_code) (maxL := 1) (ret := none) (by decide) rfl ?_
  intro p e s m args below meth c s₁ B hml hv
  obtain ⟨rfl, hsz, hP, hK, hD0⟩ := hv
  have hx := B.exec
  have hb := B.bytes
  have hr := B.returns
  have hts := fun w h => atoms_spec (ws := w_Tape_turnOver) B.pre w (List.mem_cons_of_mem _ h)
  have hown : s.vm.findClass "DemoTape" = some m.cls := findClass_of_methodNamed B.named
  have hlocks := B.notSynchronized
  subst hsz
  have hD := hD0.self (sz := s.heap.size)
  generalize hAe : va_A ([(h0, .inr (0, [.ref w, .ref w2, .ref ro, .ref ri, .ref d])), (w, .inr (1, [.ref a, .int (nI M.length), .int x, .int y, .int g, .int t])), (a, .inl (cI, 1024, .inl fw)), (w2, .inr (1, [.ref a2, .int (nI M2.length), .int x2, .int y2, .int g2, .int t2])), (a2, .inl (cI, 1024, .inl fv)), (ro, .inr (2, [.ref bo, .int (nI O.length)])), (bo, .inl (cB, 4110, .inl fo)), (ri, .inr (2, [.ref bi, .int (nI I.length)])), (bi, .inl (cB, 8192, .inl fi)), (d, .inr (3, [.ref ri, .int (nI (rNx q)), .int (nI (rAn q)), .int (rFt q), .int (rPl q)]))] : va_W) s.heap.size = A at hD ⊢
  have hA : ∀ q : Nat, s.heap.size ≤ q → A q := fun q h => by rw [← hAe]; exact Or.inr h
  have hS : va_S A s.heap s.heap [] := va_S.rf
  have hP : va_P (dC, dI) classes [(h0, .inr (0, [.ref w, .ref w2, .ref ro, .ref ri, .ref d])), (w, .inr (1, [.ref a, .int (nI M.length), .int x, .int y, .int g, .int t])), (a, .inl (cI, 1024, .inl fw)), (w2, .inr (1, [.ref a2, .int (nI M2.length), .int x2, .int y2, .int g2, .int t2])), (a2, .inl (cI, 1024, .inl fv)), (ro, .inr (2, [.ref bo, .int (nI O.length)])), (bo, .inl (cB, 4110, .inl fo)), (ri, .inr (2, [.ref bi, .int (nI I.length)])), (bi, .inl (cB, 8192, .inl fi)), (d, .inr (3, [.ref ri, .int (nI (rNx q)), .int (nI (rAn q)), .int (rFt q), .int (rPl q)]))] s.heap := hP
  have hM := hW.2
  have hIl := hI.2.2.1
  have hOl := hO.2.2.1
  have hl := lv_entry ([.ref h0]) (n := 1) (Nat.le_of_ble_eq_true rfl)
  rw [lg_entry_eq]
  generalize (lg_sl ([.ref h0]) ++ List.replicate (1 - (lg_sl ([.ref h0])).length) Slot.unset).toArray = ls at hl ⊢
  have hl : lv_has ls 1 [(0, .ref h0)] := hl
  refine lv_aload_n hx hb d_Tape_turnOver_0 rfl (lv_at hl 0 rfl) ?_
  refine va_get (D := (dC, dI)) (ci := 0) (v := .ref ri) (C := "DemoTape") (T := F_Tape) (N := 5) hx hb hts i_Tape hown hK hP 0 rfl rfl 3 (by decide) (hts _ mw109) (fun _ h9 => h9) rfl d_Tape_turnOver_1 ?_
  refine lv_aload_n hx hb d_Tape_turnOver_4 rfl (lv_at hl 0 rfl) ?_
  refine va_get (D := (dC, dI)) (ci := 0) (v := .ref ro) (C := "DemoTape") (T := F_Tape) (N := 5) hx hb hts i_Tape hown hK hP 0 rfl rfl 2 (by decide) (hts _ mw108) (fun _ h9 => h9) rfl d_Tape_turnOver_5 ?_
  refine kc_v (wr := [(h0, .inr (0, [.ref w, .ref w2, .ref ro, .ref ri, .ref d])), (w, .inr (1, [.ref a, .int (nI M.length), .int x, .int y, .int g, .int t])), (a, .inl (cI, 1024, .inl fw)), (w2, .inr (1, [.ref a2, .int (nI M2.length), .int x2, .int y2, .int g2, .int t2])), (a2, .inl (cI, 1024, .inl fv)), (d, .inr (3, [.ref ri, .int (nI (rNx q)), .int (nI (rAn q)), .int (rFt q), .int (rPl q)]))]) (w2 := fun (u9 : (Nat → Int32)) => [(h0, .inr (0, [.ref w, .ref w2, .ref ro, .ref ri, .ref d])), (w, .inr (1, [.ref a, .int (nI M.length), .int x, .int y, .int g, .int t])), (a, .inl (cI, 1024, .inl fw)), (w2, .inr (1, [.ref a2, .int (nI M2.length), .int x2, .int y2, .int g2, .int t2])), (a2, .inl (cI, 1024, .inl fv)), (ro, .inr (2, [.ref bo, .int (nI O.length)])), (bo, .inl (cB, 4110, .inl fo)), (ri, .inr (2, [.ref bi, .int (nI O.length)])), (bi, .inl (cB, 8192, .inl u9)), (d, .inr (3, [.ref ri, .int (nI (rNx q)), .int (nI (rAn q)), .int (rFt q), .int (rPl q)]))]) (va_runV (As := [.ref ro]) (rest := []) ⟨hx, hb, hml, hown, hts⟩ (c_Row_become l dC dI cI cB cZ _ ri bi 8192 fi I ro bo 4110 fo O (by first | with_reducible assumption | omega | decide) (by first | with_reducible assumption | omega | decide) (by omega)) (cwV 1 hts (gV mw252 mw253 mw254 mw27 mw255) rfl rfl rfl (by decide +kernel) ⟨Nat.le_of_ble_eq_true rfl, Nat.le_of_ble_eq_true rfl⟩) (kpV (wc := [(ri, .inr (2, [.ref bi, .int (nI I.length)])), (bi, .inl (cB, 8192, .inl fi)), (ro, .inr (2, [.ref bo, .int (nI O.length)])), (bo, .inl (cB, 4110, .inl fo))]) (q0 := 7) (ci := 2) hK hP hD [7, 8, 5, 6] rfl (by decide) rfl rfl rfl) rfl rfl hl.1 rfl (lv_room (Nat.le_of_ble_eq_true rfl)) d_Tape_turnOver_8 ⟨Nat.le_of_ble_eq_true rfl, Nat.le_of_ble_eq_true rfl⟩) hP hD hS hA [7, 8, 5, 6] [0, 1, 2, 3, 4, 9] [0, 1, 2, 3, 4, 8, 9, 6, 7, 5] rfl rfl (by decide) (by decide) (fun _ => rfl) (by decide) (fun _ => rfl) (fun u9 H locs hw hP hD hS => ?_)
  obtain ⟨f1_8, rfl⟩ : ∃ z, z = u9 := ⟨_, rfl⟩
  try dsimp only at hw
  have hP : va_P (dC, dI) classes [(h0, .inr (0, [.ref w, .ref w2, .ref ro, .ref ri, .ref d])), (w, .inr (1, [.ref a, .int (nI M.length), .int x, .int y, .int g, .int t])), (a, .inl (cI, 1024, .inl fw)), (w2, .inr (1, [.ref a2, .int (nI M2.length), .int x2, .int y2, .int g2, .int t2])), (a2, .inl (cI, 1024, .inl fv)), (ro, .inr (2, [.ref bo, .int (nI O.length)])), (bo, .inl (cB, 4110, .inl fo)), (ri, .inr (2, [.ref bi, .int (nI O.length)])), (bi, .inl (cB, 8192, .inl f1_8)), (d, .inr (3, [.ref ri, .int (nI (rNx q)), .int (nI (rAn q)), .int (rFt q), .int (rPl q)]))] H := hP
  have hD : va_D A [(h0, .inr (0, [.ref w, .ref w2, .ref ro, .ref ri, .ref d])), (w, .inr (1, [.ref a, .int (nI M.length), .int x, .int y, .int g, .int t])), (a, .inl (cI, 1024, .inl fw)), (w2, .inr (1, [.ref a2, .int (nI M2.length), .int x2, .int y2, .int g2, .int t2])), (a2, .inl (cI, 1024, .inl fv)), (ro, .inr (2, [.ref bo, .int (nI O.length)])), (bo, .inl (cB, 4110, .inl fo)), (ri, .inr (2, [.ref bi, .int (nI O.length)])), (bi, .inl (cB, 8192, .inl f1_8)), (d, .inr (3, [.ref ri, .int (nI (rNx q)), .int (nI (rAn q)), .int (rFt q), .int (rPl q)]))] := hD
  have hB_8 := hw
  exact kr_v f1_8 hx hb hr hK (hP.sub [0, 1, 2, 3, 4, 5, 6, 7, 8, 9] (rfl)) (hD.sub [0, 1, 2, 3, 4, 5, 6, 7, 8, 9] (by decide) (rfl)) hS (hB_8) d_Tape_turnOver_11 hlocks
abbrev Qc_T_cut (dC : Nat → ClassId) (dI : Nat → Nat → Nat) (cI cB cZ : ClassId) (h0 : Nat) (w : Nat) (a : Nat) (fw : Nat → Int32) (M : List Int32) (x : Int32) (y : Int32) (g : Int32) (t : Int32) (w2 : Nat) (a2 : Nat) (fv : Nat → Int32) (M2 : List Int32) (x2 : Int32) (y2 : Int32) (g2 : Int32) (t2 : Int32) (ro : Nat) (bo : Nat) (fo : Nat → Int32) (O : List Nat) (ri : Nat) (bi : Nat) (fi : Nat → Int32) (I : List Nat) (d : Nat) (q : RS) (pn : Int32) (A : Nat → Prop) := va_Qi (fun (r9 : Int32) (u9 : List Nat) => (r9 = if kIn pn 0 (nI I.length) = 0 then 0 else 1) ∧ (u9 = if kIn pn 0 (nI I.length) = 0 then I else I.take pn.toNatClampNeg) ∧ (BRow 8192 fi u9)) (ka (dC, dI) classes [(cI, .int), (cB, .byte), (cZ, .boolean)] (fun (u9 : List Nat) => [(h0, .inr (0, [.ref w, .ref w2, .ref ro, .ref ri, .ref d])), (w, .inr (1, [.ref a, .int (nI M.length), .int x, .int y, .int g, .int t])), (a, .inl (cI, 1024, .inl fw)), (w2, .inr (1, [.ref a2, .int (nI M2.length), .int x2, .int y2, .int g2, .int t2])), (a2, .inl (cI, 1024, .inl fv)), (ro, .inr (2, [.ref bo, .int (nI O.length)])), (bo, .inl (cB, 4110, .inl fo)), (ri, .inr (2, [.ref bi, .int (nI u9.length)])), (bi, .inl (cB, 8192, .inl fi)), (d, .inr (3, [.ref ri, .int (nI (rNx q)), .int (nI (rAn q)), .int (rFt q), .int (rPl q)]))]) A) A
set_option maxHeartbeats 1000000 in
set_option maxRecDepth 100000 in
/-- cut -/
theorem c_T_cut (l : Launch) (dC : Nat → ClassId) (dI : Nat → Nat → Nat) (cI cB cZ : ClassId) (sz : Nat) (h0 : Nat) (w : Nat) (a : Nat) (fw : Nat → Int32) (M : List Int32) (x : Int32) (y : Int32) (g : Int32) (t : Int32) (w2 : Nat) (a2 : Nat) (fv : Nat → Int32) (M2 : List Int32) (x2 : Int32) (y2 : Int32) (g2 : Int32) (t2 : Int32) (ro : Nat) (bo : Nat) (fo : Nat → Int32) (O : List Nat) (ri : Nat) (bi : Nat) (fi : Nat → Int32) (I : List Nat) (d : Nat) (q : RS) (pn : Int32) (hW : WRow fw M) (hV : WRow fv M2) (hO : BRow 4110 fo O) (hI : BRow 8192 fi I) : Met l y_Tape_cut w_Tape_cut ({ frames := 2, cells := 0, slots := 0, locals := 35 }) (va_Pc [.ref h0, .int pn] (kp (dC, dI) classes [(cI, .int), (cB, .byte), (cZ, .boolean)] [(h0, .inr (0, [.ref w, .ref w2, .ref ro, .ref ri, .ref d])), (w, .inr (1, [.ref a, .int (nI M.length), .int x, .int y, .int g, .int t])), (a, .inl (cI, 1024, .inl fw)), (w2, .inr (1, [.ref a2, .int (nI M2.length), .int x2, .int y2, .int g2, .int t2])), (a2, .inl (cI, 1024, .inl fv)), (ro, .inr (2, [.ref bo, .int (nI O.length)])), (bo, .inl (cB, 4110, .inl fo)), (ri, .inr (2, [.ref bi, .int (nI I.length)])), (bi, .inl (cB, 8192, .inl fi)), (d, .inr (3, [.ref ri, .int (nI (rNx q)), .int (nI (rAn q)), .int (rFt q), .int (rPl q)]))] sz)) (Qc_T_cut dC dI cI cB cZ h0 w a fw M x y g t w2 a2 fv M2 x2 y2 g2 t2 ro bo fo O ri bi fi I d q pn (va_A [(h0, .inr (0, [.ref w, .ref w2, .ref ro, .ref ri, .ref d])), (w, .inr (1, [.ref a, .int (nI M.length), .int x, .int y, .int g, .int t])), (a, .inl (cI, 1024, .inl fw)), (w2, .inr (1, [.ref a2, .int (nI M2.length), .int x2, .int y2, .int g2, .int t2])), (a2, .inl (cI, 1024, .inl fv)), (ro, .inr (2, [.ref bo, .int (nI O.length)])), (bo, .inl (cB, 4110, .inl fo)), (ri, .inr (2, [.ref bi, .int (nI I.length)])), (bi, .inl (cB, 8192, .inl fi)), (d, .inr (3, [.ref ri, .int (nI (rNx q)), .int (nI (rAn q)), .int (rFt q), .int (rPl q)]))] sz)) 0 0 (va_A [(h0, .inr (0, [.ref w, .ref w2, .ref ro, .ref ri, .ref d])), (w, .inr (1, [.ref a, .int (nI M.length), .int x, .int y, .int g, .int t])), (a, .inl (cI, 1024, .inl fw)), (w2, .inr (1, [.ref a2, .int (nI M2.length), .int x2, .int y2, .int g2, .int t2])), (a2, .inl (cI, 1024, .inl fv)), (ro, .inr (2, [.ref bo, .int (nI O.length)])), (bo, .inl (cB, 4110, .inl fo)), (ri, .inr (2, [.ref bi, .int (nI I.length)])), (bi, .inl (cB, 8192, .inl fi)), (d, .inr (3, [.ref ri, .int (nI (rNx q)), .int (nI (rAn q)), .int (rFt q), .int (rPl q)]))] sz) := by
  refine Met.ofW (cc := prog_1_method_9_code) (maxL := 2) (ret := (some .boolean)) (by decide) rfl ?_
  intro p e s m args below meth c s₁ B hml hv
  obtain ⟨rfl, hsz, hP, hK, hD0⟩ := hv
  have hx := B.exec
  have hb := B.bytes
  have hr := B.returns
  have hts := fun w h => atoms_spec (ws := w_Tape_cut) B.pre w (List.mem_cons_of_mem _ h)
  have hown : s.vm.findClass "DemoTape" = some m.cls := findClass_of_methodNamed B.named
  have hlocks := B.notSynchronized
  subst hsz
  have hD := hD0.self (sz := s.heap.size)
  generalize hAe : va_A ([(h0, .inr (0, [.ref w, .ref w2, .ref ro, .ref ri, .ref d])), (w, .inr (1, [.ref a, .int (nI M.length), .int x, .int y, .int g, .int t])), (a, .inl (cI, 1024, .inl fw)), (w2, .inr (1, [.ref a2, .int (nI M2.length), .int x2, .int y2, .int g2, .int t2])), (a2, .inl (cI, 1024, .inl fv)), (ro, .inr (2, [.ref bo, .int (nI O.length)])), (bo, .inl (cB, 4110, .inl fo)), (ri, .inr (2, [.ref bi, .int (nI I.length)])), (bi, .inl (cB, 8192, .inl fi)), (d, .inr (3, [.ref ri, .int (nI (rNx q)), .int (nI (rAn q)), .int (rFt q), .int (rPl q)]))] : va_W) s.heap.size = A at hD ⊢
  have hA : ∀ q : Nat, s.heap.size ≤ q → A q := fun q h => by rw [← hAe]; exact Or.inr h
  have hS : va_S A s.heap s.heap [] := va_S.rf
  have hP : va_P (dC, dI) classes [(h0, .inr (0, [.ref w, .ref w2, .ref ro, .ref ri, .ref d])), (w, .inr (1, [.ref a, .int (nI M.length), .int x, .int y, .int g, .int t])), (a, .inl (cI, 1024, .inl fw)), (w2, .inr (1, [.ref a2, .int (nI M2.length), .int x2, .int y2, .int g2, .int t2])), (a2, .inl (cI, 1024, .inl fv)), (ro, .inr (2, [.ref bo, .int (nI O.length)])), (bo, .inl (cB, 4110, .inl fo)), (ri, .inr (2, [.ref bi, .int (nI I.length)])), (bi, .inl (cB, 8192, .inl fi)), (d, .inr (3, [.ref ri, .int (nI (rNx q)), .int (nI (rAn q)), .int (rFt q), .int (rPl q)]))] s.heap := hP
  have hM := hW.2
  have hIl := hI.2.2.1
  have hOl := hO.2.2.1
  have hl := lv_entry ([.ref h0, .int pn]) (n := 2) (Nat.le_of_ble_eq_true rfl)
  rw [lg_entry_eq]
  generalize (lg_sl ([.ref h0, .int pn]) ++ List.replicate (2 - (lg_sl ([.ref h0, .int pn])).length) Slot.unset).toArray = ls at hl ⊢
  have hl : lv_has ls 2 [(0, .ref h0), (1, .int pn)] := hl
  refine lv_iload_n hx hb d_Tape_cut_0 rfl (lv_at hl 1 rfl) ?_
  refine lv_iconst (v := 0) hx hb d_Tape_cut_1 (by decide) ?_
  refine lv_aload_n hx hb d_Tape_cut_2 rfl (lv_at hl 0 rfl) ?_
  refine va_get (D := (dC, dI)) (ci := 0) (v := .ref ri) (C := "DemoTape") (T := F_Tape) (N := 5) hx hb hts i_Tape hown hK hP 0 rfl rfl 3 (by decide) (hts _ mw109) (fun _ h9 => h9) rfl d_Tape_cut_3 ?_
  refine kq_i (wr := [(h0, .inr (0, [.ref w, .ref w2, .ref ro, .ref ri, .ref d])), (w, .inr (1, [.ref a, .int (nI M.length), .int x, .int y, .int g, .int t])), (a, .inl (cI, 1024, .inl fw)), (w2, .inr (1, [.ref a2, .int (nI M2.length), .int x2, .int y2, .int g2, .int t2])), (a2, .inl (cI, 1024, .inl fv)), (ro, .inr (2, [.ref bo, .int (nI O.length)])), (bo, .inl (cB, 4110, .inl fo)), (d, .inr (3, [.ref ri, .int (nI (rNx q)), .int (nI (rAn q)), .int (rFt q), .int (rPl q)]))]) (va_runV (As := []) (rest := [.int 0, .int pn]) ⟨hx, hb, hml, hown, hts⟩ (c_Row_size l dC dI cI cB cZ _ ri bi 8192 fi I ) (cwV 0 hts (gV mw238 mw226 mw227 mw27 mw228) rfl rfl rfl (by decide +kernel) ⟨Nat.le_of_ble_eq_true rfl, Nat.le_of_ble_eq_true rfl⟩) (kpV (wc := [(ri, .inr (2, [.ref bi, .int (nI I.length)])), (bi, .inl (cB, 8192, .inl fi))]) (q0 := 7) (ci := 2) hK hP hD [7, 8] rfl (by decide) rfl rfl rfl) rfl rfl hl.1 rfl (lv_room (Nat.le_of_ble_eq_true rfl)) d_Tape_cut_6 ⟨Nat.le_of_ble_eq_true rfl, Nat.le_of_ble_eq_true rfl⟩) hP hD hS hA [7, 8] [0, 1, 2, 3, 4, 5, 6, 9] [0, 1, 2, 3, 4, 5, 6, 8, 9, 7] rfl rfl (by decide) (by decide) rfl (fun r_6 H locs hw hP hS => ?_)
  have e_6 := hw
  refine kt_i e_6 ?_
  refine kq_i (wr := [(h0, .inr (0, [.ref w, .ref w2, .ref ro, .ref ri, .ref d])), (w, .inr (1, [.ref a, .int (nI M.length), .int x, .int y, .int g, .int t])), (a, .inl (cI, 1024, .inl fw)), (w2, .inr (1, [.ref a2, .int (nI M2.length), .int x2, .int y2, .int g2, .int t2])), (a2, .inl (cI, 1024, .inl fv)), (ro, .inr (2, [.ref bo, .int (nI O.length)])), (bo, .inl (cB, 4110, .inl fo)), (ri, .inr (2, [.ref bi, .int (nI I.length)])), (bi, .inl (cB, 8192, .inl fi)), (d, .inr (3, [.ref ri, .int (nI (rNx q)), .int (nI (rAn q)), .int (rFt q), .int (rPl q)]))]) (va_runS (As := [.int pn, .int 0, .int (nI I.length)]) (rest := []) ⟨hx, hb, hml, hown, hts⟩ (c_D_isWithin l dC dI cI cB cZ _ pn 0 (nI I.length) ) (va_cwS 3 hts (gS mw126 mw127 mw25 mw128) rfl rfl rfl (by decide +kernel) ⟨Nat.le_of_ble_eq_true rfl, Nat.le_of_ble_eq_true rfl⟩) (kpS (wc := []) hK hP hD [] rfl (by decide) rfl) rfl rfl hl.1 rfl (lv_room (Nat.le_of_ble_eq_true rfl)) d_Tape_cut_9 ⟨Nat.le_of_ble_eq_true rfl, Nat.le_of_ble_eq_true rfl⟩) hP hD hS hA [] [0, 1, 2, 3, 4, 5, 6, 7, 8, 9] [0, 1, 2, 3, 4, 5, 6, 7, 8, 9] rfl rfl (by decide) (by decide) rfl (fun r_9 H locs hw hP hS => ?_)
  have e_9 := hw
  refine kt_i e_9 ?_
  refine lv_if_ne (tgt := 17) hx hb d_Tape_cut_12 (by decide) (fun c_12 => ?_) (fun c_12 => ?_)
  · obtain ⟨k, hk, rfl⟩ := kIn_nI0 c_12 (by omega)
    refine lv_aload_n hx hb d_Tape_cut_17 rfl (lv_at hl 0 rfl) ?_
    refine va_get (D := (dC, dI)) (ci := 0) (v := .ref ri) (C := "DemoTape") (T := F_Tape) (N := 5) hx hb hts i_Tape hown hK hP 0 rfl rfl 3 (by decide) (hts _ mw109) (fun _ h9 => h9) rfl d_Tape_cut_18 ?_
    refine lv_iload_n hx hb d_Tape_cut_21 rfl (lv_at hl 1 rfl) ?_
    refine kc_v (wr := [(h0, .inr (0, [.ref w, .ref w2, .ref ro, .ref ri, .ref d])), (w, .inr (1, [.ref a, .int (nI M.length), .int x, .int y, .int g, .int t])), (a, .inl (cI, 1024, .inl fw)), (w2, .inr (1, [.ref a2, .int (nI M2.length), .int x2, .int y2, .int g2, .int t2])), (a2, .inl (cI, 1024, .inl fv)), (ro, .inr (2, [.ref bo, .int (nI O.length)])), (bo, .inl (cB, 4110, .inl fo)), (d, .inr (3, [.ref ri, .int (nI (rNx q)), .int (nI (rAn q)), .int (rFt q), .int (rPl q)]))]) (w2 := fun (_ : Unit) => [(h0, .inr (0, [.ref w, .ref w2, .ref ro, .ref ri, .ref d])), (w, .inr (1, [.ref a, .int (nI M.length), .int x, .int y, .int g, .int t])), (a, .inl (cI, 1024, .inl fw)), (w2, .inr (1, [.ref a2, .int (nI M2.length), .int x2, .int y2, .int g2, .int t2])), (a2, .inl (cI, 1024, .inl fv)), (ro, .inr (2, [.ref bo, .int (nI O.length)])), (bo, .inl (cB, 4110, .inl fo)), (ri, .inr (2, [.ref bi, .int (nI (I.take k).length)])), (bi, .inl (cB, 8192, .inl fi)), (d, .inr (3, [.ref ri, .int (nI (rNx q)), .int (nI (rAn q)), .int (rFt q), .int (rPl q)]))]) (va_runV (As := [.int (nI k)]) (rest := []) ⟨hx, hb, hml, hown, hts⟩ (c_Row_keepFirst l dC dI cI cB cZ _ ri bi 8192 fi I k (by first | with_reducible assumption | omega | decide) (hk)) (cwV 1 hts (gV mw182 mw183 mw184 mw27 mw185) rfl rfl rfl (by decide +kernel) ⟨Nat.le_of_ble_eq_true rfl, Nat.le_of_ble_eq_true rfl⟩) (kpV (wc := [(ri, .inr (2, [.ref bi, .int (nI I.length)])), (bi, .inl (cB, 8192, .inl fi))]) (q0 := 7) (ci := 2) hK hP hD [7, 8] rfl (by decide) rfl rfl rfl) rfl rfl hl.1 rfl (lv_room (Nat.le_of_ble_eq_true rfl)) d_Tape_cut_22 ⟨Nat.le_of_ble_eq_true rfl, Nat.le_of_ble_eq_true rfl⟩) hP hD hS hA [7, 8] [0, 1, 2, 3, 4, 5, 6, 9] [0, 1, 2, 3, 4, 5, 6, 8, 9, 7] rfl rfl (by decide) (by decide) (fun _ => rfl) (by decide) (fun _ => rfl) (fun u9 H locs hw hP hD hS => ?_)
    have hP : va_P (dC, dI) classes [(h0, .inr (0, [.ref w, .ref w2, .ref ro, .ref ri, .ref d])), (w, .inr (1, [.ref a, .int (nI M.length), .int x, .int y, .int g, .int t])), (a, .inl (cI, 1024, .inl fw)), (w2, .inr (1, [.ref a2, .int (nI M2.length), .int x2, .int y2, .int g2, .int t2])), (a2, .inl (cI, 1024, .inl fv)), (ro, .inr (2, [.ref bo, .int (nI O.length)])), (bo, .inl (cB, 4110, .inl fo)), (ri, .inr (2, [.ref bi, .int (nI (I.take k).length)])), (bi, .inl (cB, 8192, .inl fi)), (d, .inr (3, [.ref ri, .int (nI (rNx q)), .int (nI (rAn q)), .int (rFt q), .int (rPl q)]))] H := hP
    have hD : va_D A [(h0, .inr (0, [.ref w, .ref w2, .ref ro, .ref ri, .ref d])), (w, .inr (1, [.ref a, .int (nI M.length), .int x, .int y, .int g, .int t])), (a, .inl (cI, 1024, .inl fw)), (w2, .inr (1, [.ref a2, .int (nI M2.length), .int x2, .int y2, .int g2, .int t2])), (a2, .inl (cI, 1024, .inl fv)), (ro, .inr (2, [.ref bo, .int (nI O.length)])), (bo, .inl (cB, 4110, .inl fo)), (ri, .inr (2, [.ref bi, .int (nI (I.take k).length)])), (bi, .inl (cB, 8192, .inl fi)), (d, .inr (3, [.ref ri, .int (nI (rNx q)), .int (nI (rAn q)), .int (rFt q), .int (rPl q)]))] := hD
    have hB_22 := hw
    refine lv_iconst (v := 1) hx hb d_Tape_cut_25 (by decide) ?_
    exact kr_i (v := 1) (I.take k) hx hb hr (by decide) hK (hP.sub [0, 1, 2, 3, 4, 5, 6, 7, 8, 9] (rfl)) (hD.sub [0, 1, 2, 3, 4, 5, 6, 7, 8, 9] (by decide) (rfl)) hS ⟨(if_neg c_12).symm, by rw [if_neg c_12, nI_clamp (by omega)], hB_22⟩ d_Tape_cut_26 hlocks
  · refine lv_iconst (v := 0) hx hb d_Tape_cut_15 (by decide) ?_
    exact kr_i (v := 0) I hx hb hr (by decide) hK (hP.sub [0, 1, 2, 3, 4, 5, 6, 7, 8, 9] (rfl)) (hD.sub [0, 1, 2, 3, 4, 5, 6, 7, 8, 9] (by decide) (rfl)) hS ⟨(if_pos c_12).symm, (if_pos c_12).symm, hI⟩ d_Tape_cut_16 hlocks
abbrev Qc_T_poke (dC : Nat → ClassId) (dI : Nat → Nat → Nat) (cI cB cZ : ClassId) (h0 : Nat) (w : Nat) (a : Nat) (fw : Nat → Int32) (M : List Int32) (x : Int32) (y : Int32) (g : Int32) (t : Int32) (w2 : Nat) (a2 : Nat) (fv : Nat → Int32) (M2 : List Int32) (x2 : Int32) (y2 : Int32) (g2 : Int32) (t2 : Int32) (ro : Nat) (bo : Nat) (fo : Nat → Int32) (O : List Nat) (ri : Nat) (bi : Nat) (fi : Nat → Int32) (I : List Nat) (d : Nat) (q : RS) (pk : Int32) (pb : Int32) (A : Nat → Prop) := va_Qi (fun (r9 : Int32) (u9 : (Nat → Int32) × List Nat) => (r9 = if kIn pk 0 (nI I.length - 1) = 0 then 0 else 1) ∧ (u9.2 = if kIn pk 0 (nI I.length - 1) = 0 then I else I.set pk.toNatClampNeg (iByte pb)) ∧ (BRow 8192 u9.1 u9.2)) (ka (dC, dI) classes [(cI, .int), (cB, .byte), (cZ, .boolean)] (fun (u9 : (Nat → Int32) × List Nat) => [(h0, .inr (0, [.ref w, .ref w2, .ref ro, .ref ri, .ref d])), (w, .inr (1, [.ref a, .int (nI M.length), .int x, .int y, .int g, .int t])), (a, .inl (cI, 1024, .inl fw)), (w2, .inr (1, [.ref a2, .int (nI M2.length), .int x2, .int y2, .int g2, .int t2])), (a2, .inl (cI, 1024, .inl fv)), (ro, .inr (2, [.ref bo, .int (nI O.length)])), (bo, .inl (cB, 4110, .inl fo)), (ri, .inr (2, [.ref bi, .int (nI u9.2.length)])), (bi, .inl (cB, 8192, .inl u9.1)), (d, .inr (3, [.ref ri, .int (nI (rNx q)), .int (nI (rAn q)), .int (rFt q), .int (rPl q)]))]) A) A
set_option maxHeartbeats 1000000 in
set_option maxRecDepth 100000 in
/-- poke -/
theorem c_T_poke (l : Launch) (dC : Nat → ClassId) (dI : Nat → Nat → Nat) (cI cB cZ : ClassId) (sz : Nat) (h0 : Nat) (w : Nat) (a : Nat) (fw : Nat → Int32) (M : List Int32) (x : Int32) (y : Int32) (g : Int32) (t : Int32) (w2 : Nat) (a2 : Nat) (fv : Nat → Int32) (M2 : List Int32) (x2 : Int32) (y2 : Int32) (g2 : Int32) (t2 : Int32) (ro : Nat) (bo : Nat) (fo : Nat → Int32) (O : List Nat) (ri : Nat) (bi : Nat) (fi : Nat → Int32) (I : List Nat) (d : Nat) (q : RS) (pk : Int32) (pb : Int32) (hW : WRow fw M) (hV : WRow fv M2) (hO : BRow 4110 fo O) (hI : BRow 8192 fi I) : Met l y_Tape_poke w_Tape_poke ({ frames := 1, cells := 0, slots := 0, locals := 22 }) (va_Pc [.ref h0, .int pk, .int pb] (kp (dC, dI) classes [(cI, .int), (cB, .byte), (cZ, .boolean)] [(h0, .inr (0, [.ref w, .ref w2, .ref ro, .ref ri, .ref d])), (w, .inr (1, [.ref a, .int (nI M.length), .int x, .int y, .int g, .int t])), (a, .inl (cI, 1024, .inl fw)), (w2, .inr (1, [.ref a2, .int (nI M2.length), .int x2, .int y2, .int g2, .int t2])), (a2, .inl (cI, 1024, .inl fv)), (ro, .inr (2, [.ref bo, .int (nI O.length)])), (bo, .inl (cB, 4110, .inl fo)), (ri, .inr (2, [.ref bi, .int (nI I.length)])), (bi, .inl (cB, 8192, .inl fi)), (d, .inr (3, [.ref ri, .int (nI (rNx q)), .int (nI (rAn q)), .int (rFt q), .int (rPl q)]))] sz)) (Qc_T_poke dC dI cI cB cZ h0 w a fw M x y g t w2 a2 fv M2 x2 y2 g2 t2 ro bo fo O ri bi fi I d q pk pb (va_A [(h0, .inr (0, [.ref w, .ref w2, .ref ro, .ref ri, .ref d])), (w, .inr (1, [.ref a, .int (nI M.length), .int x, .int y, .int g, .int t])), (a, .inl (cI, 1024, .inl fw)), (w2, .inr (1, [.ref a2, .int (nI M2.length), .int x2, .int y2, .int g2, .int t2])), (a2, .inl (cI, 1024, .inl fv)), (ro, .inr (2, [.ref bo, .int (nI O.length)])), (bo, .inl (cB, 4110, .inl fo)), (ri, .inr (2, [.ref bi, .int (nI I.length)])), (bi, .inl (cB, 8192, .inl fi)), (d, .inr (3, [.ref ri, .int (nI (rNx q)), .int (nI (rAn q)), .int (rFt q), .int (rPl q)]))] sz)) 0 0 (va_A [(h0, .inr (0, [.ref w, .ref w2, .ref ro, .ref ri, .ref d])), (w, .inr (1, [.ref a, .int (nI M.length), .int x, .int y, .int g, .int t])), (a, .inl (cI, 1024, .inl fw)), (w2, .inr (1, [.ref a2, .int (nI M2.length), .int x2, .int y2, .int g2, .int t2])), (a2, .inl (cI, 1024, .inl fv)), (ro, .inr (2, [.ref bo, .int (nI O.length)])), (bo, .inl (cB, 4110, .inl fo)), (ri, .inr (2, [.ref bi, .int (nI I.length)])), (bi, .inl (cB, 8192, .inl fi)), (d, .inr (3, [.ref ri, .int (nI (rNx q)), .int (nI (rAn q)), .int (rFt q), .int (rPl q)]))] sz) := by
  refine Met.ofW (cc := prog_1_method_10_code) (maxL := 3) (ret := (some .boolean)) (by decide) rfl ?_
  intro p e s m args below meth c s₁ B hml hv
  obtain ⟨rfl, hsz, hP, hK, hD0⟩ := hv
  have hx := B.exec
  have hb := B.bytes
  have hr := B.returns
  have hts := fun w h => atoms_spec (ws := w_Tape_poke) B.pre w (List.mem_cons_of_mem _ h)
  have hown : s.vm.findClass "DemoTape" = some m.cls := findClass_of_methodNamed B.named
  have hlocks := B.notSynchronized
  subst hsz
  have hD := hD0.self (sz := s.heap.size)
  generalize hAe : va_A ([(h0, .inr (0, [.ref w, .ref w2, .ref ro, .ref ri, .ref d])), (w, .inr (1, [.ref a, .int (nI M.length), .int x, .int y, .int g, .int t])), (a, .inl (cI, 1024, .inl fw)), (w2, .inr (1, [.ref a2, .int (nI M2.length), .int x2, .int y2, .int g2, .int t2])), (a2, .inl (cI, 1024, .inl fv)), (ro, .inr (2, [.ref bo, .int (nI O.length)])), (bo, .inl (cB, 4110, .inl fo)), (ri, .inr (2, [.ref bi, .int (nI I.length)])), (bi, .inl (cB, 8192, .inl fi)), (d, .inr (3, [.ref ri, .int (nI (rNx q)), .int (nI (rAn q)), .int (rFt q), .int (rPl q)]))] : va_W) s.heap.size = A at hD ⊢
  have hA : ∀ q : Nat, s.heap.size ≤ q → A q := fun q h => by rw [← hAe]; exact Or.inr h
  have hS : va_S A s.heap s.heap [] := va_S.rf
  have hP : va_P (dC, dI) classes [(h0, .inr (0, [.ref w, .ref w2, .ref ro, .ref ri, .ref d])), (w, .inr (1, [.ref a, .int (nI M.length), .int x, .int y, .int g, .int t])), (a, .inl (cI, 1024, .inl fw)), (w2, .inr (1, [.ref a2, .int (nI M2.length), .int x2, .int y2, .int g2, .int t2])), (a2, .inl (cI, 1024, .inl fv)), (ro, .inr (2, [.ref bo, .int (nI O.length)])), (bo, .inl (cB, 4110, .inl fo)), (ri, .inr (2, [.ref bi, .int (nI I.length)])), (bi, .inl (cB, 8192, .inl fi)), (d, .inr (3, [.ref ri, .int (nI (rNx q)), .int (nI (rAn q)), .int (rFt q), .int (rPl q)]))] s.heap := hP
  have hM := hW.2
  have hIl := hI.2.2.1
  have hOl := hO.2.2.1
  have hl := lv_entry ([.ref h0, .int pk, .int pb]) (n := 3) (Nat.le_of_ble_eq_true rfl)
  rw [lg_entry_eq]
  generalize (lg_sl ([.ref h0, .int pk, .int pb]) ++ List.replicate (3 - (lg_sl ([.ref h0, .int pk, .int pb])).length) Slot.unset).toArray = ls at hl ⊢
  have hl : lv_has ls 3 [(0, .ref h0), (1, .int pk), (2, .int pb)] := hl
  refine lv_iload_n hx hb d_Tape_poke_0 rfl (lv_at hl 1 rfl) ?_
  refine lv_iconst (v := 0) hx hb d_Tape_poke_1 (by decide) ?_
  refine lv_aload_n hx hb d_Tape_poke_2 rfl (lv_at hl 0 rfl) ?_
  refine va_get (D := (dC, dI)) (ci := 0) (v := .ref ri) (C := "DemoTape") (T := F_Tape) (N := 5) hx hb hts i_Tape hown hK hP 0 rfl rfl 3 (by decide) (hts _ mw109) (fun _ h9 => h9) rfl d_Tape_poke_3 ?_
  refine kq_i (wr := [(h0, .inr (0, [.ref w, .ref w2, .ref ro, .ref ri, .ref d])), (w, .inr (1, [.ref a, .int (nI M.length), .int x, .int y, .int g, .int t])), (a, .inl (cI, 1024, .inl fw)), (w2, .inr (1, [.ref a2, .int (nI M2.length), .int x2, .int y2, .int g2, .int t2])), (a2, .inl (cI, 1024, .inl fv)), (ro, .inr (2, [.ref bo, .int (nI O.length)])), (bo, .inl (cB, 4110, .inl fo)), (d, .inr (3, [.ref ri, .int (nI (rNx q)), .int (nI (rAn q)), .int (rFt q), .int (rPl q)]))]) (va_runV (As := []) (rest := [.int 0, .int pk]) ⟨hx, hb, hml, hown, hts⟩ (c_Row_size l dC dI cI cB cZ _ ri bi 8192 fi I ) (cwV 0 hts (gV mw238 mw226 mw227 mw27 mw228) rfl rfl rfl (by decide +kernel) ⟨Nat.le_of_ble_eq_true rfl, Nat.le_of_ble_eq_true rfl⟩) (kpV (wc := [(ri, .inr (2, [.ref bi, .int (nI I.length)])), (bi, .inl (cB, 8192, .inl fi))]) (q0 := 7) (ci := 2) hK hP hD [7, 8] rfl (by decide) rfl rfl rfl) rfl rfl hl.1 rfl (lv_room (Nat.le_of_ble_eq_true rfl)) d_Tape_poke_6 ⟨Nat.le_of_ble_eq_true rfl, Nat.le_of_ble_eq_true rfl⟩) hP hD hS hA [7, 8] [0, 1, 2, 3, 4, 5, 6, 9] [0, 1, 2, 3, 4, 5, 6, 8, 9, 7] rfl rfl (by decide) (by decide) rfl (fun r_6 H locs hw hP hS => ?_)
  have e_6 := hw
  refine kt_i e_6 ?_
  refine lv_iconst (v := 1) hx hb d_Tape_poke_9 (by decide) ?_
  refine lv_isub hx hb d_Tape_poke_10 ?_
  refine kq_i (wr := [(h0, .inr (0, [.ref w, .ref w2, .ref ro, .ref ri, .ref d])), (w, .inr (1, [.ref a, .int (nI M.length), .int x, .int y, .int g, .int t])), (a, .inl (cI, 1024, .inl fw)), (w2, .inr (1, [.ref a2, .int (nI M2.length), .int x2, .int y2, .int g2, .int t2])), (a2, .inl (cI, 1024, .inl fv)), (ro, .inr (2, [.ref bo, .int (nI O.length)])), (bo, .inl (cB, 4110, .inl fo)), (ri, .inr (2, [.ref bi, .int (nI I.length)])), (bi, .inl (cB, 8192, .inl fi)), (d, .inr (3, [.ref ri, .int (nI (rNx q)), .int (nI (rAn q)), .int (rFt q), .int (rPl q)]))]) (va_runS (As := [.int pk, .int 0, .int ((nI I.length) - 1)]) (rest := []) ⟨hx, hb, hml, hown, hts⟩ (c_D_isWithin l dC dI cI cB cZ _ pk 0 ((nI I.length) - 1) ) (va_cwS 3 hts (gS mw126 mw127 mw25 mw128) rfl rfl rfl (by decide +kernel) ⟨Nat.le_of_ble_eq_true rfl, Nat.le_of_ble_eq_true rfl⟩) (kpS (wc := []) hK hP hD [] rfl (by decide) rfl) rfl rfl hl.1 rfl (lv_room (Nat.le_of_ble_eq_true rfl)) d_Tape_poke_11 ⟨Nat.le_of_ble_eq_true rfl, Nat.le_of_ble_eq_true rfl⟩) hP hD hS hA [] [0, 1, 2, 3, 4, 5, 6, 7, 8, 9] [0, 1, 2, 3, 4, 5, 6, 7, 8, 9] rfl rfl (by decide) (by decide) rfl (fun r_11 H locs hw hP hS => ?_)
  have e_11 := hw
  refine kt_i e_11 ?_
  refine lv_if_ne (tgt := 19) hx hb d_Tape_poke_14 (by decide) (fun c_14 => ?_) (fun c_14 => ?_)
  · obtain ⟨k, hk, rfl⟩ := kIn_ix c_14 (by omega)
    refine lv_aload_n hx hb d_Tape_poke_19 rfl (lv_at hl 0 rfl) ?_
    refine va_get (D := (dC, dI)) (ci := 0) (v := .ref ri) (C := "DemoTape") (T := F_Tape) (N := 5) hx hb hts i_Tape hown hK hP 0 rfl rfl 3 (by decide) (hts _ mw109) (fun _ h9 => h9) rfl d_Tape_poke_20 ?_
    refine lv_iload_n hx hb d_Tape_poke_23 rfl (lv_at hl 1 rfl) ?_
    refine lv_iload_n hx hb d_Tape_poke_24 rfl (lv_at hl 2 rfl) ?_
    refine kc_v (wr := [(h0, .inr (0, [.ref w, .ref w2, .ref ro, .ref ri, .ref d])), (w, .inr (1, [.ref a, .int (nI M.length), .int x, .int y, .int g, .int t])), (a, .inl (cI, 1024, .inl fw)), (w2, .inr (1, [.ref a2, .int (nI M2.length), .int x2, .int y2, .int g2, .int t2])), (a2, .inl (cI, 1024, .inl fv)), (ro, .inr (2, [.ref bo, .int (nI O.length)])), (bo, .inl (cB, 4110, .inl fo)), (d, .inr (3, [.ref ri, .int (nI (rNx q)), .int (nI (rAn q)), .int (rFt q), .int (rPl q)]))]) (w2 := fun (u9 : (Nat → Int32)) => [(h0, .inr (0, [.ref w, .ref w2, .ref ro, .ref ri, .ref d])), (w, .inr (1, [.ref a, .int (nI M.length), .int x, .int y, .int g, .int t])), (a, .inl (cI, 1024, .inl fw)), (w2, .inr (1, [.ref a2, .int (nI M2.length), .int x2, .int y2, .int g2, .int t2])), (a2, .inl (cI, 1024, .inl fv)), (ro, .inr (2, [.ref bo, .int (nI O.length)])), (bo, .inl (cB, 4110, .inl fo)), (ri, .inr (2, [.ref bi, .int (nI (I.set k (iByte pb)).length)])), (bi, .inl (cB, 8192, .inl u9)), (d, .inr (3, [.ref ri, .int (nI (rNx q)), .int (nI (rAn q)), .int (rFt q), .int (rPl q)]))]) (va_runV (As := [.int (nI k), .int pb]) (rest := []) ⟨hx, hb, hml, hown, hts⟩ (c_Row_set l dC dI cI cB cZ _ ri bi 8192 fi I k pb (by first | with_reducible assumption | omega | decide) (hk)) (cwV 2 hts (gV mw267 mw268 mw269 mw27 mw270) rfl rfl rfl (by decide +kernel) ⟨Nat.le_of_ble_eq_true rfl, Nat.le_of_ble_eq_true rfl⟩) (kpV (wc := [(ri, .inr (2, [.ref bi, .int (nI I.length)])), (bi, .inl (cB, 8192, .inl fi))]) (q0 := 7) (ci := 2) hK hP hD [7, 8] rfl (by decide) rfl rfl rfl) rfl rfl hl.1 rfl (lv_room (Nat.le_of_ble_eq_true rfl)) d_Tape_poke_25 ⟨Nat.le_of_ble_eq_true rfl, Nat.le_of_ble_eq_true rfl⟩) hP hD hS hA [7, 8] [0, 1, 2, 3, 4, 5, 6, 9] [0, 1, 2, 3, 4, 5, 6, 8, 9, 7] rfl rfl (by decide) (by decide) (fun _ => rfl) (by decide) (fun _ => rfl) (fun u9 H locs hw hP hD hS => ?_)
    obtain ⟨f1_25, rfl⟩ : ∃ z, z = u9 := ⟨_, rfl⟩
    try dsimp only at hw
    have hP : va_P (dC, dI) classes [(h0, .inr (0, [.ref w, .ref w2, .ref ro, .ref ri, .ref d])), (w, .inr (1, [.ref a, .int (nI M.length), .int x, .int y, .int g, .int t])), (a, .inl (cI, 1024, .inl fw)), (w2, .inr (1, [.ref a2, .int (nI M2.length), .int x2, .int y2, .int g2, .int t2])), (a2, .inl (cI, 1024, .inl fv)), (ro, .inr (2, [.ref bo, .int (nI O.length)])), (bo, .inl (cB, 4110, .inl fo)), (ri, .inr (2, [.ref bi, .int (nI (I.set k (iByte pb)).length)])), (bi, .inl (cB, 8192, .inl f1_25)), (d, .inr (3, [.ref ri, .int (nI (rNx q)), .int (nI (rAn q)), .int (rFt q), .int (rPl q)]))] H := hP
    have hD : va_D A [(h0, .inr (0, [.ref w, .ref w2, .ref ro, .ref ri, .ref d])), (w, .inr (1, [.ref a, .int (nI M.length), .int x, .int y, .int g, .int t])), (a, .inl (cI, 1024, .inl fw)), (w2, .inr (1, [.ref a2, .int (nI M2.length), .int x2, .int y2, .int g2, .int t2])), (a2, .inl (cI, 1024, .inl fv)), (ro, .inr (2, [.ref bo, .int (nI O.length)])), (bo, .inl (cB, 4110, .inl fo)), (ri, .inr (2, [.ref bi, .int (nI (I.set k (iByte pb)).length)])), (bi, .inl (cB, 8192, .inl f1_25)), (d, .inr (3, [.ref ri, .int (nI (rNx q)), .int (nI (rAn q)), .int (rFt q), .int (rPl q)]))] := hD
    have hB_25 := hw
    refine lv_iconst (v := 1) hx hb d_Tape_poke_28 (by decide) ?_
    exact kr_i (v := 1) (f1_25, I.set k (iByte pb)) hx hb hr (by decide) hK (hP.sub [0, 1, 2, 3, 4, 5, 6, 7, 8, 9] (rfl)) (hD.sub [0, 1, 2, 3, 4, 5, 6, 7, 8, 9] (by decide) (rfl)) hS ⟨(if_neg c_14).symm, by rw [if_neg c_14, nI_clamp (by omega)], hB_25⟩ d_Tape_poke_29 hlocks
  · refine lv_iconst (v := 0) hx hb d_Tape_poke_17 (by decide) ?_
    exact kr_i (v := 0) (fi, I) hx hb hr (by decide) hK (hP.sub [0, 1, 2, 3, 4, 5, 6, 7, 8, 9] (rfl)) (hD.sub [0, 1, 2, 3, 4, 5, 6, 7, 8, 9] (by decide) (rfl)) hS ⟨(if_pos c_14).symm, (if_pos c_14).symm, hI⟩ d_Tape_poke_18 hlocks
abbrev Qc_T_input (dC : Nat → ClassId) (dI : Nat → Nat → Nat) (cI cB cZ : ClassId) (h0 : Nat) (w : Nat) (a : Nat) (fw : Nat → Int32) (M : List Int32) (x : Int32) (y : Int32) (g : Int32) (t : Int32) (w2 : Nat) (a2 : Nat) (fv : Nat → Int32) (M2 : List Int32) (x2 : Int32) (y2 : Int32) (g2 : Int32) (t2 : Int32) (ro : Nat) (bo : Nat) (fo : Nat → Int32) (O : List Nat) (ri : Nat) (bi : Nat) (fi : Nat → Int32) (I : List Nat) (d : Nat) (q : RS) (pi : Int32) (pw : Int32) (A : Nat → Prop) := va_Qi (fun (r9 : Int32) (_ : Unit) => (r9 = kInput M pi pw)) (ka (dC, dI) classes [(cI, .int), (cB, .byte), (cZ, .boolean)] (fun (_ : Unit) => [(h0, .inr (0, [.ref w, .ref w2, .ref ro, .ref ri, .ref d])), (w, .inr (1, [.ref a, .int (nI M.length), .int x, .int y, .int g, .int t])), (a, .inl (cI, 1024, .inl fw)), (w2, .inr (1, [.ref a2, .int (nI M2.length), .int x2, .int y2, .int g2, .int t2])), (a2, .inl (cI, 1024, .inl fv)), (ro, .inr (2, [.ref bo, .int (nI O.length)])), (bo, .inl (cB, 4110, .inl fo)), (ri, .inr (2, [.ref bi, .int (nI I.length)])), (bi, .inl (cB, 8192, .inl fi)), (d, .inr (3, [.ref ri, .int (nI (rNx q)), .int (nI (rAn q)), .int (rFt q), .int (rPl q)]))]) A) A
set_option maxHeartbeats 1000000 in
set_option maxRecDepth 100000 in
/-- input -/
theorem c_T_input (l : Launch) (dC : Nat → ClassId) (dI : Nat → Nat → Nat) (cI cB cZ : ClassId) (sz : Nat) (h0 : Nat) (w : Nat) (a : Nat) (fw : Nat → Int32) (M : List Int32) (x : Int32) (y : Int32) (g : Int32) (t : Int32) (w2 : Nat) (a2 : Nat) (fv : Nat → Int32) (M2 : List Int32) (x2 : Int32) (y2 : Int32) (g2 : Int32) (t2 : Int32) (ro : Nat) (bo : Nat) (fo : Nat → Int32) (O : List Nat) (ri : Nat) (bi : Nat) (fi : Nat → Int32) (I : List Nat) (d : Nat) (q : RS) (pi : Int32) (pw : Int32) (hW : WRow fw M) (hV : WRow fv M2) (hO : BRow 4110 fo O) (hI : BRow 8192 fi I) : Met l y_Tape_input w_Tape_input ({ frames := 1, cells := 0, slots := 0, locals := 21 }) (va_Pc [.ref h0, .int pi, .int pw] (kp (dC, dI) classes [(cI, .int), (cB, .byte), (cZ, .boolean)] [(h0, .inr (0, [.ref w, .ref w2, .ref ro, .ref ri, .ref d])), (w, .inr (1, [.ref a, .int (nI M.length), .int x, .int y, .int g, .int t])), (a, .inl (cI, 1024, .inl fw)), (w2, .inr (1, [.ref a2, .int (nI M2.length), .int x2, .int y2, .int g2, .int t2])), (a2, .inl (cI, 1024, .inl fv)), (ro, .inr (2, [.ref bo, .int (nI O.length)])), (bo, .inl (cB, 4110, .inl fo)), (ri, .inr (2, [.ref bi, .int (nI I.length)])), (bi, .inl (cB, 8192, .inl fi)), (d, .inr (3, [.ref ri, .int (nI (rNx q)), .int (nI (rAn q)), .int (rFt q), .int (rPl q)]))] sz)) (Qc_T_input dC dI cI cB cZ h0 w a fw M x y g t w2 a2 fv M2 x2 y2 g2 t2 ro bo fo O ri bi fi I d q pi pw (va_A [(h0, .inr (0, [.ref w, .ref w2, .ref ro, .ref ri, .ref d])), (w, .inr (1, [.ref a, .int (nI M.length), .int x, .int y, .int g, .int t])), (a, .inl (cI, 1024, .inl fw)), (w2, .inr (1, [.ref a2, .int (nI M2.length), .int x2, .int y2, .int g2, .int t2])), (a2, .inl (cI, 1024, .inl fv)), (ro, .inr (2, [.ref bo, .int (nI O.length)])), (bo, .inl (cB, 4110, .inl fo)), (ri, .inr (2, [.ref bi, .int (nI I.length)])), (bi, .inl (cB, 8192, .inl fi)), (d, .inr (3, [.ref ri, .int (nI (rNx q)), .int (nI (rAn q)), .int (rFt q), .int (rPl q)]))] sz)) 0 0 (va_A [(h0, .inr (0, [.ref w, .ref w2, .ref ro, .ref ri, .ref d])), (w, .inr (1, [.ref a, .int (nI M.length), .int x, .int y, .int g, .int t])), (a, .inl (cI, 1024, .inl fw)), (w2, .inr (1, [.ref a2, .int (nI M2.length), .int x2, .int y2, .int g2, .int t2])), (a2, .inl (cI, 1024, .inl fv)), (ro, .inr (2, [.ref bo, .int (nI O.length)])), (bo, .inl (cB, 4110, .inl fo)), (ri, .inr (2, [.ref bi, .int (nI I.length)])), (bi, .inl (cB, 8192, .inl fi)), (d, .inr (3, [.ref ri, .int (nI (rNx q)), .int (nI (rAn q)), .int (rFt q), .int (rPl q)]))] sz) := by
  refine Met.ofW (cc := prog_1_method_12_code) (maxL := 4) (ret := (some .int)) (by decide) rfl ?_
  intro p e s m args below meth c s₁ B hml hv
  obtain ⟨rfl, hsz, hP, hK, hD0⟩ := hv
  have hx := B.exec
  have hb := B.bytes
  have hr := B.returns
  have hts := fun w h => atoms_spec (ws := w_Tape_input) B.pre w (List.mem_cons_of_mem _ h)
  have hown : s.vm.findClass "DemoTape" = some m.cls := findClass_of_methodNamed B.named
  have hlocks := B.notSynchronized
  subst hsz
  have hD := hD0.self (sz := s.heap.size)
  generalize hAe : va_A ([(h0, .inr (0, [.ref w, .ref w2, .ref ro, .ref ri, .ref d])), (w, .inr (1, [.ref a, .int (nI M.length), .int x, .int y, .int g, .int t])), (a, .inl (cI, 1024, .inl fw)), (w2, .inr (1, [.ref a2, .int (nI M2.length), .int x2, .int y2, .int g2, .int t2])), (a2, .inl (cI, 1024, .inl fv)), (ro, .inr (2, [.ref bo, .int (nI O.length)])), (bo, .inl (cB, 4110, .inl fo)), (ri, .inr (2, [.ref bi, .int (nI I.length)])), (bi, .inl (cB, 8192, .inl fi)), (d, .inr (3, [.ref ri, .int (nI (rNx q)), .int (nI (rAn q)), .int (rFt q), .int (rPl q)]))] : va_W) s.heap.size = A at hD ⊢
  have hA : ∀ q : Nat, s.heap.size ≤ q → A q := fun q h => by rw [← hAe]; exact Or.inr h
  have hS : va_S A s.heap s.heap [] := va_S.rf
  have hP : va_P (dC, dI) classes [(h0, .inr (0, [.ref w, .ref w2, .ref ro, .ref ri, .ref d])), (w, .inr (1, [.ref a, .int (nI M.length), .int x, .int y, .int g, .int t])), (a, .inl (cI, 1024, .inl fw)), (w2, .inr (1, [.ref a2, .int (nI M2.length), .int x2, .int y2, .int g2, .int t2])), (a2, .inl (cI, 1024, .inl fv)), (ro, .inr (2, [.ref bo, .int (nI O.length)])), (bo, .inl (cB, 4110, .inl fo)), (ri, .inr (2, [.ref bi, .int (nI I.length)])), (bi, .inl (cB, 8192, .inl fi)), (d, .inr (3, [.ref ri, .int (nI (rNx q)), .int (nI (rAn q)), .int (rFt q), .int (rPl q)]))] s.heap := hP
  have hl := lv_entry ([.ref h0, .int pi, .int pw]) (n := 4) (Nat.le_of_ble_eq_true rfl)
  rw [lg_entry_eq]
  generalize (lg_sl ([.ref h0, .int pi, .int pw]) ++ List.replicate (4 - (lg_sl ([.ref h0, .int pi, .int pw])).length) Slot.unset).toArray = ls at hl ⊢
  have hl : lv_has ls 4 [(0, .ref h0), (1, .int pi), (2, .int pw)] := hl
  refine lv_aload_n hx hb d_Tape_input_0 rfl (lv_at hl 0 rfl) ?_
  refine va_get (D := (dC, dI)) (ci := 0) (v := .ref w) (C := "DemoTape") (T := F_Tape) (N := 5) hx hb hts i_Tape hown hK hP 0 rfl rfl 0 (by decide) (hts _ mw106) (fun _ h9 => h9) rfl d_Tape_input_1 ?_
  refine lv_iload_n hx hb d_Tape_input_4 rfl (lv_at hl 1 rfl) ?_
  refine kq_i (wr := [(h0, .inr (0, [.ref w, .ref w2, .ref ro, .ref ri, .ref d])), (w2, .inr (1, [.ref a2, .int (nI M2.length), .int x2, .int y2, .int g2, .int t2])), (a2, .inl (cI, 1024, .inl fv)), (ro, .inr (2, [.ref bo, .int (nI O.length)])), (bo, .inl (cB, 4110, .inl fo)), (ri, .inr (2, [.ref bi, .int (nI I.length)])), (bi, .inl (cB, 8192, .inl fi)), (d, .inr (3, [.ref ri, .int (nI (rNx q)), .int (nI (rAn q)), .int (rFt q), .int (rPl q)]))]) (va_runV (As := [.int pi]) (rest := []) ⟨hx, hb, hml, hown, hts⟩ (c_Walk_codeAt l dC dI cI cB cZ _ w a fw M x y g t pi (by first | with_reducible assumption | omega | decide)) (cwV 1 hts (gV mw342 mw174 mw175 mw26 mw176) rfl rfl rfl (by decide +kernel) ⟨Nat.le_of_ble_eq_true rfl, Nat.le_of_ble_eq_true rfl⟩) (kpV (wc := [(w, .inr (1, [.ref a, .int (nI M.length), .int x, .int y, .int g, .int t])), (a, .inl (cI, 1024, .inl fw))]) (q0 := 1) (ci := 1) hK hP hD [1, 2] rfl (by decide) rfl rfl rfl) rfl rfl hl.1 rfl (lv_room (Nat.le_of_ble_eq_true rfl)) d_Tape_input_5 ⟨Nat.le_of_ble_eq_true rfl, Nat.le_of_ble_eq_true rfl⟩) hP hD hS hA [1, 2] [0, 3, 4, 5, 6, 7, 8, 9] [0, 8, 9, 1, 2, 3, 4, 5, 6, 7] rfl rfl (by decide) (by decide) rfl (fun r_5 H locs hw hP hS => ?_)
  have e_5 := hw
  refine kt_i e_5 ?_
  refine lv_istore_n (lv' := [(3, .int (kGet M pi)), (0, .ref h0), (1, .int pi), (2, .int pw)]) hx hb d_Tape_input_8 rfl hl (by decide) rfl (fun ls hl => ?_)
  refine lv_iload_n hx hb d_Tape_input_9 rfl (lv_at hl 0 rfl) ?_
  refine lv_iconst (v := -1) hx hb d_Tape_input_10 (by decide) ?_
  refine lv_icmp_ne (tgt := 17) hx hb d_Tape_input_11 (by decide) (fun c_11 => ?_) (fun c_11 => ?_)
  · refine lv_iload_n hx hb d_Tape_input_17 rfl (lv_at hl 3 rfl) ?_
    by_cases c_18 : pw.toInt < 0 ∨ 3 < pw.toInt
    · refine lv_tableOut (tgt := 85) hx hb d_Tape_input_18 c_18 (by decide) ?_
      refine lv_ldc (v := 100000) hx hb hown (hts _ mw343) d_Tape_input_85 ?_
      exact kr_i (v := 100000) () hx hb hr rfl hK (hP.sub [0, 1, 2, 3, 4, 5, 6, 7, 8, 9] (rfl)) (hD.sub [0, 1, 2, 3, 4, 5, 6, 7, 8, 9] (by decide) (rfl)) hS (by rw [kInput_y c_11]; exact (kInW_out c_18).symm) d_Tape_input_87 hlocks
    · by_cases c_18_0 : pw = 0
      · refine lv_tableIn (tgt := 48) (off := 30) hx hb d_Tape_input_18 (by rw [c_18_0]; decide) (by rw [c_18_0]; decide) (by rw [c_18_0]; rfl) (by decide) ?_
        refine lv_iload_n hx hb d_Tape_input_48 rfl (lv_at hl 0 rfl) ?_
        refine kq_i (wr := [(h0, .inr (0, [.ref w, .ref w2, .ref ro, .ref ri, .ref d])), (w, .inr (1, [.ref a, .int (nI M.length), .int x, .int y, .int g, .int t])), (a, .inl (cI, 1024, .inl fw)), (w2, .inr (1, [.ref a2, .int (nI M2.length), .int x2, .int y2, .int g2, .int t2])), (a2, .inl (cI, 1024, .inl fv)), (ro, .inr (2, [.ref bo, .int (nI O.length)])), (bo, .inl (cB, 4110, .inl fo)), (ri, .inr (2, [.ref bi, .int (nI I.length)])), (bi, .inl (cB, 8192, .inl fi)), (d, .inr (3, [.ref ri, .int (nI (rNx q)), .int (nI (rAn q)), .int (rFt q), .int (rPl q)]))]) (va_runS (As := [.int (kGet M pi)]) (rest := []) ⟨hx, hb, hml, hown, hts⟩ (c_Code_aheadByte l dC dI cI cB cZ _ (kGet M pi) ) (va_cwS 1 hts (gS mw344 mw221 mw31 mw222) rfl rfl rfl (by decide +kernel) ⟨Nat.le_of_ble_eq_true rfl, Nat.le_of_ble_eq_true rfl⟩) (kpS (wc := []) hK hP hD [] rfl (by decide) rfl) rfl rfl hl.1 rfl (lv_room (Nat.le_of_ble_eq_true rfl)) d_Tape_input_49 ⟨Nat.le_of_ble_eq_true rfl, Nat.le_of_ble_eq_true rfl⟩) hP hD hS hA [] [0, 1, 2, 3, 4, 5, 6, 7, 8, 9] [0, 1, 2, 3, 4, 5, 6, 7, 8, 9] rfl rfl (by decide) (by decide) rfl (fun r_49 H locs hw hP hS => ?_)
        have e_49 := hw
        refine kt_i e_49 ?_
        refine lv_bipush (v := 64) hx hb d_Tape_input_52 (by decide) ?_
        refine lv_isub hx hb d_Tape_input_54 ?_
        exact kr_i (v := (kAhead (kGet M pi)) - 64) () hx hb hr rfl hK (hP.sub [0, 1, 2, 3, 4, 5, 6, 7, 8, 9] (rfl)) (hD.sub [0, 1, 2, 3, 4, 5, 6, 7, 8, 9] (by decide) (rfl)) hS (by rw [kInput_y c_11, c_18_0]; first | done | rfl) d_Tape_input_55 hlocks
      · by_cases c_18_1 : pw = 1
        · refine lv_tableIn (tgt := 56) (off := 38) hx hb d_Tape_input_18 (by rw [c_18_1]; decide) (by rw [c_18_1]; decide) (by rw [c_18_1]; rfl) (by decide) ?_
          refine lv_iload_n hx hb d_Tape_input_56 rfl (lv_at hl 0 rfl) ?_
          refine kq_i (wr := [(h0, .inr (0, [.ref w, .ref w2, .ref ro, .ref ri, .ref d])), (w, .inr (1, [.ref a, .int (nI M.length), .int x, .int y, .int g, .int t])), (a, .inl (cI, 1024, .inl fw)), (w2, .inr (1, [.ref a2, .int (nI M2.length), .int x2, .int y2, .int g2, .int t2])), (a2, .inl (cI, 1024, .inl fv)), (ro, .inr (2, [.ref bo, .int (nI O.length)])), (bo, .inl (cB, 4110, .inl fo)), (ri, .inr (2, [.ref bi, .int (nI I.length)])), (bi, .inl (cB, 8192, .inl fi)), (d, .inr (3, [.ref ri, .int (nI (rNx q)), .int (nI (rAn q)), .int (rFt q), .int (rPl q)]))]) (va_runS (As := [.int (kGet M pi)]) (rest := []) ⟨hx, hb, hml, hown, hts⟩ (c_Code_asideByte l dC dI cI cB cZ _ (kGet M pi) ) (va_cwS 1 hts (gS mw345 mw212 mw31 mw213) rfl rfl rfl (by decide +kernel) ⟨Nat.le_of_ble_eq_true rfl, Nat.le_of_ble_eq_true rfl⟩) (kpS (wc := []) hK hP hD [] rfl (by decide) rfl) rfl rfl hl.1 rfl (lv_room (Nat.le_of_ble_eq_true rfl)) d_Tape_input_57 ⟨Nat.le_of_ble_eq_true rfl, Nat.le_of_ble_eq_true rfl⟩) hP hD hS hA [] [0, 1, 2, 3, 4, 5, 6, 7, 8, 9] [0, 1, 2, 3, 4, 5, 6, 7, 8, 9] rfl rfl (by decide) (by decide) rfl (fun r_57 H locs hw hP hS => ?_)
          have e_57 := hw
          refine kt_i e_57 ?_
          refine lv_bipush (v := 64) hx hb d_Tape_input_60 (by decide) ?_
          refine lv_isub hx hb d_Tape_input_62 ?_
          exact kr_i (v := (kAside (kGet M pi)) - 64) () hx hb hr rfl hK (hP.sub [0, 1, 2, 3, 4, 5, 6, 7, 8, 9] (rfl)) (hD.sub [0, 1, 2, 3, 4, 5, 6, 7, 8, 9] (by decide) (rfl)) hS (by rw [kInput_y c_11, c_18_1]; first | done | rfl) d_Tape_input_63 hlocks
        · by_cases c_18_2 : pw = 2
          · refine lv_tableIn (tgt := 64) (off := 46) hx hb d_Tape_input_18 (by rw [c_18_2]; decide) (by rw [c_18_2]; decide) (by rw [c_18_2]; rfl) (by decide) ?_
            refine lv_iload_n hx hb d_Tape_input_64 rfl (lv_at hl 0 rfl) ?_
            refine kq_i (wr := [(h0, .inr (0, [.ref w, .ref w2, .ref ro, .ref ri, .ref d])), (w, .inr (1, [.ref a, .int (nI M.length), .int x, .int y, .int g, .int t])), (a, .inl (cI, 1024, .inl fw)), (w2, .inr (1, [.ref a2, .int (nI M2.length), .int x2, .int y2, .int g2, .int t2])), (a2, .inl (cI, 1024, .inl fv)), (ro, .inr (2, [.ref bo, .int (nI O.length)])), (bo, .inl (cB, 4110, .inl fo)), (ri, .inr (2, [.ref bi, .int (nI I.length)])), (bi, .inl (cB, 8192, .inl fi)), (d, .inr (3, [.ref ri, .int (nI (rNx q)), .int (nI (rAn q)), .int (rFt q), .int (rPl q)]))]) (va_runS (As := [.int (kGet M pi)]) (rest := []) ⟨hx, hb, hml, hown, hts⟩ (c_Code_turnByte l dC dI cI cB cZ _ (kGet M pi) ) (va_cwS 1 hts (gS mw346 mw215 mw31 mw216) rfl rfl rfl (by decide +kernel) ⟨Nat.le_of_ble_eq_true rfl, Nat.le_of_ble_eq_true rfl⟩) (kpS (wc := []) hK hP hD [] rfl (by decide) rfl) rfl rfl hl.1 rfl (lv_room (Nat.le_of_ble_eq_true rfl)) d_Tape_input_65 ⟨Nat.le_of_ble_eq_true rfl, Nat.le_of_ble_eq_true rfl⟩) hP hD hS hA [] [0, 1, 2, 3, 4, 5, 6, 7, 8, 9] [0, 1, 2, 3, 4, 5, 6, 7, 8, 9] rfl rfl (by decide) (by decide) rfl (fun r_65 H locs hw hP hS => ?_)
            have e_65 := hw
            refine kt_i e_65 ?_
            refine lv_bipush (v := 16) hx hb d_Tape_input_68 (by decide) ?_
            refine lv_isub hx hb d_Tape_input_70 ?_
            exact kr_i (v := (kTurn (kGet M pi)) - 16) () hx hb hr rfl hK (hP.sub [0, 1, 2, 3, 4, 5, 6, 7, 8, 9] (rfl)) (hD.sub [0, 1, 2, 3, 4, 5, 6, 7, 8, 9] (by decide) (rfl)) hS (by rw [kInput_y c_11, c_18_2]; first | done | rfl) d_Tape_input_71 hlocks
          · have c_18_3 : pw = 3 := by have h100 : pw.toInt ≠ 0 := fun h => c_18_0 (Int32.toInt_inj.mp (h.trans (by decide))); have h101 : pw.toInt ≠ 1 := fun h => c_18_1 (Int32.toInt_inj.mp (h.trans (by decide))); have h102 : pw.toInt ≠ 2 := fun h => c_18_2 (Int32.toInt_inj.mp (h.trans (by decide))); apply Int32.toInt_inj.mp; have h0 : (3 : Int32).toInt = 3 := (by decide); rw [h0]; omega
            refine lv_tableIn (tgt := 72) (off := 54) hx hb d_Tape_input_18 (by rw [c_18_3]; decide) (by rw [c_18_3]; decide) (by rw [c_18_3]; rfl) (by decide) ?_
            refine lv_iload_n hx hb d_Tape_input_72 rfl (lv_at hl 0 rfl) ?_
            refine kq_i (wr := [(h0, .inr (0, [.ref w, .ref w2, .ref ro, .ref ri, .ref d])), (w, .inr (1, [.ref a, .int (nI M.length), .int x, .int y, .int g, .int t])), (a, .inl (cI, 1024, .inl fw)), (w2, .inr (1, [.ref a2, .int (nI M2.length), .int x2, .int y2, .int g2, .int t2])), (a2, .inl (cI, 1024, .inl fv)), (ro, .inr (2, [.ref bo, .int (nI O.length)])), (bo, .inl (cB, 4110, .inl fo)), (ri, .inr (2, [.ref bi, .int (nI I.length)])), (bi, .inl (cB, 8192, .inl fi)), (d, .inr (3, [.ref ri, .int (nI (rNx q)), .int (nI (rAn q)), .int (rFt q), .int (rPl q)]))]) (va_runS (As := [.int (kGet M pi)]) (rest := []) ⟨hx, hb, hml, hown, hts⟩ (c_Code_uses l dC dI cI cB cZ _ (kGet M pi) ) (va_cwS 1 hts (gS mw347 mw218 mw31 mw219) rfl rfl rfl (by decide +kernel) ⟨Nat.le_of_ble_eq_true rfl, Nat.le_of_ble_eq_true rfl⟩) (kpS (wc := []) hK hP hD [] rfl (by decide) rfl) rfl rfl hl.1 rfl (lv_room (Nat.le_of_ble_eq_true rfl)) d_Tape_input_73 ⟨Nat.le_of_ble_eq_true rfl, Nat.le_of_ble_eq_true rfl⟩) hP hD hS hA [] [0, 1, 2, 3, 4, 5, 6, 7, 8, 9] [0, 1, 2, 3, 4, 5, 6, 7, 8, 9] rfl rfl (by decide) (by decide) rfl (fun r_73 H locs hw hP hS => ?_)
            have e_73 := hw
            refine kt_i e_73 ?_
            refine lv_if_eq (tgt := 83) hx hb d_Tape_input_76 (by decide) (fun c_76 => ?_) (fun c_76 => ?_)
            · refine lv_iconst (v := 0) hx hb d_Tape_input_83 (by decide) ?_
              exact kr_i (v := 0) () hx hb hr rfl hK (hP.sub [0, 1, 2, 3, 4, 5, 6, 7, 8, 9] (rfl)) (hD.sub [0, 1, 2, 3, 4, 5, 6, 7, 8, 9] (by decide) (rfl)) hS (by rw [kInput_y c_11, c_18_3]; show _ = (if kUse _ = 0 then _ else _); rw [if_pos c_76]) d_Tape_input_84 hlocks
            · refine lv_iconst (v := 1) hx hb d_Tape_input_79 (by decide) ?_
              refine lv_goto (tgt := 84) hx hb d_Tape_input_80 (by decide) ?_
              exact kr_i (v := 1) () hx hb hr rfl hK (hP.sub [0, 1, 2, 3, 4, 5, 6, 7, 8, 9] (rfl)) (hD.sub [0, 1, 2, 3, 4, 5, 6, 7, 8, 9] (by decide) (rfl)) hS (by rw [kInput_y c_11, c_18_3]; show _ = (if kUse _ = 0 then _ else _); rw [if_neg c_76]) d_Tape_input_84 hlocks
  · refine lv_ldc (v := 100000) hx hb hown (hts _ mw343) d_Tape_input_14 ?_
    exact kr_i (v := 100000) () hx hb hr rfl hK (hP.sub [0, 1, 2, 3, 4, 5, 6, 7, 8, 9] (rfl)) (hD.sub [0, 1, 2, 3, 4, 5, 6, 7, 8, 9] (by decide) (rfl)) hS ((kInput_n c_11).symm) d_Tape_input_16 hlocks
abbrev Qc_T_begin (dC : Nat → ClassId) (dI : Nat → Nat → Nat) (cI cB cZ : ClassId) (h0 : Nat) (w : Nat) (a : Nat) (fw : Nat → Int32) (M : List Int32) (x : Int32) (y : Int32) (g : Int32) (t : Int32) (w2 : Nat) (a2 : Nat) (fv : Nat → Int32) (M2 : List Int32) (x2 : Int32) (y2 : Int32) (g2 : Int32) (t2 : Int32) (ro : Nat) (bo : Nat) (fo : Nat → Int32) (O : List Nat) (ri : Nat) (bi : Nat) (fi : Nat → Int32) (I : List Nat) (d : Nat) (q : RS) (pw : Int32) (A : Nat → Prop) := va_Qi (fun (r9 : Int32) (_ : Unit) => (r9 = kStart x y g t pw)) (ka (dC, dI) classes [(cI, .int), (cB, .byte), (cZ, .boolean)] (fun (_ : Unit) => [(h0, .inr (0, [.ref w, .ref w2, .ref ro, .ref ri, .ref d])), (w, .inr (1, [.ref a, .int (nI M.length), .int x, .int y, .int g, .int t])), (a, .inl (cI, 1024, .inl fw)), (w2, .inr (1, [.ref a2, .int (nI M2.length), .int x2, .int y2, .int g2, .int t2])), (a2, .inl (cI, 1024, .inl fv)), (ro, .inr (2, [.ref bo, .int (nI O.length)])), (bo, .inl (cB, 4110, .inl fo)), (ri, .inr (2, [.ref bi, .int (nI I.length)])), (bi, .inl (cB, 8192, .inl fi)), (d, .inr (3, [.ref ri, .int (nI (rNx q)), .int (nI (rAn q)), .int (rFt q), .int (rPl q)]))]) A) A
set_option maxHeartbeats 1000000 in
set_option maxRecDepth 100000 in
/-- begin -/
theorem c_T_begin (l : Launch) (dC : Nat → ClassId) (dI : Nat → Nat → Nat) (cI cB cZ : ClassId) (sz : Nat) (h0 : Nat) (w : Nat) (a : Nat) (fw : Nat → Int32) (M : List Int32) (x : Int32) (y : Int32) (g : Int32) (t : Int32) (w2 : Nat) (a2 : Nat) (fv : Nat → Int32) (M2 : List Int32) (x2 : Int32) (y2 : Int32) (g2 : Int32) (t2 : Int32) (ro : Nat) (bo : Nat) (fo : Nat → Int32) (O : List Nat) (ri : Nat) (bi : Nat) (fi : Nat → Int32) (I : List Nat) (d : Nat) (q : RS) (pw : Int32) (hW : WRow fw M) (hV : WRow fv M2) (hO : BRow 4110 fo O) (hI : BRow 8192 fi I) : Met l y_Tape_begin w_Tape_begin ({ frames := 1, cells := 0, slots := 0, locals := 21 }) (va_Pc [.ref h0, .int pw] (kp (dC, dI) classes [(cI, .int), (cB, .byte), (cZ, .boolean)] [(h0, .inr (0, [.ref w, .ref w2, .ref ro, .ref ri, .ref d])), (w, .inr (1, [.ref a, .int (nI M.length), .int x, .int y, .int g, .int t])), (a, .inl (cI, 1024, .inl fw)), (w2, .inr (1, [.ref a2, .int (nI M2.length), .int x2, .int y2, .int g2, .int t2])), (a2, .inl (cI, 1024, .inl fv)), (ro, .inr (2, [.ref bo, .int (nI O.length)])), (bo, .inl (cB, 4110, .inl fo)), (ri, .inr (2, [.ref bi, .int (nI I.length)])), (bi, .inl (cB, 8192, .inl fi)), (d, .inr (3, [.ref ri, .int (nI (rNx q)), .int (nI (rAn q)), .int (rFt q), .int (rPl q)]))] sz)) (Qc_T_begin dC dI cI cB cZ h0 w a fw M x y g t w2 a2 fv M2 x2 y2 g2 t2 ro bo fo O ri bi fi I d q pw (va_A [(h0, .inr (0, [.ref w, .ref w2, .ref ro, .ref ri, .ref d])), (w, .inr (1, [.ref a, .int (nI M.length), .int x, .int y, .int g, .int t])), (a, .inl (cI, 1024, .inl fw)), (w2, .inr (1, [.ref a2, .int (nI M2.length), .int x2, .int y2, .int g2, .int t2])), (a2, .inl (cI, 1024, .inl fv)), (ro, .inr (2, [.ref bo, .int (nI O.length)])), (bo, .inl (cB, 4110, .inl fo)), (ri, .inr (2, [.ref bi, .int (nI I.length)])), (bi, .inl (cB, 8192, .inl fi)), (d, .inr (3, [.ref ri, .int (nI (rNx q)), .int (nI (rAn q)), .int (rFt q), .int (rPl q)]))] sz)) 0 0 (va_A [(h0, .inr (0, [.ref w, .ref w2, .ref ro, .ref ri, .ref d])), (w, .inr (1, [.ref a, .int (nI M.length), .int x, .int y, .int g, .int t])), (a, .inl (cI, 1024, .inl fw)), (w2, .inr (1, [.ref a2, .int (nI M2.length), .int x2, .int y2, .int g2, .int t2])), (a2, .inl (cI, 1024, .inl fv)), (ro, .inr (2, [.ref bo, .int (nI O.length)])), (bo, .inl (cB, 4110, .inl fo)), (ri, .inr (2, [.ref bi, .int (nI I.length)])), (bi, .inl (cB, 8192, .inl fi)), (d, .inr (3, [.ref ri, .int (nI (rNx q)), .int (nI (rAn q)), .int (rFt q), .int (rPl q)]))] sz) := by
  refine Met.ofW (cc := prog_1_method_13_code) (maxL := 2) (ret := (some .int)) (by decide) rfl ?_
  intro p e s m args below meth c s₁ B hml hv
  obtain ⟨rfl, hsz, hP, hK, hD0⟩ := hv
  have hx := B.exec
  have hb := B.bytes
  have hr := B.returns
  have hts := fun w h => atoms_spec (ws := w_Tape_begin) B.pre w (List.mem_cons_of_mem _ h)
  have hown : s.vm.findClass "DemoTape" = some m.cls := findClass_of_methodNamed B.named
  have hlocks := B.notSynchronized
  subst hsz
  have hD := hD0.self (sz := s.heap.size)
  generalize hAe : va_A ([(h0, .inr (0, [.ref w, .ref w2, .ref ro, .ref ri, .ref d])), (w, .inr (1, [.ref a, .int (nI M.length), .int x, .int y, .int g, .int t])), (a, .inl (cI, 1024, .inl fw)), (w2, .inr (1, [.ref a2, .int (nI M2.length), .int x2, .int y2, .int g2, .int t2])), (a2, .inl (cI, 1024, .inl fv)), (ro, .inr (2, [.ref bo, .int (nI O.length)])), (bo, .inl (cB, 4110, .inl fo)), (ri, .inr (2, [.ref bi, .int (nI I.length)])), (bi, .inl (cB, 8192, .inl fi)), (d, .inr (3, [.ref ri, .int (nI (rNx q)), .int (nI (rAn q)), .int (rFt q), .int (rPl q)]))] : va_W) s.heap.size = A at hD ⊢
  have hA : ∀ q : Nat, s.heap.size ≤ q → A q := fun q h => by rw [← hAe]; exact Or.inr h
  have hS : va_S A s.heap s.heap [] := va_S.rf
  have hP : va_P (dC, dI) classes [(h0, .inr (0, [.ref w, .ref w2, .ref ro, .ref ri, .ref d])), (w, .inr (1, [.ref a, .int (nI M.length), .int x, .int y, .int g, .int t])), (a, .inl (cI, 1024, .inl fw)), (w2, .inr (1, [.ref a2, .int (nI M2.length), .int x2, .int y2, .int g2, .int t2])), (a2, .inl (cI, 1024, .inl fv)), (ro, .inr (2, [.ref bo, .int (nI O.length)])), (bo, .inl (cB, 4110, .inl fo)), (ri, .inr (2, [.ref bi, .int (nI I.length)])), (bi, .inl (cB, 8192, .inl fi)), (d, .inr (3, [.ref ri, .int (nI (rNx q)), .int (nI (rAn q)), .int (rFt q), .int (rPl q)]))] s.heap := hP
  have hl := lv_entry ([.ref h0, .int pw]) (n := 2) (Nat.le_of_ble_eq_true rfl)
  rw [lg_entry_eq]
  generalize (lg_sl ([.ref h0, .int pw]) ++ List.replicate (2 - (lg_sl ([.ref h0, .int pw])).length) Slot.unset).toArray = ls at hl ⊢
  have hl : lv_has ls 2 [(0, .ref h0), (1, .int pw)] := hl
  refine lv_aload_n hx hb d_Tape_begin_0 rfl (lv_at hl 0 rfl) ?_
  refine va_get (D := (dC, dI)) (ci := 0) (v := .ref w) (C := "DemoTape") (T := F_Tape) (N := 5) hx hb hts i_Tape hown hK hP 0 rfl rfl 0 (by decide) (hts _ mw106) (fun _ h9 => h9) rfl d_Tape_begin_1 ?_
  refine lv_iload_n hx hb d_Tape_begin_4 rfl (lv_at hl 1 rfl) ?_
  refine kq_i (wr := [(h0, .inr (0, [.ref w, .ref w2, .ref ro, .ref ri, .ref d])), (w2, .inr (1, [.ref a2, .int (nI M2.length), .int x2, .int y2, .int g2, .int t2])), (a2, .inl (cI, 1024, .inl fv)), (ro, .inr (2, [.ref bo, .int (nI O.length)])), (bo, .inl (cB, 4110, .inl fo)), (ri, .inr (2, [.ref bi, .int (nI I.length)])), (bi, .inl (cB, 8192, .inl fi)), (d, .inr (3, [.ref ri, .int (nI (rNx q)), .int (nI (rAn q)), .int (rFt q), .int (rPl q)]))]) (va_runV (As := [.int pw]) (rest := []) ⟨hx, hb, hml, hown, hts⟩ (c_Walk_startPart l dC dI cI cB cZ _ w a fw M x y g t pw ) (cwV 1 hts (gV mw352 mw353 mw354 mw26 mw355) rfl rfl rfl (by decide +kernel) ⟨Nat.le_of_ble_eq_true rfl, Nat.le_of_ble_eq_true rfl⟩) (kpV (wc := [(w, .inr (1, [.ref a, .int (nI M.length), .int x, .int y, .int g, .int t])), (a, .inl (cI, 1024, .inl fw))]) (q0 := 1) (ci := 1) hK hP hD [1, 2] rfl (by decide) rfl rfl rfl) rfl rfl hl.1 rfl (lv_room (Nat.le_of_ble_eq_true rfl)) d_Tape_begin_5 ⟨Nat.le_of_ble_eq_true rfl, Nat.le_of_ble_eq_true rfl⟩) hP hD hS hA [1, 2] [0, 3, 4, 5, 6, 7, 8, 9] [0, 8, 9, 1, 2, 3, 4, 5, 6, 7] rfl rfl (by decide) (by decide) rfl (fun r_5 H locs hw hP hS => ?_)
  have e_5 := hw
  refine kt_i e_5 ?_
  exact kr_i (v := kStart x y g t pw) () hx hb hr rfl hK (hP.sub [0, 1, 2, 3, 4, 5, 6, 7, 8, 9] (rfl)) (hD.sub [0, 1, 2, 3, 4, 5, 6, 7, 8, 9] (by decide) (rfl)) hS (by first | with_reducible rfl | with_reducible assumption | rfl | omega) d_Tape_begin_8 hlocks
abbrev Qc_T_byteAt (dC : Nat → ClassId) (dI : Nat → Nat → Nat) (cI cB cZ : ClassId) (h0 : Nat) (w : Nat) (a : Nat) (fw : Nat → Int32) (M : List Int32) (x : Int32) (y : Int32) (g : Int32) (t : Int32) (w2 : Nat) (a2 : Nat) (fv : Nat → Int32) (M2 : List Int32) (x2 : Int32) (y2 : Int32) (g2 : Int32) (t2 : Int32) (ro : Nat) (bo : Nat) (fo : Nat → Int32) (O : List Nat) (ri : Nat) (bi : Nat) (fi : Nat → Int32) (I : List Nat) (d : Nat) (q : RS) (pk : Int32) (pz : Int32) (A : Nat → Prop) := va_Qi (fun (r9 : Int32) (_ : Unit) => (r9 = if pz = 0 then kGetB O pk else kGetB I pk)) (ka (dC, dI) classes [(cI, .int), (cB, .byte), (cZ, .boolean)] (fun (_ : Unit) => [(h0, .inr (0, [.ref w, .ref w2, .ref ro, .ref ri, .ref d])), (w, .inr (1, [.ref a, .int (nI M.length), .int x, .int y, .int g, .int t])), (a, .inl (cI, 1024, .inl fw)), (w2, .inr (1, [.ref a2, .int (nI M2.length), .int x2, .int y2, .int g2, .int t2])), (a2, .inl (cI, 1024, .inl fv)), (ro, .inr (2, [.ref bo, .int (nI O.length)])), (bo, .inl (cB, 4110, .inl fo)), (ri, .inr (2, [.ref bi, .int (nI I.length)])), (bi, .inl (cB, 8192, .inl fi)), (d, .inr (3, [.ref ri, .int (nI (rNx q)), .int (nI (rAn q)), .int (rFt q), .int (rPl q)]))]) A) A
set_option maxHeartbeats 1000000 in
set_option maxRecDepth 100000 in
/-- byteAt -/
theorem c_T_byteAt (l : Launch) (dC : Nat → ClassId) (dI : Nat → Nat → Nat) (cI cB cZ : ClassId) (sz : Nat) (h0 : Nat) (w : Nat) (a : Nat) (fw : Nat → Int32) (M : List Int32) (x : Int32) (y : Int32) (g : Int32) (t : Int32) (w2 : Nat) (a2 : Nat) (fv : Nat → Int32) (M2 : List Int32) (x2 : Int32) (y2 : Int32) (g2 : Int32) (t2 : Int32) (ro : Nat) (bo : Nat) (fo : Nat → Int32) (O : List Nat) (ri : Nat) (bi : Nat) (fi : Nat → Int32) (I : List Nat) (d : Nat) (q : RS) (pk : Int32) (pz : Int32) (hW : WRow fw M) (hV : WRow fv M2) (hO : BRow 4110 fo O) (hI : BRow 8192 fi I) : Met l y_Tape_byteAt w_Tape_byteAt ({ frames := 1, cells := 0, slots := 0, locals := 21 }) (va_Pc [.ref h0, .int pk, .int pz] (kp (dC, dI) classes [(cI, .int), (cB, .byte), (cZ, .boolean)] [(h0, .inr (0, [.ref w, .ref w2, .ref ro, .ref ri, .ref d])), (w, .inr (1, [.ref a, .int (nI M.length), .int x, .int y, .int g, .int t])), (a, .inl (cI, 1024, .inl fw)), (w2, .inr (1, [.ref a2, .int (nI M2.length), .int x2, .int y2, .int g2, .int t2])), (a2, .inl (cI, 1024, .inl fv)), (ro, .inr (2, [.ref bo, .int (nI O.length)])), (bo, .inl (cB, 4110, .inl fo)), (ri, .inr (2, [.ref bi, .int (nI I.length)])), (bi, .inl (cB, 8192, .inl fi)), (d, .inr (3, [.ref ri, .int (nI (rNx q)), .int (nI (rAn q)), .int (rFt q), .int (rPl q)]))] sz)) (Qc_T_byteAt dC dI cI cB cZ h0 w a fw M x y g t w2 a2 fv M2 x2 y2 g2 t2 ro bo fo O ri bi fi I d q pk pz (va_A [(h0, .inr (0, [.ref w, .ref w2, .ref ro, .ref ri, .ref d])), (w, .inr (1, [.ref a, .int (nI M.length), .int x, .int y, .int g, .int t])), (a, .inl (cI, 1024, .inl fw)), (w2, .inr (1, [.ref a2, .int (nI M2.length), .int x2, .int y2, .int g2, .int t2])), (a2, .inl (cI, 1024, .inl fv)), (ro, .inr (2, [.ref bo, .int (nI O.length)])), (bo, .inl (cB, 4110, .inl fo)), (ri, .inr (2, [.ref bi, .int (nI I.length)])), (bi, .inl (cB, 8192, .inl fi)), (d, .inr (3, [.ref ri, .int (nI (rNx q)), .int (nI (rAn q)), .int (rFt q), .int (rPl q)]))] sz)) 0 0 (va_A [(h0, .inr (0, [.ref w, .ref w2, .ref ro, .ref ri, .ref d])), (w, .inr (1, [.ref a, .int (nI M.length), .int x, .int y, .int g, .int t])), (a, .inl (cI, 1024, .inl fw)), (w2, .inr (1, [.ref a2, .int (nI M2.length), .int x2, .int y2, .int g2, .int t2])), (a2, .inl (cI, 1024, .inl fv)), (ro, .inr (2, [.ref bo, .int (nI O.length)])), (bo, .inl (cB, 4110, .inl fo)), (ri, .inr (2, [.ref bi, .int (nI I.length)])), (bi, .inl (cB, 8192, .inl fi)), (d, .inr (3, [.ref ri, .int (nI (rNx q)), .int (nI (rAn q)), .int (rFt q), .int (rPl q)]))] sz) := by
  refine Met.ofW (cc := prog_1_method_14_code) (maxL := 3) (ret := (some .int)) (by decide) rfl ?_
  intro p e s m args below meth c s₁ B hml hv
  obtain ⟨rfl, hsz, hP, hK, hD0⟩ := hv
  have hx := B.exec
  have hb := B.bytes
  have hr := B.returns
  have hts := fun w h => atoms_spec (ws := w_Tape_byteAt) B.pre w (List.mem_cons_of_mem _ h)
  have hown : s.vm.findClass "DemoTape" = some m.cls := findClass_of_methodNamed B.named
  have hlocks := B.notSynchronized
  subst hsz
  have hD := hD0.self (sz := s.heap.size)
  generalize hAe : va_A ([(h0, .inr (0, [.ref w, .ref w2, .ref ro, .ref ri, .ref d])), (w, .inr (1, [.ref a, .int (nI M.length), .int x, .int y, .int g, .int t])), (a, .inl (cI, 1024, .inl fw)), (w2, .inr (1, [.ref a2, .int (nI M2.length), .int x2, .int y2, .int g2, .int t2])), (a2, .inl (cI, 1024, .inl fv)), (ro, .inr (2, [.ref bo, .int (nI O.length)])), (bo, .inl (cB, 4110, .inl fo)), (ri, .inr (2, [.ref bi, .int (nI I.length)])), (bi, .inl (cB, 8192, .inl fi)), (d, .inr (3, [.ref ri, .int (nI (rNx q)), .int (nI (rAn q)), .int (rFt q), .int (rPl q)]))] : va_W) s.heap.size = A at hD ⊢
  have hA : ∀ q : Nat, s.heap.size ≤ q → A q := fun q h => by rw [← hAe]; exact Or.inr h
  have hS : va_S A s.heap s.heap [] := va_S.rf
  have hP : va_P (dC, dI) classes [(h0, .inr (0, [.ref w, .ref w2, .ref ro, .ref ri, .ref d])), (w, .inr (1, [.ref a, .int (nI M.length), .int x, .int y, .int g, .int t])), (a, .inl (cI, 1024, .inl fw)), (w2, .inr (1, [.ref a2, .int (nI M2.length), .int x2, .int y2, .int g2, .int t2])), (a2, .inl (cI, 1024, .inl fv)), (ro, .inr (2, [.ref bo, .int (nI O.length)])), (bo, .inl (cB, 4110, .inl fo)), (ri, .inr (2, [.ref bi, .int (nI I.length)])), (bi, .inl (cB, 8192, .inl fi)), (d, .inr (3, [.ref ri, .int (nI (rNx q)), .int (nI (rAn q)), .int (rFt q), .int (rPl q)]))] s.heap := hP
  have hl := lv_entry ([.ref h0, .int pk, .int pz]) (n := 3) (Nat.le_of_ble_eq_true rfl)
  rw [lg_entry_eq]
  generalize (lg_sl ([.ref h0, .int pk, .int pz]) ++ List.replicate (3 - (lg_sl ([.ref h0, .int pk, .int pz])).length) Slot.unset).toArray = ls at hl ⊢
  have hl : lv_has ls 3 [(0, .ref h0), (1, .int pk), (2, .int pz)] := hl
  refine lv_iload_n hx hb d_Tape_byteAt_0 rfl (lv_at hl 2 rfl) ?_
  refine lv_if_eq (tgt := 15) hx hb d_Tape_byteAt_1 (by decide) (fun c_1 => ?_) (fun c_1 => ?_)
  · refine lv_aload_n hx hb d_Tape_byteAt_15 rfl (lv_at hl 0 rfl) ?_
    refine va_get (D := (dC, dI)) (ci := 0) (v := .ref ro) (C := "DemoTape") (T := F_Tape) (N := 5) hx hb hts i_Tape hown hK hP 0 rfl rfl 2 (by decide) (hts _ mw108) (fun _ h9 => h9) rfl d_Tape_byteAt_16 ?_
    refine lv_iload_n hx hb d_Tape_byteAt_19 rfl (lv_at hl 1 rfl) ?_
    refine kq_i (wr := [(h0, .inr (0, [.ref w, .ref w2, .ref ro, .ref ri, .ref d])), (w, .inr (1, [.ref a, .int (nI M.length), .int x, .int y, .int g, .int t])), (a, .inl (cI, 1024, .inl fw)), (w2, .inr (1, [.ref a2, .int (nI M2.length), .int x2, .int y2, .int g2, .int t2])), (a2, .inl (cI, 1024, .inl fv)), (ri, .inr (2, [.ref bi, .int (nI I.length)])), (bi, .inl (cB, 8192, .inl fi)), (d, .inr (3, [.ref ri, .int (nI (rNx q)), .int (nI (rAn q)), .int (rFt q), .int (rPl q)]))]) (va_runV (As := [.int pk]) (rest := []) ⟨hx, hb, hml, hown, hts⟩ (c_Row_get l dC dI cI cB cZ _ ro bo 4110 fo O pk (by first | with_reducible assumption | omega | decide)) (cwV 1 hts (gV mw361 mw234 mw235 mw27 mw236) rfl rfl rfl (by decide +kernel) ⟨Nat.le_of_ble_eq_true rfl, Nat.le_of_ble_eq_true rfl⟩) (kpV (wc := [(ro, .inr (2, [.ref bo, .int (nI O.length)])), (bo, .inl (cB, 4110, .inl fo))]) (q0 := 5) (ci := 2) hK hP hD [5, 6] rfl (by decide) rfl rfl rfl) rfl rfl hl.1 rfl (lv_room (Nat.le_of_ble_eq_true rfl)) d_Tape_byteAt_20 ⟨Nat.le_of_ble_eq_true rfl, Nat.le_of_ble_eq_true rfl⟩) hP hD hS hA [5, 6] [0, 1, 2, 3, 4, 7, 8, 9] [0, 1, 2, 3, 4, 8, 9, 5, 6, 7] rfl rfl (by decide) (by decide) rfl (fun r_20 H locs hw hP hS => ?_)
    have e_20 := hw
    refine kt_i e_20 ?_
    exact kr_i (v := kGetB O pk) () hx hb hr rfl hK (hP.sub [0, 1, 2, 3, 4, 5, 6, 7, 8, 9] (rfl)) (hD.sub [0, 1, 2, 3, 4, 5, 6, 7, 8, 9] (by decide) (rfl)) hS ((if_pos c_1).symm) d_Tape_byteAt_23 hlocks
  · refine lv_aload_n hx hb d_Tape_byteAt_4 rfl (lv_at hl 0 rfl) ?_
    refine va_get (D := (dC, dI)) (ci := 0) (v := .ref ri) (C := "DemoTape") (T := F_Tape) (N := 5) hx hb hts i_Tape hown hK hP 0 rfl rfl 3 (by decide) (hts _ mw109) (fun _ h9 => h9) rfl d_Tape_byteAt_5 ?_
    refine lv_iload_n hx hb d_Tape_byteAt_8 rfl (lv_at hl 1 rfl) ?_
    refine kq_i (wr := [(h0, .inr (0, [.ref w, .ref w2, .ref ro, .ref ri, .ref d])), (w, .inr (1, [.ref a, .int (nI M.length), .int x, .int y, .int g, .int t])), (a, .inl (cI, 1024, .inl fw)), (w2, .inr (1, [.ref a2, .int (nI M2.length), .int x2, .int y2, .int g2, .int t2])), (a2, .inl (cI, 1024, .inl fv)), (ro, .inr (2, [.ref bo, .int (nI O.length)])), (bo, .inl (cB, 4110, .inl fo)), (d, .inr (3, [.ref ri, .int (nI (rNx q)), .int (nI (rAn q)), .int (rFt q), .int (rPl q)]))]) (va_runV (As := [.int pk]) (rest := []) ⟨hx, hb, hml, hown, hts⟩ (c_Row_get l dC dI cI cB cZ _ ri bi 8192 fi I pk (by first | with_reducible assumption | omega | decide)) (cwV 1 hts (gV mw361 mw234 mw235 mw27 mw236) rfl rfl rfl (by decide +kernel) ⟨Nat.le_of_ble_eq_true rfl, Nat.le_of_ble_eq_true rfl⟩) (kpV (wc := [(ri, .inr (2, [.ref bi, .int (nI I.length)])), (bi, .inl (cB, 8192, .inl fi))]) (q0 := 7) (ci := 2) hK hP hD [7, 8] rfl (by decide) rfl rfl rfl) rfl rfl hl.1 rfl (lv_room (Nat.le_of_ble_eq_true rfl)) d_Tape_byteAt_9 ⟨Nat.le_of_ble_eq_true rfl, Nat.le_of_ble_eq_true rfl⟩) hP hD hS hA [7, 8] [0, 1, 2, 3, 4, 5, 6, 9] [0, 1, 2, 3, 4, 5, 6, 8, 9, 7] rfl rfl (by decide) (by decide) rfl (fun r_9 H locs hw hP hS => ?_)
    have e_9 := hw
    refine kt_i e_9 ?_
    refine lv_goto (tgt := 23) hx hb d_Tape_byteAt_12 (by decide) ?_
    exact kr_i (v := kGetB I pk) () hx hb hr rfl hK (hP.sub [0, 1, 2, 3, 4, 5, 6, 7, 8, 9] (rfl)) (hD.sub [0, 1, 2, 3, 4, 5, 6, 7, 8, 9] (by decide) (rfl)) hS ((if_neg c_1).symm) d_Tape_byteAt_23 hlocks
abbrev Qc_T_look (dC : Nat → ClassId) (dI : Nat → Nat → Nat) (cI cB cZ : ClassId) (h0 : Nat) (w : Nat) (a : Nat) (fw : Nat → Int32) (M : List Int32) (x : Int32) (y : Int32) (g : Int32) (t : Int32) (w2 : Nat) (a2 : Nat) (fv : Nat → Int32) (M2 : List Int32) (x2 : Int32) (y2 : Int32) (g2 : Int32) (t2 : Int32) (ro : Nat) (bo : Nat) (fo : Nat → Int32) (O : List Nat) (ri : Nat) (bi : Nat) (fi : Nat → Int32) (I : List Nat) (d : Nat) (q : RS) (pw : Int32) (A : Nat → Prop) := va_Qi (fun (r9 : Int32) (_ : Unit) => (r9 = kLook M O I q pw)) (ka (dC, dI) classes [(cI, .int), (cB, .byte), (cZ, .boolean)] (fun (_ : Unit) => [(h0, .inr (0, [.ref w, .ref w2, .ref ro, .ref ri, .ref d])), (w, .inr (1, [.ref a, .int (nI M.length), .int x, .int y, .int g, .int t])), (a, .inl (cI, 1024, .inl fw)), (w2, .inr (1, [.ref a2, .int (nI M2.length), .int x2, .int y2, .int g2, .int t2])), (a2, .inl (cI, 1024, .inl fv)), (ro, .inr (2, [.ref bo, .int (nI O.length)])), (bo, .inl (cB, 4110, .inl fo)), (ri, .inr (2, [.ref bi, .int (nI I.length)])), (bi, .inl (cB, 8192, .inl fi)), (d, .inr (3, [.ref ri, .int (nI (rNx q)), .int (nI (rAn q)), .int (rFt q), .int (rPl q)]))]) A) A
set_option maxHeartbeats 1000000 in
set_option maxRecDepth 100000 in
/-- look -/
theorem c_T_look (l : Launch) (dC : Nat → ClassId) (dI : Nat → Nat → Nat) (cI cB cZ : ClassId) (sz : Nat) (h0 : Nat) (w : Nat) (a : Nat) (fw : Nat → Int32) (M : List Int32) (x : Int32) (y : Int32) (g : Int32) (t : Int32) (w2 : Nat) (a2 : Nat) (fv : Nat → Int32) (M2 : List Int32) (x2 : Int32) (y2 : Int32) (g2 : Int32) (t2 : Int32) (ro : Nat) (bo : Nat) (fo : Nat → Int32) (O : List Nat) (ri : Nat) (bi : Nat) (fi : Nat → Int32) (I : List Nat) (d : Nat) (q : RS) (pw : Int32) (hW : WRow fw M) (hV : WRow fv M2) (hO : BRow 4110 fo O) (hI : BRow 8192 fi I) : Met l y_Tape_look w_Tape_look ({ frames := 3, cells := 0, slots := 0, locals := 66 }) (va_Pc [.ref h0, .int pw] (kp (dC, dI) classes [(cI, .int), (cB, .byte), (cZ, .boolean)] [(h0, .inr (0, [.ref w, .ref w2, .ref ro, .ref ri, .ref d])), (w, .inr (1, [.ref a, .int (nI M.length), .int x, .int y, .int g, .int t])), (a, .inl (cI, 1024, .inl fw)), (w2, .inr (1, [.ref a2, .int (nI M2.length), .int x2, .int y2, .int g2, .int t2])), (a2, .inl (cI, 1024, .inl fv)), (ro, .inr (2, [.ref bo, .int (nI O.length)])), (bo, .inl (cB, 4110, .inl fo)), (ri, .inr (2, [.ref bi, .int (nI I.length)])), (bi, .inl (cB, 8192, .inl fi)), (d, .inr (3, [.ref ri, .int (nI (rNx q)), .int (nI (rAn q)), .int (rFt q), .int (rPl q)]))] sz)) (Qc_T_look dC dI cI cB cZ h0 w a fw M x y g t w2 a2 fv M2 x2 y2 g2 t2 ro bo fo O ri bi fi I d q pw (va_A [(h0, .inr (0, [.ref w, .ref w2, .ref ro, .ref ri, .ref d])), (w, .inr (1, [.ref a, .int (nI M.length), .int x, .int y, .int g, .int t])), (a, .inl (cI, 1024, .inl fw)), (w2, .inr (1, [.ref a2, .int (nI M2.length), .int x2, .int y2, .int g2, .int t2])), (a2, .inl (cI, 1024, .inl fv)), (ro, .inr (2, [.ref bo, .int (nI O.length)])), (bo, .inl (cB, 4110, .inl fo)), (ri, .inr (2, [.ref bi, .int (nI I.length)])), (bi, .inl (cB, 8192, .inl fi)), (d, .inr (3, [.ref ri, .int (nI (rNx q)), .int (nI (rAn q)), .int (rFt q), .int (rPl q)]))] sz)) 0 0 (va_A [(h0, .inr (0, [.ref w, .ref w2, .ref ro, .ref ri, .ref d])), (w, .inr (1, [.ref a, .int (nI M.length), .int x, .int y, .int g, .int t])), (a, .inl (cI, 1024, .inl fw)), (w2, .inr (1, [.ref a2, .int (nI M2.length), .int x2, .int y2, .int g2, .int t2])), (a2, .inl (cI, 1024, .inl fv)), (ro, .inr (2, [.ref bo, .int (nI O.length)])), (bo, .inl (cB, 4110, .inl fo)), (ri, .inr (2, [.ref bi, .int (nI I.length)])), (bi, .inl (cB, 8192, .inl fi)), (d, .inr (3, [.ref ri, .int (nI (rNx q)), .int (nI (rAn q)), .int (rFt q), .int (rPl q)]))] sz) := by
  refine Met.ofW (cc := prog_1_method_15_code) (maxL := 2) (ret := (some .int)) (by decide) rfl ?_
  intro p e s m args below meth c s₁ B hml hv
  obtain ⟨rfl, hsz, hP, hK, hD0⟩ := hv
  have hx := B.exec
  have hb := B.bytes
  have hr := B.returns
  have hts := fun w h => atoms_spec (ws := w_Tape_look) B.pre w (List.mem_cons_of_mem _ h)
  have hown : s.vm.findClass "DemoTape" = some m.cls := findClass_of_methodNamed B.named
  have hlocks := B.notSynchronized
  subst hsz
  have hD := hD0.self (sz := s.heap.size)
  generalize hAe : va_A ([(h0, .inr (0, [.ref w, .ref w2, .ref ro, .ref ri, .ref d])), (w, .inr (1, [.ref a, .int (nI M.length), .int x, .int y, .int g, .int t])), (a, .inl (cI, 1024, .inl fw)), (w2, .inr (1, [.ref a2, .int (nI M2.length), .int x2, .int y2, .int g2, .int t2])), (a2, .inl (cI, 1024, .inl fv)), (ro, .inr (2, [.ref bo, .int (nI O.length)])), (bo, .inl (cB, 4110, .inl fo)), (ri, .inr (2, [.ref bi, .int (nI I.length)])), (bi, .inl (cB, 8192, .inl fi)), (d, .inr (3, [.ref ri, .int (nI (rNx q)), .int (nI (rAn q)), .int (rFt q), .int (rPl q)]))] : va_W) s.heap.size = A at hD ⊢
  have hA : ∀ q : Nat, s.heap.size ≤ q → A q := fun q h => by rw [← hAe]; exact Or.inr h
  have hS : va_S A s.heap s.heap [] := va_S.rf
  have hP : va_P (dC, dI) classes [(h0, .inr (0, [.ref w, .ref w2, .ref ro, .ref ri, .ref d])), (w, .inr (1, [.ref a, .int (nI M.length), .int x, .int y, .int g, .int t])), (a, .inl (cI, 1024, .inl fw)), (w2, .inr (1, [.ref a2, .int (nI M2.length), .int x2, .int y2, .int g2, .int t2])), (a2, .inl (cI, 1024, .inl fv)), (ro, .inr (2, [.ref bo, .int (nI O.length)])), (bo, .inl (cB, 4110, .inl fo)), (ri, .inr (2, [.ref bi, .int (nI I.length)])), (bi, .inl (cB, 8192, .inl fi)), (d, .inr (3, [.ref ri, .int (nI (rNx q)), .int (nI (rAn q)), .int (rFt q), .int (rPl q)]))] s.heap := hP
  have hl := lv_entry ([.ref h0, .int pw]) (n := 2) (Nat.le_of_ble_eq_true rfl)
  rw [lg_entry_eq]
  generalize (lg_sl ([.ref h0, .int pw]) ++ List.replicate (2 - (lg_sl ([.ref h0, .int pw])).length) Slot.unset).toArray = ls at hl ⊢
  have hl : lv_has ls 2 [(0, .ref h0), (1, .int pw)] := hl
  refine lv_iload_n hx hb d_Tape_look_0 rfl (lv_at hl 1 rfl) ?_
  by_cases c_1 : pw.toInt < 0 ∨ 6 < pw.toInt
  · refine lv_tableOut (tgt := 100) hx hb d_Tape_look_1 c_1 (by decide) ?_
    refine lv_iconst (v := -1) hx hb d_Tape_look_100 (by decide) ?_
    exact kr_i (v := -1) () hx hb hr rfl hK (hP.sub [0, 1, 2, 3, 4, 5, 6, 7, 8, 9] (rfl)) (hD.sub [0, 1, 2, 3, 4, 5, 6, 7, 8, 9] (by decide) (rfl)) hS ((kLook_out c_1).symm) d_Tape_look_101 hlocks
  · by_cases c_1_0 : pw = 0
    · refine lv_tableIn (tgt := 44) (off := 43) hx hb d_Tape_look_1 (by rw [c_1_0]; decide) (by rw [c_1_0]; decide) (by rw [c_1_0]; rfl) (by decide) ?_
      refine lv_aload_n hx hb d_Tape_look_44 rfl (lv_at hl 0 rfl) ?_
      refine va_get (D := (dC, dI)) (ci := 0) (v := .ref w) (C := "DemoTape") (T := F_Tape) (N := 5) hx hb hts i_Tape hown hK hP 0 rfl rfl 0 (by decide) (hts _ mw106) (fun _ h9 => h9) rfl d_Tape_look_45 ?_
      refine kq_i (wr := [(h0, .inr (0, [.ref w, .ref w2, .ref ro, .ref ri, .ref d])), (w2, .inr (1, [.ref a2, .int (nI M2.length), .int x2, .int y2, .int g2, .int t2])), (a2, .inl (cI, 1024, .inl fv)), (ro, .inr (2, [.ref bo, .int (nI O.length)])), (bo, .inl (cB, 4110, .inl fo)), (ri, .inr (2, [.ref bi, .int (nI I.length)])), (bi, .inl (cB, 8192, .inl fi)), (d, .inr (3, [.ref ri, .int (nI (rNx q)), .int (nI (rAn q)), .int (rFt q), .int (rPl q)]))]) (va_runV (As := []) (rest := []) ⟨hx, hb, hml, hown, hts⟩ (c_Walk_count l dC dI cI cB cZ _ w a fw M x y g t ) (cwV 0 hts (gV mw152 mw153 mw154 mw26 mw155) rfl rfl rfl (by decide +kernel) ⟨Nat.le_of_ble_eq_true rfl, Nat.le_of_ble_eq_true rfl⟩) (kpV (wc := [(w, .inr (1, [.ref a, .int (nI M.length), .int x, .int y, .int g, .int t])), (a, .inl (cI, 1024, .inl fw))]) (q0 := 1) (ci := 1) hK hP hD [1, 2] rfl (by decide) rfl rfl rfl) rfl rfl hl.1 rfl (lv_room (Nat.le_of_ble_eq_true rfl)) d_Tape_look_48 ⟨Nat.le_of_ble_eq_true rfl, Nat.le_of_ble_eq_true rfl⟩) hP hD hS hA [1, 2] [0, 3, 4, 5, 6, 7, 8, 9] [0, 8, 9, 1, 2, 3, 4, 5, 6, 7] rfl rfl (by decide) (by decide) rfl (fun r_48 H locs hw hP hS => ?_)
      have e_48 := hw
      refine kt_i e_48 ?_
      exact kr_i (v := nI M.length) () hx hb hr rfl hK (hP.sub [0, 1, 2, 3, 4, 5, 6, 7, 8, 9] (rfl)) (hD.sub [0, 1, 2, 3, 4, 5, 6, 7, 8, 9] (by decide) (rfl)) hS (by rw [c_1_0]; rfl) d_Tape_look_51 hlocks
    · by_cases c_1_1 : pw = 1
      · refine lv_tableIn (tgt := 52) (off := 51) hx hb d_Tape_look_1 (by rw [c_1_1]; decide) (by rw [c_1_1]; decide) (by rw [c_1_1]; rfl) (by decide) ?_
        refine lv_aload_n hx hb d_Tape_look_52 rfl (lv_at hl 0 rfl) ?_
        refine va_get (D := (dC, dI)) (ci := 0) (v := .ref w) (C := "DemoTape") (T := F_Tape) (N := 5) hx hb hts i_Tape hown hK hP 0 rfl rfl 0 (by decide) (hts _ mw106) (fun _ h9 => h9) rfl d_Tape_look_53 ?_
        refine kq_i (wr := [(h0, .inr (0, [.ref w, .ref w2, .ref ro, .ref ri, .ref d])), (w2, .inr (1, [.ref a2, .int (nI M2.length), .int x2, .int y2, .int g2, .int t2])), (a2, .inl (cI, 1024, .inl fv)), (ro, .inr (2, [.ref bo, .int (nI O.length)])), (bo, .inl (cB, 4110, .inl fo)), (ri, .inr (2, [.ref bi, .int (nI I.length)])), (bi, .inl (cB, 8192, .inl fi)), (d, .inr (3, [.ref ri, .int (nI (rNx q)), .int (nI (rAn q)), .int (rFt q), .int (rPl q)]))]) (va_runV (As := []) (rest := []) ⟨hx, hb, hml, hown, hts⟩ (c_Walk_countGroups l dC dI cI cB cZ _ w a fw M x y g t (by first | with_reducible assumption | omega | decide)) (cwV 0 hts (gV mw366 mw367 mw368 mw26 mw369) rfl rfl rfl (by decide +kernel) ⟨Nat.le_of_ble_eq_true rfl, Nat.le_of_ble_eq_true rfl⟩) (kpV (wc := [(w, .inr (1, [.ref a, .int (nI M.length), .int x, .int y, .int g, .int t])), (a, .inl (cI, 1024, .inl fw))]) (q0 := 1) (ci := 1) hK hP hD [1, 2] rfl (by decide) rfl rfl rfl) rfl rfl hl.1 rfl (lv_room (Nat.le_of_ble_eq_true rfl)) d_Tape_look_56 ⟨Nat.le_of_ble_eq_true rfl, Nat.le_of_ble_eq_true rfl⟩) hP hD hS hA [1, 2] [0, 3, 4, 5, 6, 7, 8, 9] [0, 8, 9, 1, 2, 3, 4, 5, 6, 7] rfl rfl (by decide) (by decide) rfl (fun r_56 H locs hw hP hS => ?_)
        have e_56 := hw
        refine kt_i e_56 ?_
        exact kr_i (v := nI (kGr 0 M).length) () hx hb hr rfl hK (hP.sub [0, 1, 2, 3, 4, 5, 6, 7, 8, 9] (rfl)) (hD.sub [0, 1, 2, 3, 4, 5, 6, 7, 8, 9] (by decide) (rfl)) hS (by rw [c_1_1]; rfl) d_Tape_look_59 hlocks
      · by_cases c_1_2 : pw = 2
        · refine lv_tableIn (tgt := 60) (off := 59) hx hb d_Tape_look_1 (by rw [c_1_2]; decide) (by rw [c_1_2]; decide) (by rw [c_1_2]; rfl) (by decide) ?_
          refine lv_aload_n hx hb d_Tape_look_60 rfl (lv_at hl 0 rfl) ?_
          refine va_get (D := (dC, dI)) (ci := 0) (v := .ref ro) (C := "DemoTape") (T := F_Tape) (N := 5) hx hb hts i_Tape hown hK hP 0 rfl rfl 2 (by decide) (hts _ mw108) (fun _ h9 => h9) rfl d_Tape_look_61 ?_
          refine kq_i (wr := [(h0, .inr (0, [.ref w, .ref w2, .ref ro, .ref ri, .ref d])), (w, .inr (1, [.ref a, .int (nI M.length), .int x, .int y, .int g, .int t])), (a, .inl (cI, 1024, .inl fw)), (w2, .inr (1, [.ref a2, .int (nI M2.length), .int x2, .int y2, .int g2, .int t2])), (a2, .inl (cI, 1024, .inl fv)), (ri, .inr (2, [.ref bi, .int (nI I.length)])), (bi, .inl (cB, 8192, .inl fi)), (d, .inr (3, [.ref ri, .int (nI (rNx q)), .int (nI (rAn q)), .int (rFt q), .int (rPl q)]))]) (va_runV (As := []) (rest := []) ⟨hx, hb, hml, hown, hts⟩ (c_Row_size l dC dI cI cB cZ _ ro bo 4110 fo O ) (cwV 0 hts (gV mw238 mw226 mw227 mw27 mw228) rfl rfl rfl (by decide +kernel) ⟨Nat.le_of_ble_eq_true rfl, Nat.le_of_ble_eq_true rfl⟩) (kpV (wc := [(ro, .inr (2, [.ref bo, .int (nI O.length)])), (bo, .inl (cB, 4110, .inl fo))]) (q0 := 5) (ci := 2) hK hP hD [5, 6] rfl (by decide) rfl rfl rfl) rfl rfl hl.1 rfl (lv_room (Nat.le_of_ble_eq_true rfl)) d_Tape_look_64 ⟨Nat.le_of_ble_eq_true rfl, Nat.le_of_ble_eq_true rfl⟩) hP hD hS hA [5, 6] [0, 1, 2, 3, 4, 7, 8, 9] [0, 1, 2, 3, 4, 8, 9, 5, 6, 7] rfl rfl (by decide) (by decide) rfl (fun r_64 H locs hw hP hS => ?_)
          have e_64 := hw
          refine kt_i e_64 ?_
          exact kr_i (v := nI O.length) () hx hb hr rfl hK (hP.sub [0, 1, 2, 3, 4, 5, 6, 7, 8, 9] (rfl)) (hD.sub [0, 1, 2, 3, 4, 5, 6, 7, 8, 9] (by decide) (rfl)) hS (by rw [c_1_2]; rfl) d_Tape_look_67 hlocks
        · by_cases c_1_3 : pw = 3
          · refine lv_tableIn (tgt := 68) (off := 67) hx hb d_Tape_look_1 (by rw [c_1_3]; decide) (by rw [c_1_3]; decide) (by rw [c_1_3]; rfl) (by decide) ?_
            refine lv_aload_n hx hb d_Tape_look_68 rfl (lv_at hl 0 rfl) ?_
            refine va_get (D := (dC, dI)) (ci := 0) (v := .ref ri) (C := "DemoTape") (T := F_Tape) (N := 5) hx hb hts i_Tape hown hK hP 0 rfl rfl 3 (by decide) (hts _ mw109) (fun _ h9 => h9) rfl d_Tape_look_69 ?_
            refine kq_i (wr := [(h0, .inr (0, [.ref w, .ref w2, .ref ro, .ref ri, .ref d])), (w, .inr (1, [.ref a, .int (nI M.length), .int x, .int y, .int g, .int t])), (a, .inl (cI, 1024, .inl fw)), (w2, .inr (1, [.ref a2, .int (nI M2.length), .int x2, .int y2, .int g2, .int t2])), (a2, .inl (cI, 1024, .inl fv)), (ro, .inr (2, [.ref bo, .int (nI O.length)])), (bo, .inl (cB, 4110, .inl fo)), (d, .inr (3, [.ref ri, .int (nI (rNx q)), .int (nI (rAn q)), .int (rFt q), .int (rPl q)]))]) (va_runV (As := []) (rest := []) ⟨hx, hb, hml, hown, hts⟩ (c_Row_size l dC dI cI cB cZ _ ri bi 8192 fi I ) (cwV 0 hts (gV mw238 mw226 mw227 mw27 mw228) rfl rfl rfl (by decide +kernel) ⟨Nat.le_of_ble_eq_true rfl, Nat.le_of_ble_eq_true rfl⟩) (kpV (wc := [(ri, .inr (2, [.ref bi, .int (nI I.length)])), (bi, .inl (cB, 8192, .inl fi))]) (q0 := 7) (ci := 2) hK hP hD [7, 8] rfl (by decide) rfl rfl rfl) rfl rfl hl.1 rfl (lv_room (Nat.le_of_ble_eq_true rfl)) d_Tape_look_72 ⟨Nat.le_of_ble_eq_true rfl, Nat.le_of_ble_eq_true rfl⟩) hP hD hS hA [7, 8] [0, 1, 2, 3, 4, 5, 6, 9] [0, 1, 2, 3, 4, 5, 6, 8, 9, 7] rfl rfl (by decide) (by decide) rfl (fun r_72 H locs hw hP hS => ?_)
            have e_72 := hw
            refine kt_i e_72 ?_
            exact kr_i (v := nI I.length) () hx hb hr rfl hK (hP.sub [0, 1, 2, 3, 4, 5, 6, 7, 8, 9] (rfl)) (hD.sub [0, 1, 2, 3, 4, 5, 6, 7, 8, 9] (by decide) (rfl)) hS (by rw [c_1_3]; rfl) d_Tape_look_75 hlocks
          · by_cases c_1_4 : pw = 4
            · refine lv_tableIn (tgt := 76) (off := 75) hx hb d_Tape_look_1 (by rw [c_1_4]; decide) (by rw [c_1_4]; decide) (by rw [c_1_4]; rfl) (by decide) ?_
              refine lv_aload_n hx hb d_Tape_look_76 rfl (lv_at hl 0 rfl) ?_
              refine va_get (D := (dC, dI)) (ci := 0) (v := .ref d) (C := "DemoTape") (T := F_Tape) (N := 5) hx hb hts i_Tape hown hK hP 0 rfl rfl 4 (by decide) (hts _ mw110) (fun _ h9 => h9) rfl d_Tape_look_77 ?_
              refine kq_i (wr := [(h0, .inr (0, [.ref w, .ref w2, .ref ro, .ref ri, .ref d])), (w, .inr (1, [.ref a, .int (nI M.length), .int x, .int y, .int g, .int t])), (a, .inl (cI, 1024, .inl fw)), (w2, .inr (1, [.ref a2, .int (nI M2.length), .int x2, .int y2, .int g2, .int t2])), (a2, .inl (cI, 1024, .inl fv)), (ro, .inr (2, [.ref bo, .int (nI O.length)])), (bo, .inl (cB, 4110, .inl fo)), (ri, .inr (2, [.ref bi, .int (nI I.length)])), (bi, .inl (cB, 8192, .inl fi))]) (va_runV (As := []) (rest := []) ⟨hx, hb, hml, hown, hts⟩ (c_Rd_fault l dC dI cI cB cZ _ d ri q ) (cwV 0 hts (gV mw334 mw335 mw336 mw29 mw337) rfl rfl rfl (by decide +kernel) ⟨Nat.le_of_ble_eq_true rfl, Nat.le_of_ble_eq_true rfl⟩) (kpV (wc := [(d, .inr (3, [.ref ri, .int (nI (rNx q)), .int (nI (rAn q)), .int (rFt q), .int (rPl q)]))]) (q0 := 9) (ci := 3) hK hP hD [9] rfl (by decide) rfl rfl rfl) rfl rfl hl.1 rfl (lv_room (Nat.le_of_ble_eq_true rfl)) d_Tape_look_80 ⟨Nat.le_of_ble_eq_true rfl, Nat.le_of_ble_eq_true rfl⟩) hP hD hS hA [9] [0, 1, 2, 3, 4, 5, 6, 7, 8] [0, 1, 2, 3, 4, 5, 6, 7, 8, 9] rfl rfl (by decide) (by decide) rfl (fun r_80 H locs hw hP hS => ?_)
              have e_80 := hw
              refine kt_i e_80 ?_
              exact kr_i (v := rFt q) () hx hb hr rfl hK (hP.sub [0, 1, 2, 3, 4, 5, 6, 7, 8, 9] (rfl)) (hD.sub [0, 1, 2, 3, 4, 5, 6, 7, 8, 9] (by decide) (rfl)) hS (by rw [c_1_4]; rfl) d_Tape_look_83 hlocks
            · by_cases c_1_5 : pw = 5
              · refine lv_tableIn (tgt := 84) (off := 83) hx hb d_Tape_look_1 (by rw [c_1_5]; decide) (by rw [c_1_5]; decide) (by rw [c_1_5]; rfl) (by decide) ?_
                refine lv_aload_n hx hb d_Tape_look_84 rfl (lv_at hl 0 rfl) ?_
                refine va_get (D := (dC, dI)) (ci := 0) (v := .ref d) (C := "DemoTape") (T := F_Tape) (N := 5) hx hb hts i_Tape hown hK hP 0 rfl rfl 4 (by decide) (hts _ mw110) (fun _ h9 => h9) rfl d_Tape_look_85 ?_
                refine kq_i (wr := [(h0, .inr (0, [.ref w, .ref w2, .ref ro, .ref ri, .ref d])), (w, .inr (1, [.ref a, .int (nI M.length), .int x, .int y, .int g, .int t])), (a, .inl (cI, 1024, .inl fw)), (w2, .inr (1, [.ref a2, .int (nI M2.length), .int x2, .int y2, .int g2, .int t2])), (a2, .inl (cI, 1024, .inl fv)), (ro, .inr (2, [.ref bo, .int (nI O.length)])), (bo, .inl (cB, 4110, .inl fo)), (ri, .inr (2, [.ref bi, .int (nI I.length)])), (bi, .inl (cB, 8192, .inl fi))]) (va_runV (As := []) (rest := []) ⟨hx, hb, hml, hown, hts⟩ (c_Rd_faultPlace l dC dI cI cB cZ _ d ri q ) (cwV 0 hts (gV mw370 mw371 mw372 mw29 mw373) rfl rfl rfl (by decide +kernel) ⟨Nat.le_of_ble_eq_true rfl, Nat.le_of_ble_eq_true rfl⟩) (kpV (wc := [(d, .inr (3, [.ref ri, .int (nI (rNx q)), .int (nI (rAn q)), .int (rFt q), .int (rPl q)]))]) (q0 := 9) (ci := 3) hK hP hD [9] rfl (by decide) rfl rfl rfl) rfl rfl hl.1 rfl (lv_room (Nat.le_of_ble_eq_true rfl)) d_Tape_look_88 ⟨Nat.le_of_ble_eq_true rfl, Nat.le_of_ble_eq_true rfl⟩) hP hD hS hA [9] [0, 1, 2, 3, 4, 5, 6, 7, 8] [0, 1, 2, 3, 4, 5, 6, 7, 8, 9] rfl rfl (by decide) (by decide) rfl (fun r_88 H locs hw hP hS => ?_)
                have e_88 := hw
                refine kt_i e_88 ?_
                exact kr_i (v := rPl q) () hx hb hr rfl hK (hP.sub [0, 1, 2, 3, 4, 5, 6, 7, 8, 9] (rfl)) (hD.sub [0, 1, 2, 3, 4, 5, 6, 7, 8, 9] (by decide) (rfl)) hS (by rw [c_1_5]; rfl) d_Tape_look_91 hlocks
              · have c_1_6 : pw = 6 := by have h100 : pw.toInt ≠ 0 := fun h => c_1_0 (Int32.toInt_inj.mp (h.trans (by decide))); have h101 : pw.toInt ≠ 1 := fun h => c_1_1 (Int32.toInt_inj.mp (h.trans (by decide))); have h102 : pw.toInt ≠ 2 := fun h => c_1_2 (Int32.toInt_inj.mp (h.trans (by decide))); have h103 : pw.toInt ≠ 3 := fun h => c_1_3 (Int32.toInt_inj.mp (h.trans (by decide))); have h104 : pw.toInt ≠ 4 := fun h => c_1_4 (Int32.toInt_inj.mp (h.trans (by decide))); have h105 : pw.toInt ≠ 5 := fun h => c_1_5 (Int32.toInt_inj.mp (h.trans (by decide))); apply Int32.toInt_inj.mp; have h0 : (6 : Int32).toInt = 6 := (by decide); rw [h0]; omega
                refine lv_tableIn (tgt := 92) (off := 91) hx hb d_Tape_look_1 (by rw [c_1_6]; decide) (by rw [c_1_6]; decide) (by rw [c_1_6]; rfl) (by decide) ?_
                refine lv_aload_n hx hb d_Tape_look_92 rfl (lv_at hl 0 rfl) ?_
                refine va_get (D := (dC, dI)) (ci := 0) (v := .ref w) (C := "DemoTape") (T := F_Tape) (N := 5) hx hb hts i_Tape hown hK hP 0 rfl rfl 0 (by decide) (hts _ mw106) (fun _ h9 => h9) rfl d_Tape_look_93 ?_
                refine kq_i (wr := [(h0, .inr (0, [.ref w, .ref w2, .ref ro, .ref ri, .ref d])), (w2, .inr (1, [.ref a2, .int (nI M2.length), .int x2, .int y2, .int g2, .int t2])), (a2, .inl (cI, 1024, .inl fv)), (ro, .inr (2, [.ref bo, .int (nI O.length)])), (bo, .inl (cB, 4110, .inl fo)), (ri, .inr (2, [.ref bi, .int (nI I.length)])), (bi, .inl (cB, 8192, .inl fi)), (d, .inr (3, [.ref ri, .int (nI (rNx q)), .int (nI (rAn q)), .int (rFt q), .int (rPl q)]))]) (va_runV (As := []) (rest := []) ⟨hx, hb, hml, hown, hts⟩ (c_Walk_countUses l dC dI cI cB cZ _ w a fw M x y g t (by first | with_reducible assumption | omega | decide)) (cwV 0 hts (gV mw374 mw375 mw376 mw26 mw377) rfl rfl rfl (by decide +kernel) ⟨Nat.le_of_ble_eq_true rfl, Nat.le_of_ble_eq_true rfl⟩) (kpV (wc := [(w, .inr (1, [.ref a, .int (nI M.length), .int x, .int y, .int g, .int t])), (a, .inl (cI, 1024, .inl fw))]) (q0 := 1) (ci := 1) hK hP hD [1, 2] rfl (by decide) rfl rfl rfl) rfl rfl hl.1 rfl (lv_room (Nat.le_of_ble_eq_true rfl)) d_Tape_look_96 ⟨Nat.le_of_ble_eq_true rfl, Nat.le_of_ble_eq_true rfl⟩) hP hD hS hA [1, 2] [0, 3, 4, 5, 6, 7, 8, 9] [0, 8, 9, 1, 2, 3, 4, 5, 6, 7] rfl rfl (by decide) (by decide) rfl (fun r_96 H locs hw hP hS => ?_)
                have e_96 := hw
                refine kt_i e_96 ?_
                exact kr_i (v := nI (kUses M)) () hx hb hr rfl hK (hP.sub [0, 1, 2, 3, 4, 5, 6, 7, 8, 9] (rfl)) (hD.sub [0, 1, 2, 3, 4, 5, 6, 7, 8, 9] (by decide) (rfl)) hS (by rw [c_1_6]; rfl) d_Tape_look_99 hlocks
end
section
abbrev Qc_T_read (dC : Nat → ClassId) (dI : Nat → Nat → Nat) (cI cB cZ : ClassId) (tM : Nat) (h0 : Nat) (w : Nat) (a : Nat) (fw : Nat → Int32) (M : List Int32) (x : Int32) (y : Int32) (g : Int32) (t : Int32) (w2 : Nat) (a2 : Nat) (fv : Nat → Int32) (M2 : List Int32) (x2 : Int32) (y2 : Int32) (g2 : Int32) (t2 : Int32) (ro : Nat) (bo : Nat) (fo : Nat → Int32) (O : List Nat) (ri : Nat) (bi : Nat) (fi : Nat → Int32) (I : List Nat) (d : Nat) (q : RS) (A : Nat → Prop) := va_Qi (fun (r9 : Int32) (u9 : Nat × Nat × (Nat → Int32) × List Int32 × Int32 × Int32 × Int32 × Int32 × Nat × Nat × (Nat → Int32) × List Int32 × Int32 × Int32 × Int32 × Int32) => (r9 = rFt (tRead I).2) ∧ ((u9.2.2.2.1, u9.2.2.2.2.1, u9.2.2.2.2.2.1, u9.2.2.2.2.2.2.1, u9.2.2.2.2.2.2.2.1) = if rFt (tRead I).2 = 0 then ((tRead I).1, (tPlace I (tQ1 I)).1, (tPlace I (tS1 I (tQ1 I))).1, (tTake I 63 (tS2 I (tQ1 I))).1, (tTake I 255 (tS3 I (tQ1 I))).1) else (M, x, y, g, t)) ∧ (WRow u9.2.2.1 u9.2.2.2.1) ∧ (WRow u9.2.2.2.2.2.2.2.2.2.2.1 u9.2.2.2.2.2.2.2.2.2.2.2.1)) (ka (dC, dI) classes [(cI, .int), (cB, .byte), (cZ, .boolean)] (fun (u9 : Nat × Nat × (Nat → Int32) × List Int32 × Int32 × Int32 × Int32 × Int32 × Nat × Nat × (Nat → Int32) × List Int32 × Int32 × Int32 × Int32 × Int32) => [(h0, .inr (0, [.ref u9.1, .ref u9.2.2.2.2.2.2.2.2.1, .ref ro, .ref ri, .ref d])), (u9.1, .inr (1, [.ref u9.2.1, .int (nI u9.2.2.2.1.length), .int u9.2.2.2.2.1, .int u9.2.2.2.2.2.1, .int u9.2.2.2.2.2.2.1, .int u9.2.2.2.2.2.2.2.1])), (u9.2.1, .inl (cI, 1024, .inl u9.2.2.1)), (u9.2.2.2.2.2.2.2.2.1, .inr (1, [.ref u9.2.2.2.2.2.2.2.2.2.1, .int (nI u9.2.2.2.2.2.2.2.2.2.2.2.1.length), .int u9.2.2.2.2.2.2.2.2.2.2.2.2.1, .int u9.2.2.2.2.2.2.2.2.2.2.2.2.2.1, .int u9.2.2.2.2.2.2.2.2.2.2.2.2.2.2.1, .int u9.2.2.2.2.2.2.2.2.2.2.2.2.2.2.2])), (u9.2.2.2.2.2.2.2.2.2.1, .inl (cI, 1024, .inl u9.2.2.2.2.2.2.2.2.2.2.1)), (ro, .inr (2, [.ref bo, .int (nI O.length)])), (bo, .inl (cB, 4110, .inl fo)), (ri, .inr (2, [.ref bi, .int (nI I.length)])), (bi, .inl (cB, 8192, .inl fi)), (d, .inr (3, [.ref ri, .int (nI (rNx (tRead I).2)), .int (nI (rAn (tRead I).2)), .int (rFt (tRead I).2), .int (rPl (tRead I).2)]))]) A) A
set_option maxHeartbeats 1000000 in
set_option maxRecDepth 100000 in
/-- read -/
theorem c_T_read (l : Launch) (dC : Nat → ClassId) (dI : Nat → Nat → Nat) (cI cB cZ : ClassId) (sz : Nat) (tM : Nat) (h0 : Nat) (w : Nat) (a : Nat) (fw : Nat → Int32) (M : List Int32) (x : Int32) (y : Int32) (g : Int32) (t : Int32) (w2 : Nat) (a2 : Nat) (fv : Nat → Int32) (M2 : List Int32) (x2 : Int32) (y2 : Int32) (g2 : Int32) (t2 : Int32) (ro : Nat) (bo : Nat) (fo : Nat → Int32) (O : List Nat) (ri : Nat) (bi : Nat) (fi : Nat → Int32) (I : List Nat) (d : Nat) (q : RS) (hW : WRow fw M) (hV : WRow fv M2) (hO : BRow 4110 fo O) (hI : BRow 8192 fi I) : Met l y_Tape_read w_Tape_read ({ frames := 6, cells := 0, slots := 0, locals := 139 }) (va_Pc [.ref h0] (kps (dC, dI) classes [(cI, .int), (cB, .byte), (cZ, .boolean)] [(h0, .inr (0, [.ref w, .ref w2, .ref ro, .ref ri, .ref d])), (w, .inr (1, [.ref a, .int (nI M.length), .int x, .int y, .int g, .int t])), (a, .inl (cI, 1024, .inl fw)), (w2, .inr (1, [.ref a2, .int (nI M2.length), .int x2, .int y2, .int g2, .int t2])), (a2, .inl (cI, 1024, .inl fv)), (ro, .inr (2, [.ref bo, .int (nI O.length)])), (bo, .inl (cB, 4110, .inl fo)), (ri, .inr (2, [.ref bi, .int (nI I.length)])), (bi, .inl (cB, 8192, .inl fi)), (d, .inr (3, [.ref ri, .int (nI (rNx q)), .int (nI (rAn q)), .int (rFt q), .int (rPl q)]))] sz tM)) (Qc_T_read dC dI cI cB cZ tM h0 w a fw M x y g t w2 a2 fv M2 x2 y2 g2 t2 ro bo fo O ri bi fi I d q (va_A [(h0, .inr (0, [.ref w, .ref w2, .ref ro, .ref ri, .ref d])), (w, .inr (1, [.ref a, .int (nI M.length), .int x, .int y, .int g, .int t])), (a, .inl (cI, 1024, .inl fw)), (w2, .inr (1, [.ref a2, .int (nI M2.length), .int x2, .int y2, .int g2, .int t2])), (a2, .inl (cI, 1024, .inl fv)), (ro, .inr (2, [.ref bo, .int (nI O.length)])), (bo, .inl (cB, 4110, .inl fo)), (ri, .inr (2, [.ref bi, .int (nI I.length)])), (bi, .inl (cB, 8192, .inl fi)), (d, .inr (3, [.ref ri, .int (nI (rNx q)), .int (nI (rAn q)), .int (rFt q), .int (rPl q)]))] sz)) 0 0 (va_A [(h0, .inr (0, [.ref w, .ref w2, .ref ro, .ref ri, .ref d])), (w, .inr (1, [.ref a, .int (nI M.length), .int x, .int y, .int g, .int t])), (a, .inl (cI, 1024, .inl fw)), (w2, .inr (1, [.ref a2, .int (nI M2.length), .int x2, .int y2, .int g2, .int t2])), (a2, .inl (cI, 1024, .inl fv)), (ro, .inr (2, [.ref bo, .int (nI O.length)])), (bo, .inl (cB, 4110, .inl fo)), (ri, .inr (2, [.ref bi, .int (nI I.length)])), (bi, .inl (cB, 8192, .inl fi)), (d, .inr (3, [.ref ri, .int (nI (rNx q)), .int (nI (rAn q)), .int (rFt q), .int (rPl q)]))] sz) := by
  refine Met.ofW (cc := prog_1_method_11_code) (maxL := 2) (ret := (some .int)) (by decide) rfl ?_
  intro p e s m args below meth c s₁ B hml hv
  obtain ⟨rfl, ⟨hsz, hP, hK, hD0⟩, hMk⟩ := hv
  have hx := B.exec
  have hb := B.bytes
  have hr := B.returns
  have hts := fun w h => atoms_spec (ws := w_Tape_read) B.pre w (List.mem_cons_of_mem _ h)
  have hown : s.vm.findClass "DemoTape" = some m.cls := findClass_of_methodNamed B.named
  have hlocks := B.notSynchronized
  subst hsz
  have hD := hD0.self (sz := s.heap.size)
  generalize hAe : va_A ([(h0, .inr (0, [.ref w, .ref w2, .ref ro, .ref ri, .ref d])), (w, .inr (1, [.ref a, .int (nI M.length), .int x, .int y, .int g, .int t])), (a, .inl (cI, 1024, .inl fw)), (w2, .inr (1, [.ref a2, .int (nI M2.length), .int x2, .int y2, .int g2, .int t2])), (a2, .inl (cI, 1024, .inl fv)), (ro, .inr (2, [.ref bo, .int (nI O.length)])), (bo, .inl (cB, 4110, .inl fo)), (ri, .inr (2, [.ref bi, .int (nI I.length)])), (bi, .inl (cB, 8192, .inl fi)), (d, .inr (3, [.ref ri, .int (nI (rNx q)), .int (nI (rAn q)), .int (rFt q), .int (rPl q)]))] : va_W) s.heap.size = A at hD hMk ⊢
  have hA : ∀ q : Nat, s.heap.size ≤ q → A q := fun q h => by rw [← hAe]; exact Or.inr h
  have hS : va_S A s.heap s.heap [] := va_S.rf
  have hP : va_P (dC, dI) classes [(h0, .inr (0, [.ref w, .ref w2, .ref ro, .ref ri, .ref d])), (w, .inr (1, [.ref a, .int (nI M.length), .int x, .int y, .int g, .int t])), (a, .inl (cI, 1024, .inl fw)), (w2, .inr (1, [.ref a2, .int (nI M2.length), .int x2, .int y2, .int g2, .int t2])), (a2, .inl (cI, 1024, .inl fv)), (ro, .inr (2, [.ref bo, .int (nI O.length)])), (bo, .inl (cB, 4110, .inl fo)), (ri, .inr (2, [.ref bi, .int (nI I.length)])), (bi, .inl (cB, 8192, .inl fi)), (d, .inr (3, [.ref ri, .int (nI (rNx q)), .int (nI (rAn q)), .int (rFt q), .int (rPl q)]))] s.heap := hP
  have hM := hW.2
  have hIl := hI.2.2.1
  have hOl := hO.2.2.1
  have hl := lv_entry ([.ref h0]) (n := 2) (Nat.le_of_ble_eq_true rfl)
  rw [lg_entry_eq]
  generalize (lg_sl ([.ref h0]) ++ List.replicate (2 - (lg_sl ([.ref h0])).length) Slot.unset).toArray = ls at hl ⊢
  have hl : lv_has ls 2 [(0, .ref h0)] := hl
  refine lv_aload_n hx hb d_Tape_read_0 rfl (lv_at hl 0 rfl) ?_
  refine va_get (D := (dC, dI)) (ci := 0) (v := .ref d) (C := "DemoTape") (T := F_Tape) (N := 5) hx hb hts i_Tape hown hK hP 0 rfl rfl 4 (by decide) (hts _ mw110) (fun _ h9 => h9) rfl d_Tape_read_1 ?_
  refine lv_aload_n hx hb d_Tape_read_4 rfl (lv_at hl 0 rfl) ?_
  refine va_get (D := (dC, dI)) (ci := 0) (v := .ref w2) (C := "DemoTape") (T := F_Tape) (N := 5) hx hb hts i_Tape hown hK hP 0 rfl rfl 1 (by decide) (hts _ mw107) (fun _ h9 => h9) rfl d_Tape_read_5 ?_
  refine kc_v (wr := [(h0, .inr (0, [.ref w, .ref w2, .ref ro, .ref ri, .ref d])), (w, .inr (1, [.ref a, .int (nI M.length), .int x, .int y, .int g, .int t])), (a, .inl (cI, 1024, .inl fw)), (ro, .inr (2, [.ref bo, .int (nI O.length)])), (bo, .inl (cB, 4110, .inl fo))]) (w2 := fun (u9 : (Nat → Int32)) => [(h0, .inr (0, [.ref w, .ref w2, .ref ro, .ref ri, .ref d])), (w, .inr (1, [.ref a, .int (nI M.length), .int x, .int y, .int g, .int t])), (a, .inl (cI, 1024, .inl fw)), (w2, .inr (1, [.ref a2, .int (nI (tRead I).1.length), .int (tPlace I (tQ1 I)).1, .int (tPlace I (tS1 I (tQ1 I))).1, .int (tTake I 63 (tS2 I (tQ1 I))).1, .int (tTake I 255 (tS3 I (tQ1 I))).1])), (a2, .inl (cI, 1024, .inl u9)), (ro, .inr (2, [.ref bo, .int (nI O.length)])), (bo, .inl (cB, 4110, .inl fo)), (ri, .inr (2, [.ref bi, .int (nI I.length)])), (bi, .inl (cB, 8192, .inl fi)), (d, .inr (3, [.ref ri, .int (nI (rNx (tRead I).2)), .int (nI (rAn (tRead I).2)), .int (rFt (tRead I).2), .int (rPl (tRead I).2)]))]) (va_runV (As := [.ref w2]) (rest := []) ⟨hx, hb, hml, hown, hts⟩ (c_Rd_readInto l dC dI cI cB cZ _ tM d ri q bi 8192 fi I w2 a2 fv M2 x2 y2 g2 t2 (by first | with_reducible assumption | omega | decide)) (cwV 1 hts (gV mw275 mw276 mw277 mw29 mw278) rfl rfl rfl (by decide +kernel) ⟨Nat.le_of_ble_eq_true rfl, Nat.le_of_ble_eq_true rfl⟩) (kpsV (wc := [(d, .inr (3, [.ref ri, .int (nI (rNx q)), .int (nI (rAn q)), .int (rFt q), .int (rPl q)])), (ri, .inr (2, [.ref bi, .int (nI I.length)])), (bi, .inl (cB, 8192, .inl fi)), (w2, .inr (1, [.ref a2, .int (nI M2.length), .int x2, .int y2, .int g2, .int t2])), (a2, .inl (cI, 1024, .inl fv))]) (q0 := 9) (ci := 3) hK hP hD hMk hS hA [9, 7, 8, 3, 4] rfl (by decide) rfl rfl rfl) rfl rfl hl.1 rfl (lv_room (Nat.le_of_ble_eq_true rfl)) d_Tape_read_8 ⟨Nat.le_of_ble_eq_true rfl, Nat.le_of_ble_eq_true rfl⟩) hP hD hS hA [9, 7, 8, 3, 4] [0, 1, 2, 5, 6] [0, 1, 2, 8, 9, 3, 4, 6, 7, 5] rfl rfl (by decide) (by decide) (fun _ => rfl) (by decide) (fun _ => rfl) (fun u9 H locs hw hP hD hS => ?_)
  obtain ⟨fw1_8, rfl⟩ : ∃ z, z = u9 := ⟨_, rfl⟩
  try dsimp only at hw
  have hP : va_P (dC, dI) classes [(h0, .inr (0, [.ref w, .ref w2, .ref ro, .ref ri, .ref d])), (w, .inr (1, [.ref a, .int (nI M.length), .int x, .int y, .int g, .int t])), (a, .inl (cI, 1024, .inl fw)), (w2, .inr (1, [.ref a2, .int (nI (tRead I).1.length), .int (tPlace I (tQ1 I)).1, .int (tPlace I (tS1 I (tQ1 I))).1, .int (tTake I 63 (tS2 I (tQ1 I))).1, .int (tTake I 255 (tS3 I (tQ1 I))).1])), (a2, .inl (cI, 1024, .inl fw1_8)), (ro, .inr (2, [.ref bo, .int (nI O.length)])), (bo, .inl (cB, 4110, .inl fo)), (ri, .inr (2, [.ref bi, .int (nI I.length)])), (bi, .inl (cB, 8192, .inl fi)), (d, .inr (3, [.ref ri, .int (nI (rNx (tRead I).2)), .int (nI (rAn (tRead I).2)), .int (rFt (tRead I).2), .int (rPl (tRead I).2)]))] H := hP
  have hD : va_D A [(h0, .inr (0, [.ref w, .ref w2, .ref ro, .ref ri, .ref d])), (w, .inr (1, [.ref a, .int (nI M.length), .int x, .int y, .int g, .int t])), (a, .inl (cI, 1024, .inl fw)), (w2, .inr (1, [.ref a2, .int (nI (tRead I).1.length), .int (tPlace I (tQ1 I)).1, .int (tPlace I (tS1 I (tQ1 I))).1, .int (tTake I 63 (tS2 I (tQ1 I))).1, .int (tTake I 255 (tS3 I (tQ1 I))).1])), (a2, .inl (cI, 1024, .inl fw1_8)), (ro, .inr (2, [.ref bo, .int (nI O.length)])), (bo, .inl (cB, 4110, .inl fo)), (ri, .inr (2, [.ref bi, .int (nI I.length)])), (bi, .inl (cB, 8192, .inl fi)), (d, .inr (3, [.ref ri, .int (nI (rNx (tRead I).2)), .int (nI (rAn (tRead I).2)), .int (rFt (tRead I).2), .int (rPl (tRead I).2)]))] := hD
  have hW_8 := hw
  refine lv_aload_n hx hb d_Tape_read_11 rfl (lv_at hl 0 rfl) ?_
  refine va_get (D := (dC, dI)) (ci := 0) (v := .ref d) (C := "DemoTape") (T := F_Tape) (N := 5) hx hb hts i_Tape hown hK hP 0 rfl rfl 4 (by decide) (hts _ mw110) (fun _ h9 => h9) rfl d_Tape_read_12 ?_
  refine kq_i (wr := [(h0, .inr (0, [.ref w, .ref w2, .ref ro, .ref ri, .ref d])), (w, .inr (1, [.ref a, .int (nI M.length), .int x, .int y, .int g, .int t])), (a, .inl (cI, 1024, .inl fw)), (w2, .inr (1, [.ref a2, .int (nI (tRead I).1.length), .int (tPlace I (tQ1 I)).1, .int (tPlace I (tS1 I (tQ1 I))).1, .int (tTake I 63 (tS2 I (tQ1 I))).1, .int (tTake I 255 (tS3 I (tQ1 I))).1])), (a2, .inl (cI, 1024, .inl fw1_8)), (ro, .inr (2, [.ref bo, .int (nI O.length)])), (bo, .inl (cB, 4110, .inl fo)), (ri, .inr (2, [.ref bi, .int (nI I.length)])), (bi, .inl (cB, 8192, .inl fi))]) (va_runV (As := []) (rest := []) ⟨hx, hb, hml, hown, hts⟩ (c_Rd_fault l dC dI cI cB cZ _ d ri (tRead I).2 ) (cwV 0 hts (gV mw334 mw335 mw336 mw29 mw337) rfl rfl rfl (by decide +kernel) ⟨Nat.le_of_ble_eq_true rfl, Nat.le_of_ble_eq_true rfl⟩) (kpV (wc := [(d, .inr (3, [.ref ri, .int (nI (rNx (tRead I).2)), .int (nI (rAn (tRead I).2)), .int (rFt (tRead I).2), .int (rPl (tRead I).2)]))]) (q0 := 9) (ci := 3) hK hP hD [9] rfl (by decide) rfl rfl rfl) rfl rfl hl.1 rfl (lv_room (Nat.le_of_ble_eq_true rfl)) d_Tape_read_15 ⟨Nat.le_of_ble_eq_true rfl, Nat.le_of_ble_eq_true rfl⟩) hP hD hS hA [9] [0, 1, 2, 3, 4, 5, 6, 7, 8] [0, 1, 2, 3, 4, 5, 6, 7, 8, 9] rfl rfl (by decide) (by decide) rfl (fun r_15 H locs hw hP hS => ?_)
  have e_15 := hw
  refine kt_i e_15 ?_
  refine lv_if_ne (tgt := 39) hx hb d_Tape_read_18 (by decide) (fun c_18 => ?_) (fun c_18 => ?_)
  · refine lv_aload_n hx hb d_Tape_read_39 rfl (lv_at hl 0 rfl) ?_
    refine va_get (D := (dC, dI)) (ci := 0) (v := .ref d) (C := "DemoTape") (T := F_Tape) (N := 5) hx hb hts i_Tape hown hK hP 0 rfl rfl 4 (by decide) (hts _ mw110) (fun _ h9 => h9) rfl d_Tape_read_40 ?_
    refine kq_i (wr := [(h0, .inr (0, [.ref w, .ref w2, .ref ro, .ref ri, .ref d])), (w, .inr (1, [.ref a, .int (nI M.length), .int x, .int y, .int g, .int t])), (a, .inl (cI, 1024, .inl fw)), (w2, .inr (1, [.ref a2, .int (nI (tRead I).1.length), .int (tPlace I (tQ1 I)).1, .int (tPlace I (tS1 I (tQ1 I))).1, .int (tTake I 63 (tS2 I (tQ1 I))).1, .int (tTake I 255 (tS3 I (tQ1 I))).1])), (a2, .inl (cI, 1024, .inl fw1_8)), (ro, .inr (2, [.ref bo, .int (nI O.length)])), (bo, .inl (cB, 4110, .inl fo)), (ri, .inr (2, [.ref bi, .int (nI I.length)])), (bi, .inl (cB, 8192, .inl fi))]) (va_runV (As := []) (rest := []) ⟨hx, hb, hml, hown, hts⟩ (c_Rd_fault l dC dI cI cB cZ _ d ri (tRead I).2 ) (cwV 0 hts (gV mw334 mw335 mw336 mw29 mw337) rfl rfl rfl (by decide +kernel) ⟨Nat.le_of_ble_eq_true rfl, Nat.le_of_ble_eq_true rfl⟩) (kpV (wc := [(d, .inr (3, [.ref ri, .int (nI (rNx (tRead I).2)), .int (nI (rAn (tRead I).2)), .int (rFt (tRead I).2), .int (rPl (tRead I).2)]))]) (q0 := 9) (ci := 3) hK hP hD [9] rfl (by decide) rfl rfl rfl) rfl rfl hl.1 rfl (lv_room (Nat.le_of_ble_eq_true rfl)) d_Tape_read_43 ⟨Nat.le_of_ble_eq_true rfl, Nat.le_of_ble_eq_true rfl⟩) hP hD hS hA [9] [0, 1, 2, 3, 4, 5, 6, 7, 8] [0, 1, 2, 3, 4, 5, 6, 7, 8, 9] rfl rfl (by decide) (by decide) rfl (fun r_43 H locs hw hP hS => ?_)
    have e_43 := hw
    refine kt_i e_43 ?_
    exact kr_i (v := rFt (tRead I).2) (w, a, fw, M, x, y, g, t, w2, a2, fw1_8, (tRead I).1, (tPlace I (tQ1 I)).1, (tPlace I (tS1 I (tQ1 I))).1, (tTake I 63 (tS2 I (tQ1 I))).1, (tTake I 255 (tS3 I (tQ1 I))).1) hx hb hr rfl hK (hP.sub [0, 1, 2, 3, 4, 5, 6, 7, 8, 9] (by dsimp only; first | done | rfl)) (hD.sub [0, 1, 2, 3, 4, 5, 6, 7, 8, 9] (by decide) (by dsimp only; first | done | rfl)) hS ⟨by first | with_reducible rfl | with_reducible assumption | rfl | omega, by dsimp only; rw [if_neg c_18], by dsimp only; exact hW, by dsimp only; exact hW_8⟩ d_Tape_read_46 hlocks
  · refine lv_aload_n hx hb d_Tape_read_21 rfl (lv_at hl 0 rfl) ?_
    refine va_get (D := (dC, dI)) (ci := 0) (v := .ref w) (C := "DemoTape") (T := F_Tape) (N := 5) hx hb hts i_Tape hown hK hP 0 rfl rfl 0 (by decide) (hts _ mw106) (fun _ h9 => h9) rfl d_Tape_read_22 ?_
    refine lv_astore_n (lv' := [(1, .ref w), (0, .ref h0)]) hx hb d_Tape_read_25 rfl hl (by decide) rfl (fun ls hl => ?_)
    refine lv_aload_n hx hb d_Tape_read_26 rfl (lv_at hl 1 rfl) ?_
    refine lv_aload_n hx hb d_Tape_read_27 rfl (lv_at hl 1 rfl) ?_
    refine va_get (D := (dC, dI)) (ci := 0) (v := .ref w2) (C := "DemoTape") (T := F_Tape) (N := 5) hx hb hts i_Tape hown hK hP 0 rfl rfl 1 (by decide) (hts _ mw107) (fun _ h9 => h9) rfl d_Tape_read_28 ?_
    refine va_put (D := (dC, dI)) (ci := 0) (v := .ref w2) (ty := (.object "DemoTape$Walk")) (C := "DemoTape") (T := F_Tape) (N := 5) hx hb hts i_Tape t_Tape t_Tape_ok n_Tape hown hK hP hD hS 0 rfl rfl 0 (by decide) (hts _ mw106) (fun _ h9 => h9) rfl (by decide +kernel) rfl rfl (Nat.le_of_ble_eq_true rfl) d_Tape_read_31 (fun H locs hP hD hS => ?_)
    have hP : va_P (dC, dI) classes [(h0, .inr (0, [.ref w2, .ref w2, .ref ro, .ref ri, .ref d])), (w, .inr (1, [.ref a, .int (nI M.length), .int x, .int y, .int g, .int t])), (a, .inl (cI, 1024, .inl fw)), (w2, .inr (1, [.ref a2, .int (nI (tRead I).1.length), .int (tPlace I (tQ1 I)).1, .int (tPlace I (tS1 I (tQ1 I))).1, .int (tTake I 63 (tS2 I (tQ1 I))).1, .int (tTake I 255 (tS3 I (tQ1 I))).1])), (a2, .inl (cI, 1024, .inl fw1_8)), (ro, .inr (2, [.ref bo, .int (nI O.length)])), (bo, .inl (cB, 4110, .inl fo)), (ri, .inr (2, [.ref bi, .int (nI I.length)])), (bi, .inl (cB, 8192, .inl fi)), (d, .inr (3, [.ref ri, .int (nI (rNx (tRead I).2)), .int (nI (rAn (tRead I).2)), .int (rFt (tRead I).2), .int (rPl (tRead I).2)]))] H := hP
    have hD : va_D A [(h0, .inr (0, [.ref w2, .ref w2, .ref ro, .ref ri, .ref d])), (w, .inr (1, [.ref a, .int (nI M.length), .int x, .int y, .int g, .int t])), (a, .inl (cI, 1024, .inl fw)), (w2, .inr (1, [.ref a2, .int (nI (tRead I).1.length), .int (tPlace I (tQ1 I)).1, .int (tPlace I (tS1 I (tQ1 I))).1, .int (tTake I 63 (tS2 I (tQ1 I))).1, .int (tTake I 255 (tS3 I (tQ1 I))).1])), (a2, .inl (cI, 1024, .inl fw1_8)), (ro, .inr (2, [.ref bo, .int (nI O.length)])), (bo, .inl (cB, 4110, .inl fo)), (ri, .inr (2, [.ref bi, .int (nI I.length)])), (bi, .inl (cB, 8192, .inl fi)), (d, .inr (3, [.ref ri, .int (nI (rNx (tRead I).2)), .int (nI (rAn (tRead I).2)), .int (rFt (tRead I).2), .int (rPl (tRead I).2)]))] := hD
    refine lv_aload_n hx hb d_Tape_read_34 rfl (lv_at hl 1 rfl) ?_
    refine lv_aload_n hx hb d_Tape_read_35 rfl (lv_at hl 0 rfl) ?_
    refine va_put (D := (dC, dI)) (ci := 0) (v := .ref w) (ty := (.object "DemoTape$Walk")) (C := "DemoTape") (T := F_Tape) (N := 5) hx hb hts i_Tape t_Tape t_Tape_ok n_Tape hown hK hP hD hS 0 rfl rfl 1 (by decide) (hts _ mw107) (fun _ h9 => h9) rfl (by decide +kernel) rfl rfl (Nat.le_of_ble_eq_true rfl) d_Tape_read_36 (fun H locs hP hD hS => ?_)
    have hP : va_P (dC, dI) classes [(h0, .inr (0, [.ref w2, .ref w, .ref ro, .ref ri, .ref d])), (w, .inr (1, [.ref a, .int (nI M.length), .int x, .int y, .int g, .int t])), (a, .inl (cI, 1024, .inl fw)), (w2, .inr (1, [.ref a2, .int (nI (tRead I).1.length), .int (tPlace I (tQ1 I)).1, .int (tPlace I (tS1 I (tQ1 I))).1, .int (tTake I 63 (tS2 I (tQ1 I))).1, .int (tTake I 255 (tS3 I (tQ1 I))).1])), (a2, .inl (cI, 1024, .inl fw1_8)), (ro, .inr (2, [.ref bo, .int (nI O.length)])), (bo, .inl (cB, 4110, .inl fo)), (ri, .inr (2, [.ref bi, .int (nI I.length)])), (bi, .inl (cB, 8192, .inl fi)), (d, .inr (3, [.ref ri, .int (nI (rNx (tRead I).2)), .int (nI (rAn (tRead I).2)), .int (rFt (tRead I).2), .int (rPl (tRead I).2)]))] H := hP
    have hD : va_D A [(h0, .inr (0, [.ref w2, .ref w, .ref ro, .ref ri, .ref d])), (w, .inr (1, [.ref a, .int (nI M.length), .int x, .int y, .int g, .int t])), (a, .inl (cI, 1024, .inl fw)), (w2, .inr (1, [.ref a2, .int (nI (tRead I).1.length), .int (tPlace I (tQ1 I)).1, .int (tPlace I (tS1 I (tQ1 I))).1, .int (tTake I 63 (tS2 I (tQ1 I))).1, .int (tTake I 255 (tS3 I (tQ1 I))).1])), (a2, .inl (cI, 1024, .inl fw1_8)), (ro, .inr (2, [.ref bo, .int (nI O.length)])), (bo, .inl (cB, 4110, .inl fo)), (ri, .inr (2, [.ref bi, .int (nI I.length)])), (bi, .inl (cB, 8192, .inl fi)), (d, .inr (3, [.ref ri, .int (nI (rNx (tRead I).2)), .int (nI (rAn (tRead I).2)), .int (rFt (tRead I).2), .int (rPl (tRead I).2)]))] := hD
    refine lv_aload_n hx hb d_Tape_read_39 rfl (lv_at hl 1 rfl) ?_
    refine va_get (D := (dC, dI)) (ci := 0) (v := .ref d) (C := "DemoTape") (T := F_Tape) (N := 5) hx hb hts i_Tape hown hK hP 0 rfl rfl 4 (by decide) (hts _ mw110) (fun _ h9 => h9) rfl d_Tape_read_40 ?_
    refine kq_i (wr := [(h0, .inr (0, [.ref w2, .ref w, .ref ro, .ref ri, .ref d])), (w, .inr (1, [.ref a, .int (nI M.length), .int x, .int y, .int g, .int t])), (a, .inl (cI, 1024, .inl fw)), (w2, .inr (1, [.ref a2, .int (nI (tRead I).1.length), .int (tPlace I (tQ1 I)).1, .int (tPlace I (tS1 I (tQ1 I))).1, .int (tTake I 63 (tS2 I (tQ1 I))).1, .int (tTake I 255 (tS3 I (tQ1 I))).1])), (a2, .inl (cI, 1024, .inl fw1_8)), (ro, .inr (2, [.ref bo, .int (nI O.length)])), (bo, .inl (cB, 4110, .inl fo)), (ri, .inr (2, [.ref bi, .int (nI I.length)])), (bi, .inl (cB, 8192, .inl fi))]) (va_runV (As := []) (rest := []) ⟨hx, hb, hml, hown, hts⟩ (c_Rd_fault l dC dI cI cB cZ _ d ri (tRead I).2 ) (cwV 0 hts (gV mw334 mw335 mw336 mw29 mw337) rfl rfl rfl (by decide +kernel) ⟨Nat.le_of_ble_eq_true rfl, Nat.le_of_ble_eq_true rfl⟩) (kpV (wc := [(d, .inr (3, [.ref ri, .int (nI (rNx (tRead I).2)), .int (nI (rAn (tRead I).2)), .int (rFt (tRead I).2), .int (rPl (tRead I).2)]))]) (q0 := 9) (ci := 3) hK hP hD [9] rfl (by decide) rfl rfl rfl) rfl rfl hl.1 rfl (lv_room (Nat.le_of_ble_eq_true rfl)) d_Tape_read_43 ⟨Nat.le_of_ble_eq_true rfl, Nat.le_of_ble_eq_true rfl⟩) hP hD hS hA [9] [0, 1, 2, 3, 4, 5, 6, 7, 8] [0, 1, 2, 3, 4, 5, 6, 7, 8, 9] rfl rfl (by decide) (by decide) rfl (fun r_43 H locs hw hP hS => ?_)
    have e_43 := hw
    refine kt_i e_43 ?_
    exact kr_i (v := rFt (tRead I).2) (w2, a2, fw1_8, (tRead I).1, (tPlace I (tQ1 I)).1, (tPlace I (tS1 I (tQ1 I))).1, (tTake I 63 (tS2 I (tQ1 I))).1, (tTake I 255 (tS3 I (tQ1 I))).1, w, a, fw, M, x, y, g, t) hx hb hr rfl hK (hP.sub [0, 3, 4, 1, 2, 5, 6, 7, 8, 9] (by dsimp only; first | done | rfl)) (hD.sub [0, 3, 4, 1, 2, 5, 6, 7, 8, 9] (by decide) (by dsimp only; first | done | rfl)) hS ⟨by first | with_reducible rfl | with_reducible assumption | rfl | omega, by dsimp only; rw [if_pos c_18], by dsimp only; exact hW_8, by dsimp only; exact hW⟩ d_Tape_read_46 hlocks
abbrev Qc_T_init (dC : Nat → ClassId) (dI : Nat → Nat → Nat) (cI cB cZ : ClassId) (tM : Nat) (h0 : Nat) (A : Nat → Prop) := va_Qv (fun (u9 : Nat × Nat × Nat × Nat × Nat × Nat × Nat × Nat × Nat) => True) (ka (dC, dI) classes [(cI, .int), (cB, .byte), (cZ, .boolean)] (fun (u9 : Nat × Nat × Nat × Nat × Nat × Nat × Nat × Nat × Nat) => [(h0, .inr (0, [.ref u9.1, .ref u9.2.2.1, .ref u9.2.2.2.2.1, .ref u9.2.2.2.2.2.2.1, .ref u9.2.2.2.2.2.2.2.2])), (u9.1, .inr (1, [.ref u9.2.1, .int (nI ([] : List Int32).length), .int 0, .int 0, .int 0, .int 0])), (u9.2.1, .inl (cI, 1024, .inl (fun _ => 0))), (u9.2.2.1, .inr (1, [.ref u9.2.2.2.1, .int (nI ([] : List Int32).length), .int 0, .int 0, .int 0, .int 0])), (u9.2.2.2.1, .inl (cI, 1024, .inl (fun _ => 0))), (u9.2.2.2.2.1, .inr (2, [.ref u9.2.2.2.2.2.1, .int (nI ([] : List Nat).length)])), (u9.2.2.2.2.2.1, .inl (cB, 4110, .inl (fun _ => 0))), (u9.2.2.2.2.2.2.1, .inr (2, [.ref u9.2.2.2.2.2.2.2.1, .int (nI ([] : List Nat).length)])), (u9.2.2.2.2.2.2.2.1, .inl (cB, 8192, .inl (fun _ => 0))), (u9.2.2.2.2.2.2.2.2, .inr (3, [.ref u9.2.2.2.2.2.2.1, .int (nI (rNx q00)), .int (nI (rAn q00)), .int (rFt q00), .int (rPl q00)]))]) A) A
set_option maxHeartbeats 1000000 in
set_option maxRecDepth 100000 in
/-- DemoTape() -/
theorem c_T_init (l : Launch) (dC : Nat → ClassId) (dI : Nat → Nat → Nat) (cI cB cZ : ClassId) (sz : Nat) (tM : Nat) (h0 : Nat)  : Met l y_Tape_init w_Tape_init ({ frames := 2, cells := 9, slots := 14371, locals := 35 }) (va_Pc [.ref h0] (kps (dC, dI) classes [(cI, .int), (cB, .byte), (cZ, .boolean)] [(h0, .inr (0, [.null, .null, .null, .null, .null]))] sz tM)) (Qc_T_init dC dI cI cB cZ tM h0 (va_A [(h0, .inr (0, [.null, .null, .null, .null, .null]))] sz)) 9 14371 (va_A [(h0, .inr (0, [.null, .null, .null, .null, .null]))] sz) := by
  refine Met.ofW (cc := prog_1_method_1_code) (maxL := 1) (ret := none) (by decide) rfl ?_
  intro p e s m args below meth c s₁ B hml hv
  obtain ⟨rfl, ⟨hsz, hP, hK, hD0⟩, hMk⟩ := hv
  have hx := B.exec
  have hb := B.bytes
  have hr := B.returns
  have hts := fun w h => atoms_spec (ws := w_Tape_init) B.pre w (List.mem_cons_of_mem _ h)
  have hown : s.vm.findClass "DemoTape" = some m.cls := findClass_of_methodNamed B.named
  have hlocks := B.notSynchronized
  have hin : meth.name = "<init>" := (name_of_methodNamed B.named B.method).1
  subst hsz
  have hD := hD0.self (sz := s.heap.size)
  generalize hAe : va_A ([(h0, .inr (0, [.null, .null, .null, .null, .null]))] : va_W) s.heap.size = A at hD hMk ⊢
  have hA : ∀ q : Nat, s.heap.size ≤ q → A q := fun q h => by rw [← hAe]; exact Or.inr h
  have hS : va_S A s.heap s.heap [] := va_S.rf
  have hP : va_P (dC, dI) classes [(h0, .inr (0, [.null, .null, .null, .null, .null]))] s.heap := hP
  have hl := lv_entry ([.ref h0]) (n := 1) (Nat.le_of_ble_eq_true rfl)
  rw [lg_entry_eq]
  generalize (lg_sl ([.ref h0]) ++ List.replicate (1 - (lg_sl ([.ref h0])).length) Slot.unset).toArray = ls at hl ⊢
  have hl : lv_has ls 1 [(0, .ref h0)] := hl
  refine lv_aload_n hx hb d_Tape_init_0 rfl (lv_at hl 0 rfl) ?_
  refine W.objInit hx hb hown (hts _ mw38) (hts _ mw39) (hts _ mw40) rfl (by rw [hml]; exact hl.1) rfl d_Tape_init_1 (Nat.le_of_ble_eq_true rfl) (Nat.le_of_ble_eq_true rfl) ?_
  refine W.eq (g2 := F0 m 4 ls []) rfl ?_
  refine lv_aload_n hx hb d_Tape_init_4 rfl (lv_at hl 0 rfl) ?_
  refine va_new (ci := 1) (fs := [.null, .int 0, .int 0, .int 0, .int 0, .int 0]) (C := "DemoTape$Walk") (T := F_Walk) (N := 6) hx hb hts i_Walk t_Walk t_Walk_ok hown (hts _ mw41) (hts _ mw42) (hts _ mw26) hK hP hD hS hA rfl (by decide +kernel) (Nat.le_of_ble_eq_true rfl) (Nat.le_of_ble_eq_true rfl) d_Tape_init_5 (fun q5 H hP hD hS => ?_)
  refine W.widen (k := 1) (n := 6) (by decide) (by decide) ?_
  have hP : va_P (dC, dI) classes [(h0, .inr (0, [.null, .null, .null, .null, .null])), (q5, .inr (1, [.null, .int 0, .int 0, .int 0, .int 0, .int 0]))] H := hP
  have hD : va_D A [(h0, .inr (0, [.null, .null, .null, .null, .null])), (q5, .inr (1, [.null, .int 0, .int 0, .int 0, .int 0, .int 0]))] := hD
  refine lv_dup hx hb d_Tape_init_8 rfl ?_
  refine kc_v (wr := [(h0, .inr (0, [.null, .null, .null, .null, .null]))]) (w2 := fun (u9 : Nat) => [(h0, .inr (0, [.null, .null, .null, .null, .null])), (q5, .inr (1, [.ref u9, .int 0, .int 0, .int 0, .int 0, .int 0])), (u9, .inl (cI, 1024, .inl (fun _ => 0)))]) (va_runIN (As := []) (rest := [.ref q5, .ref h0]) ⟨hx, hb, hml, hown, hts⟩ (c_Walk_init l dC dI cI cB cZ _ q5 ) (⟨va_cnB 0 hts (gW mw45) rfl rfl rfl hMk.2.2.2.2 (hts _ mw26) (by decide +kernel) ⟨Nat.le_of_ble_eq_true rfl, Nat.le_of_ble_eq_true rfl⟩, rfl, hts _ mw44⟩) (kpS (wc := [(q5, .inr (1, [.null, .int 0, .int 0, .int 0, .int 0, .int 0]))]) hK hP hD [1] rfl (by decide) rfl) rfl rfl hl.1 rfl (lv_room (Nat.le_of_ble_eq_true rfl)) d_Tape_init_9 ⟨Nat.le_of_ble_eq_true rfl, Nat.le_of_ble_eq_true rfl⟩) hP hD hS hA [1] [0] [0, 1, 2] rfl rfl (by decide) (by decide) (fun _ => rfl) (by decide) (fun _ => rfl) (fun u9 H locs hw hP hD hS => ?_)
  obtain ⟨a_9, rfl⟩ : ∃ z, z = u9 := ⟨_, rfl⟩
  try dsimp only at hw
  have hP : va_P (dC, dI) classes [(h0, .inr (0, [.null, .null, .null, .null, .null])), (q5, .inr (1, [.ref a_9, .int 0, .int 0, .int 0, .int 0, .int 0])), (a_9, .inl (cI, 1024, .inl (fun _ => 0)))] H := hP
  have hD : va_D A [(h0, .inr (0, [.null, .null, .null, .null, .null])), (q5, .inr (1, [.ref a_9, .int 0, .int 0, .int 0, .int 0, .int 0])), (a_9, .inl (cI, 1024, .inl (fun _ => 0)))] := hD
  refine W.widen (k := 2) (n := 1030) (by decide) (by decide) ?_
  refine va_put (D := (dC, dI)) (ci := 0) (v := .ref q5) (ty := (.object "DemoTape$Walk")) (C := "DemoTape") (T := F_Tape) (N := 5) hx hb hts i_Tape t_Tape t_Tape_ok n_Tape hown hK hP hD hS 0 rfl rfl 0 (by decide) (hts _ mw106) (fun _ h9 => h9) rfl (by decide +kernel) rfl rfl (Nat.le_of_ble_eq_true rfl) d_Tape_init_12 (fun H locs hP hD hS => ?_)
  have hP : va_P (dC, dI) classes [(h0, .inr (0, [.ref q5, .null, .null, .null, .null])), (q5, .inr (1, [.ref a_9, .int 0, .int 0, .int 0, .int 0, .int 0])), (a_9, .inl (cI, 1024, .inl (fun _ => 0)))] H := hP
  have hD : va_D A [(h0, .inr (0, [.ref q5, .null, .null, .null, .null])), (q5, .inr (1, [.ref a_9, .int 0, .int 0, .int 0, .int 0, .int 0])), (a_9, .inl (cI, 1024, .inl (fun _ => 0)))] := hD
  refine lv_aload_n hx hb d_Tape_init_15 rfl (lv_at hl 0 rfl) ?_
  refine va_new (ci := 1) (fs := [.null, .int 0, .int 0, .int 0, .int 0, .int 0]) (C := "DemoTape$Walk") (T := F_Walk) (N := 6) hx hb hts i_Walk t_Walk t_Walk_ok hown (hts _ mw41) (hts _ mw42) (hts _ mw26) hK hP hD hS hA rfl (by decide +kernel) (Nat.le_of_ble_eq_true rfl) (Nat.le_of_ble_eq_true rfl) d_Tape_init_16 (fun q16 H hP hD hS => ?_)
  refine W.widen (k := 3) (n := 1036) (by decide) (by decide) ?_
  have hP : va_P (dC, dI) classes [(h0, .inr (0, [.ref q5, .null, .null, .null, .null])), (q5, .inr (1, [.ref a_9, .int 0, .int 0, .int 0, .int 0, .int 0])), (a_9, .inl (cI, 1024, .inl (fun _ => 0))), (q16, .inr (1, [.null, .int 0, .int 0, .int 0, .int 0, .int 0]))] H := hP
  have hD : va_D A [(h0, .inr (0, [.ref q5, .null, .null, .null, .null])), (q5, .inr (1, [.ref a_9, .int 0, .int 0, .int 0, .int 0, .int 0])), (a_9, .inl (cI, 1024, .inl (fun _ => 0))), (q16, .inr (1, [.null, .int 0, .int 0, .int 0, .int 0, .int 0]))] := hD
  refine lv_dup hx hb d_Tape_init_19 rfl ?_
  refine kc_v (wr := [(h0, .inr (0, [.ref q5, .null, .null, .null, .null])), (q5, .inr (1, [.ref a_9, .int 0, .int 0, .int 0, .int 0, .int 0])), (a_9, .inl (cI, 1024, .inl (fun _ => 0)))]) (w2 := fun (u9 : Nat) => [(h0, .inr (0, [.ref q5, .null, .null, .null, .null])), (q5, .inr (1, [.ref a_9, .int 0, .int 0, .int 0, .int 0, .int 0])), (a_9, .inl (cI, 1024, .inl (fun _ => 0))), (q16, .inr (1, [.ref u9, .int 0, .int 0, .int 0, .int 0, .int 0])), (u9, .inl (cI, 1024, .inl (fun _ => 0)))]) (va_runIN (As := []) (rest := [.ref q16, .ref h0]) ⟨hx, hb, hml, hown, hts⟩ (c_Walk_init l dC dI cI cB cZ _ q16 ) (⟨va_cnB 0 hts (gW mw45) rfl rfl rfl hMk.2.2.2.2 (hts _ mw26) (by decide +kernel) ⟨Nat.le_of_ble_eq_true rfl, Nat.le_of_ble_eq_true rfl⟩, rfl, hts _ mw44⟩) (kpS (wc := [(q16, .inr (1, [.null, .int 0, .int 0, .int 0, .int 0, .int 0]))]) hK hP hD [3] rfl (by decide) rfl) rfl rfl hl.1 rfl (lv_room (Nat.le_of_ble_eq_true rfl)) d_Tape_init_20 ⟨Nat.le_of_ble_eq_true rfl, Nat.le_of_ble_eq_true rfl⟩) hP hD hS hA [3] [0, 1, 2] [0, 1, 2, 3, 4] rfl rfl (by decide) (by decide) (fun _ => rfl) (by decide) (fun _ => rfl) (fun u9 H locs hw hP hD hS => ?_)
  obtain ⟨a_20, rfl⟩ : ∃ z, z = u9 := ⟨_, rfl⟩
  try dsimp only at hw
  have hP : va_P (dC, dI) classes [(h0, .inr (0, [.ref q5, .null, .null, .null, .null])), (q5, .inr (1, [.ref a_9, .int 0, .int 0, .int 0, .int 0, .int 0])), (a_9, .inl (cI, 1024, .inl (fun _ => 0))), (q16, .inr (1, [.ref a_20, .int 0, .int 0, .int 0, .int 0, .int 0])), (a_20, .inl (cI, 1024, .inl (fun _ => 0)))] H := hP
  have hD : va_D A [(h0, .inr (0, [.ref q5, .null, .null, .null, .null])), (q5, .inr (1, [.ref a_9, .int 0, .int 0, .int 0, .int 0, .int 0])), (a_9, .inl (cI, 1024, .inl (fun _ => 0))), (q16, .inr (1, [.ref a_20, .int 0, .int 0, .int 0, .int 0, .int 0])), (a_20, .inl (cI, 1024, .inl (fun _ => 0)))] := hD
  refine W.widen (k := 4) (n := 2060) (by decide) (by decide) ?_
  refine va_put (D := (dC, dI)) (ci := 0) (v := .ref q16) (ty := (.object "DemoTape$Walk")) (C := "DemoTape") (T := F_Tape) (N := 5) hx hb hts i_Tape t_Tape t_Tape_ok n_Tape hown hK hP hD hS 0 rfl rfl 1 (by decide) (hts _ mw107) (fun _ h9 => h9) rfl (by decide +kernel) rfl rfl (Nat.le_of_ble_eq_true rfl) d_Tape_init_23 (fun H locs hP hD hS => ?_)
  have hP : va_P (dC, dI) classes [(h0, .inr (0, [.ref q5, .ref q16, .null, .null, .null])), (q5, .inr (1, [.ref a_9, .int 0, .int 0, .int 0, .int 0, .int 0])), (a_9, .inl (cI, 1024, .inl (fun _ => 0))), (q16, .inr (1, [.ref a_20, .int 0, .int 0, .int 0, .int 0, .int 0])), (a_20, .inl (cI, 1024, .inl (fun _ => 0)))] H := hP
  have hD : va_D A [(h0, .inr (0, [.ref q5, .ref q16, .null, .null, .null])), (q5, .inr (1, [.ref a_9, .int 0, .int 0, .int 0, .int 0, .int 0])), (a_9, .inl (cI, 1024, .inl (fun _ => 0))), (q16, .inr (1, [.ref a_20, .int 0, .int 0, .int 0, .int 0, .int 0])), (a_20, .inl (cI, 1024, .inl (fun _ => 0)))] := hD
  refine lv_aload_n hx hb d_Tape_init_26 rfl (lv_at hl 0 rfl) ?_
  refine va_new (ci := 2) (fs := [.null, .int 0]) (C := "DemoTape$ByteRow") (T := F_Row) (N := 2) hx hb hts i_Row t_Row t_Row_ok hown (hts _ mw67) (hts _ mw68) (hts _ mw27) hK hP hD hS hA rfl (by decide +kernel) (Nat.le_of_ble_eq_true rfl) (Nat.le_of_ble_eq_true rfl) d_Tape_init_27 (fun q27 H hP hD hS => ?_)
  refine W.widen (k := 5) (n := 2062) (by decide) (by decide) ?_
  have hP : va_P (dC, dI) classes [(h0, .inr (0, [.ref q5, .ref q16, .null, .null, .null])), (q5, .inr (1, [.ref a_9, .int 0, .int 0, .int 0, .int 0, .int 0])), (a_9, .inl (cI, 1024, .inl (fun _ => 0))), (q16, .inr (1, [.ref a_20, .int 0, .int 0, .int 0, .int 0, .int 0])), (a_20, .inl (cI, 1024, .inl (fun _ => 0))), (q27, .inr (2, [.null, .int 0]))] H := hP
  have hD : va_D A [(h0, .inr (0, [.ref q5, .ref q16, .null, .null, .null])), (q5, .inr (1, [.ref a_9, .int 0, .int 0, .int 0, .int 0, .int 0])), (a_9, .inl (cI, 1024, .inl (fun _ => 0))), (q16, .inr (1, [.ref a_20, .int 0, .int 0, .int 0, .int 0, .int 0])), (a_20, .inl (cI, 1024, .inl (fun _ => 0))), (q27, .inr (2, [.null, .int 0]))] := hD
  refine lv_dup hx hb d_Tape_init_30 rfl ?_
  refine lv_sipush (v := 4110) hx hb d_Tape_init_31 (by decide) ?_
  refine kc_v (wr := [(h0, .inr (0, [.ref q5, .ref q16, .null, .null, .null])), (q5, .inr (1, [.ref a_9, .int 0, .int 0, .int 0, .int 0, .int 0])), (a_9, .inl (cI, 1024, .inl (fun _ => 0))), (q16, .inr (1, [.ref a_20, .int 0, .int 0, .int 0, .int 0, .int 0])), (a_20, .inl (cI, 1024, .inl (fun _ => 0)))]) (w2 := fun (u9 : Nat) => [(h0, .inr (0, [.ref q5, .ref q16, .null, .null, .null])), (q5, .inr (1, [.ref a_9, .int 0, .int 0, .int 0, .int 0, .int 0])), (a_9, .inl (cI, 1024, .inl (fun _ => 0))), (q16, .inr (1, [.ref a_20, .int 0, .int 0, .int 0, .int 0, .int 0])), (a_20, .inl (cI, 1024, .inl (fun _ => 0))), (q27, .inr (2, [.ref u9, .int 0])), (u9, .inl (cB, 4110, .inl (fun _ => 0)))]) (va_runI (As := [.int 4110]) (rest := [.ref q27, .ref h0]) ⟨hx, hb, hml, hown, hts⟩ (c_Row_init_4110 l dC dI cI cB cZ _ q27 ) (cwI 1 hts (gW mw71) rfl rfl rfl (hts _ mw27) (hts _ mw69) (hts _ mw70) rfl (by decide +kernel) ⟨Nat.le_of_ble_eq_true rfl, Nat.le_of_ble_eq_true rfl⟩) (kpS (wc := [(q27, .inr (2, [.null, .int 0]))]) hK hP hD [5] rfl (by decide) rfl) rfl rfl hl.1 rfl (lv_room (Nat.le_of_ble_eq_true rfl)) d_Tape_init_34 ⟨Nat.le_of_ble_eq_true rfl, Nat.le_of_ble_eq_true rfl⟩) hP hD hS hA [5] [0, 1, 2, 3, 4] [0, 1, 2, 3, 4, 5, 6] rfl rfl (by decide) (by decide) (fun _ => rfl) (by decide) (fun _ => rfl) (fun u9 H locs hw hP hD hS => ?_)
  obtain ⟨b_34, rfl⟩ : ∃ z, z = u9 := ⟨_, rfl⟩
  try dsimp only at hw
  have hP : va_P (dC, dI) classes [(h0, .inr (0, [.ref q5, .ref q16, .null, .null, .null])), (q5, .inr (1, [.ref a_9, .int 0, .int 0, .int 0, .int 0, .int 0])), (a_9, .inl (cI, 1024, .inl (fun _ => 0))), (q16, .inr (1, [.ref a_20, .int 0, .int 0, .int 0, .int 0, .int 0])), (a_20, .inl (cI, 1024, .inl (fun _ => 0))), (q27, .inr (2, [.ref b_34, .int 0])), (b_34, .inl (cB, 4110, .inl (fun _ => 0)))] H := hP
  have hD : va_D A [(h0, .inr (0, [.ref q5, .ref q16, .null, .null, .null])), (q5, .inr (1, [.ref a_9, .int 0, .int 0, .int 0, .int 0, .int 0])), (a_9, .inl (cI, 1024, .inl (fun _ => 0))), (q16, .inr (1, [.ref a_20, .int 0, .int 0, .int 0, .int 0, .int 0])), (a_20, .inl (cI, 1024, .inl (fun _ => 0))), (q27, .inr (2, [.ref b_34, .int 0])), (b_34, .inl (cB, 4110, .inl (fun _ => 0)))] := hD
  refine W.widen (k := 6) (n := 6172) (by decide) (by decide) ?_
  refine va_putF (D := (dC, dI)) (ci := 0) (v := .ref q27) (ty := (.object "DemoTape$ByteRow")) (C := "DemoTape") (T := F_Tape) (N := 5) hx hb hts i_Tape t_Tape t_Tape_ok n_Tape hown hK hP hD hS 0 rfl rfl 2 (by decide) (hts _ mw108) (fun _ h9 => h9) rfl hin rfl (by decide +kernel) rfl rfl (Nat.le_of_ble_eq_true rfl) d_Tape_init_37 (fun H locs hP hD hS => ?_)
  have hP : va_P (dC, dI) classes [(h0, .inr (0, [.ref q5, .ref q16, .ref q27, .null, .null])), (q5, .inr (1, [.ref a_9, .int 0, .int 0, .int 0, .int 0, .int 0])), (a_9, .inl (cI, 1024, .inl (fun _ => 0))), (q16, .inr (1, [.ref a_20, .int 0, .int 0, .int 0, .int 0, .int 0])), (a_20, .inl (cI, 1024, .inl (fun _ => 0))), (q27, .inr (2, [.ref b_34, .int 0])), (b_34, .inl (cB, 4110, .inl (fun _ => 0)))] H := hP
  have hD : va_D A [(h0, .inr (0, [.ref q5, .ref q16, .ref q27, .null, .null])), (q5, .inr (1, [.ref a_9, .int 0, .int 0, .int 0, .int 0, .int 0])), (a_9, .inl (cI, 1024, .inl (fun _ => 0))), (q16, .inr (1, [.ref a_20, .int 0, .int 0, .int 0, .int 0, .int 0])), (a_20, .inl (cI, 1024, .inl (fun _ => 0))), (q27, .inr (2, [.ref b_34, .int 0])), (b_34, .inl (cB, 4110, .inl (fun _ => 0)))] := hD
  refine lv_aload_n hx hb d_Tape_init_40 rfl (lv_at hl 0 rfl) ?_
  refine va_new (ci := 2) (fs := [.null, .int 0]) (C := "DemoTape$ByteRow") (T := F_Row) (N := 2) hx hb hts i_Row t_Row t_Row_ok hown (hts _ mw67) (hts _ mw68) (hts _ mw27) hK hP hD hS hA rfl (by decide +kernel) (Nat.le_of_ble_eq_true rfl) (Nat.le_of_ble_eq_true rfl) d_Tape_init_41 (fun q41 H hP hD hS => ?_)
  refine W.widen (k := 7) (n := 6174) (by decide) (by decide) ?_
  have hP : va_P (dC, dI) classes [(h0, .inr (0, [.ref q5, .ref q16, .ref q27, .null, .null])), (q5, .inr (1, [.ref a_9, .int 0, .int 0, .int 0, .int 0, .int 0])), (a_9, .inl (cI, 1024, .inl (fun _ => 0))), (q16, .inr (1, [.ref a_20, .int 0, .int 0, .int 0, .int 0, .int 0])), (a_20, .inl (cI, 1024, .inl (fun _ => 0))), (q27, .inr (2, [.ref b_34, .int 0])), (b_34, .inl (cB, 4110, .inl (fun _ => 0))), (q41, .inr (2, [.null, .int 0]))] H := hP
  have hD : va_D A [(h0, .inr (0, [.ref q5, .ref q16, .ref q27, .null, .null])), (q5, .inr (1, [.ref a_9, .int 0, .int 0, .int 0, .int 0, .int 0])), (a_9, .inl (cI, 1024, .inl (fun _ => 0))), (q16, .inr (1, [.ref a_20, .int 0, .int 0, .int 0, .int 0, .int 0])), (a_20, .inl (cI, 1024, .inl (fun _ => 0))), (q27, .inr (2, [.ref b_34, .int 0])), (b_34, .inl (cB, 4110, .inl (fun _ => 0))), (q41, .inr (2, [.null, .int 0]))] := hD
  refine lv_dup hx hb d_Tape_init_44 rfl ?_
  refine lv_sipush (v := 8192) hx hb d_Tape_init_45 (by decide) ?_
  refine kc_v (wr := [(h0, .inr (0, [.ref q5, .ref q16, .ref q27, .null, .null])), (q5, .inr (1, [.ref a_9, .int 0, .int 0, .int 0, .int 0, .int 0])), (a_9, .inl (cI, 1024, .inl (fun _ => 0))), (q16, .inr (1, [.ref a_20, .int 0, .int 0, .int 0, .int 0, .int 0])), (a_20, .inl (cI, 1024, .inl (fun _ => 0))), (q27, .inr (2, [.ref b_34, .int 0])), (b_34, .inl (cB, 4110, .inl (fun _ => 0)))]) (w2 := fun (u9 : Nat) => [(h0, .inr (0, [.ref q5, .ref q16, .ref q27, .null, .null])), (q5, .inr (1, [.ref a_9, .int 0, .int 0, .int 0, .int 0, .int 0])), (a_9, .inl (cI, 1024, .inl (fun _ => 0))), (q16, .inr (1, [.ref a_20, .int 0, .int 0, .int 0, .int 0, .int 0])), (a_20, .inl (cI, 1024, .inl (fun _ => 0))), (q27, .inr (2, [.ref b_34, .int 0])), (b_34, .inl (cB, 4110, .inl (fun _ => 0))), (q41, .inr (2, [.ref u9, .int 0])), (u9, .inl (cB, 8192, .inl (fun _ => 0)))]) (va_runI (As := [.int 8192]) (rest := [.ref q41, .ref h0]) ⟨hx, hb, hml, hown, hts⟩ (c_Row_init_8192 l dC dI cI cB cZ _ q41 ) (cwI 1 hts (gW mw71) rfl rfl rfl (hts _ mw27) (hts _ mw69) (hts _ mw70) rfl (by decide +kernel) ⟨Nat.le_of_ble_eq_true rfl, Nat.le_of_ble_eq_true rfl⟩) (kpS (wc := [(q41, .inr (2, [.null, .int 0]))]) hK hP hD [7] rfl (by decide) rfl) rfl rfl hl.1 rfl (lv_room (Nat.le_of_ble_eq_true rfl)) d_Tape_init_48 ⟨Nat.le_of_ble_eq_true rfl, Nat.le_of_ble_eq_true rfl⟩) hP hD hS hA [7] [0, 1, 2, 3, 4, 5, 6] [0, 1, 2, 3, 4, 5, 6, 7, 8] rfl rfl (by decide) (by decide) (fun _ => rfl) (by decide) (fun _ => rfl) (fun u9 H locs hw hP hD hS => ?_)
  obtain ⟨b_48, rfl⟩ : ∃ z, z = u9 := ⟨_, rfl⟩
  try dsimp only at hw
  have hP : va_P (dC, dI) classes [(h0, .inr (0, [.ref q5, .ref q16, .ref q27, .null, .null])), (q5, .inr (1, [.ref a_9, .int 0, .int 0, .int 0, .int 0, .int 0])), (a_9, .inl (cI, 1024, .inl (fun _ => 0))), (q16, .inr (1, [.ref a_20, .int 0, .int 0, .int 0, .int 0, .int 0])), (a_20, .inl (cI, 1024, .inl (fun _ => 0))), (q27, .inr (2, [.ref b_34, .int 0])), (b_34, .inl (cB, 4110, .inl (fun _ => 0))), (q41, .inr (2, [.ref b_48, .int 0])), (b_48, .inl (cB, 8192, .inl (fun _ => 0)))] H := hP
  have hD : va_D A [(h0, .inr (0, [.ref q5, .ref q16, .ref q27, .null, .null])), (q5, .inr (1, [.ref a_9, .int 0, .int 0, .int 0, .int 0, .int 0])), (a_9, .inl (cI, 1024, .inl (fun _ => 0))), (q16, .inr (1, [.ref a_20, .int 0, .int 0, .int 0, .int 0, .int 0])), (a_20, .inl (cI, 1024, .inl (fun _ => 0))), (q27, .inr (2, [.ref b_34, .int 0])), (b_34, .inl (cB, 4110, .inl (fun _ => 0))), (q41, .inr (2, [.ref b_48, .int 0])), (b_48, .inl (cB, 8192, .inl (fun _ => 0)))] := hD
  refine W.widen (k := 8) (n := 14366) (by decide) (by decide) ?_
  refine va_putF (D := (dC, dI)) (ci := 0) (v := .ref q41) (ty := (.object "DemoTape$ByteRow")) (C := "DemoTape") (T := F_Tape) (N := 5) hx hb hts i_Tape t_Tape t_Tape_ok n_Tape hown hK hP hD hS 0 rfl rfl 3 (by decide) (hts _ mw109) (fun _ h9 => h9) rfl hin rfl (by decide +kernel) rfl rfl (Nat.le_of_ble_eq_true rfl) d_Tape_init_51 (fun H locs hP hD hS => ?_)
  have hP : va_P (dC, dI) classes [(h0, .inr (0, [.ref q5, .ref q16, .ref q27, .ref q41, .null])), (q5, .inr (1, [.ref a_9, .int 0, .int 0, .int 0, .int 0, .int 0])), (a_9, .inl (cI, 1024, .inl (fun _ => 0))), (q16, .inr (1, [.ref a_20, .int 0, .int 0, .int 0, .int 0, .int 0])), (a_20, .inl (cI, 1024, .inl (fun _ => 0))), (q27, .inr (2, [.ref b_34, .int 0])), (b_34, .inl (cB, 4110, .inl (fun _ => 0))), (q41, .inr (2, [.ref b_48, .int 0])), (b_48, .inl (cB, 8192, .inl (fun _ => 0)))] H := hP
  have hD : va_D A [(h0, .inr (0, [.ref q5, .ref q16, .ref q27, .ref q41, .null])), (q5, .inr (1, [.ref a_9, .int 0, .int 0, .int 0, .int 0, .int 0])), (a_9, .inl (cI, 1024, .inl (fun _ => 0))), (q16, .inr (1, [.ref a_20, .int 0, .int 0, .int 0, .int 0, .int 0])), (a_20, .inl (cI, 1024, .inl (fun _ => 0))), (q27, .inr (2, [.ref b_34, .int 0])), (b_34, .inl (cB, 4110, .inl (fun _ => 0))), (q41, .inr (2, [.ref b_48, .int 0])), (b_48, .inl (cB, 8192, .inl (fun _ => 0)))] := hD
  refine lv_aload_n hx hb d_Tape_init_54 rfl (lv_at hl 0 rfl) ?_
  refine va_new (ci := 3) (fs := [.null, .int 0, .int 0, .int 0, .int 0]) (C := "DemoTape$Reader") (T := F_Rd) (N := 5) hx hb hts i_Rd t_Rd t_Rd_ok hown (hts _ mw84) (hts _ mw85) (hts _ mw29) hK hP hD hS hA rfl (by decide +kernel) (Nat.le_of_ble_eq_true rfl) (Nat.le_of_ble_eq_true rfl) d_Tape_init_55 (fun q55 H hP hD hS => ?_)
  refine W.widen (k := 9) (n := 14371) (by decide) (by decide) ?_
  have hP : va_P (dC, dI) classes [(h0, .inr (0, [.ref q5, .ref q16, .ref q27, .ref q41, .null])), (q5, .inr (1, [.ref a_9, .int 0, .int 0, .int 0, .int 0, .int 0])), (a_9, .inl (cI, 1024, .inl (fun _ => 0))), (q16, .inr (1, [.ref a_20, .int 0, .int 0, .int 0, .int 0, .int 0])), (a_20, .inl (cI, 1024, .inl (fun _ => 0))), (q27, .inr (2, [.ref b_34, .int 0])), (b_34, .inl (cB, 4110, .inl (fun _ => 0))), (q41, .inr (2, [.ref b_48, .int 0])), (b_48, .inl (cB, 8192, .inl (fun _ => 0))), (q55, .inr (3, [.null, .int 0, .int 0, .int 0, .int 0]))] H := hP
  have hD : va_D A [(h0, .inr (0, [.ref q5, .ref q16, .ref q27, .ref q41, .null])), (q5, .inr (1, [.ref a_9, .int 0, .int 0, .int 0, .int 0, .int 0])), (a_9, .inl (cI, 1024, .inl (fun _ => 0))), (q16, .inr (1, [.ref a_20, .int 0, .int 0, .int 0, .int 0, .int 0])), (a_20, .inl (cI, 1024, .inl (fun _ => 0))), (q27, .inr (2, [.ref b_34, .int 0])), (b_34, .inl (cB, 4110, .inl (fun _ => 0))), (q41, .inr (2, [.ref b_48, .int 0])), (b_48, .inl (cB, 8192, .inl (fun _ => 0))), (q55, .inr (3, [.null, .int 0, .int 0, .int 0, .int 0]))] := hD
  refine lv_dup hx hb d_Tape_init_58 rfl ?_
  refine lv_aload_n hx hb d_Tape_init_59 rfl (lv_at hl 0 rfl) ?_
  refine va_get (D := (dC, dI)) (ci := 0) (v := .ref q41) (C := "DemoTape") (T := F_Tape) (N := 5) hx hb hts i_Tape hown hK hP 0 rfl rfl 3 (by decide) (hts _ mw109) (fun _ h9 => h9) rfl d_Tape_init_60 ?_
  refine kc_v (wr := [(h0, .inr (0, [.ref q5, .ref q16, .ref q27, .ref q41, .null])), (q5, .inr (1, [.ref a_9, .int 0, .int 0, .int 0, .int 0, .int 0])), (a_9, .inl (cI, 1024, .inl (fun _ => 0))), (q16, .inr (1, [.ref a_20, .int 0, .int 0, .int 0, .int 0, .int 0])), (a_20, .inl (cI, 1024, .inl (fun _ => 0))), (q27, .inr (2, [.ref b_34, .int 0])), (b_34, .inl (cB, 4110, .inl (fun _ => 0))), (q41, .inr (2, [.ref b_48, .int 0])), (b_48, .inl (cB, 8192, .inl (fun _ => 0)))]) (w2 := fun (_ : Unit) => [(h0, .inr (0, [.ref q5, .ref q16, .ref q27, .ref q41, .null])), (q5, .inr (1, [.ref a_9, .int 0, .int 0, .int 0, .int 0, .int 0])), (a_9, .inl (cI, 1024, .inl (fun _ => 0))), (q16, .inr (1, [.ref a_20, .int 0, .int 0, .int 0, .int 0, .int 0])), (a_20, .inl (cI, 1024, .inl (fun _ => 0))), (q27, .inr (2, [.ref b_34, .int 0])), (b_34, .inl (cB, 4110, .inl (fun _ => 0))), (q41, .inr (2, [.ref b_48, .int 0])), (b_48, .inl (cB, 8192, .inl (fun _ => 0))), (q55, .inr (3, [.ref q41, .int 0, .int 0, .int 0, .int (-1)]))]) (va_runI (As := [.ref q41]) (rest := [.ref q55, .ref h0]) ⟨hx, hb, hml, hown, hts⟩ (c_Rd_init l dC dI cI cB cZ _ q55 q41 ) (cwI 1 hts (gW mw88) rfl rfl rfl (hts _ mw29) (hts _ mw86) (hts _ mw87) rfl (by decide +kernel) ⟨Nat.le_of_ble_eq_true rfl, Nat.le_of_ble_eq_true rfl⟩) (kpS (wc := [(q55, .inr (3, [.null, .int 0, .int 0, .int 0, .int 0]))]) hK hP hD [9] rfl (by decide) rfl) rfl rfl hl.1 rfl (lv_room (Nat.le_of_ble_eq_true rfl)) d_Tape_init_63 ⟨Nat.le_of_ble_eq_true rfl, Nat.le_of_ble_eq_true rfl⟩) hP hD hS hA [9] [0, 1, 2, 3, 4, 5, 6, 7, 8] [0, 1, 2, 3, 4, 5, 6, 7, 8, 9] rfl rfl (by decide) (by decide) (fun _ => rfl) (by decide) (fun _ => rfl) (fun u9 H locs hw hP hD hS => ?_)
  have hP : va_P (dC, dI) classes [(h0, .inr (0, [.ref q5, .ref q16, .ref q27, .ref q41, .null])), (q5, .inr (1, [.ref a_9, .int 0, .int 0, .int 0, .int 0, .int 0])), (a_9, .inl (cI, 1024, .inl (fun _ => 0))), (q16, .inr (1, [.ref a_20, .int 0, .int 0, .int 0, .int 0, .int 0])), (a_20, .inl (cI, 1024, .inl (fun _ => 0))), (q27, .inr (2, [.ref b_34, .int 0])), (b_34, .inl (cB, 4110, .inl (fun _ => 0))), (q41, .inr (2, [.ref b_48, .int 0])), (b_48, .inl (cB, 8192, .inl (fun _ => 0))), (q55, .inr (3, [.ref q41, .int 0, .int 0, .int 0, .int (-1)]))] H := hP
  have hD : va_D A [(h0, .inr (0, [.ref q5, .ref q16, .ref q27, .ref q41, .null])), (q5, .inr (1, [.ref a_9, .int 0, .int 0, .int 0, .int 0, .int 0])), (a_9, .inl (cI, 1024, .inl (fun _ => 0))), (q16, .inr (1, [.ref a_20, .int 0, .int 0, .int 0, .int 0, .int 0])), (a_20, .inl (cI, 1024, .inl (fun _ => 0))), (q27, .inr (2, [.ref b_34, .int 0])), (b_34, .inl (cB, 4110, .inl (fun _ => 0))), (q41, .inr (2, [.ref b_48, .int 0])), (b_48, .inl (cB, 8192, .inl (fun _ => 0))), (q55, .inr (3, [.ref q41, .int 0, .int 0, .int 0, .int (-1)]))] := hD
  refine va_putF (D := (dC, dI)) (ci := 0) (v := .ref q55) (ty := (.object "DemoTape$Reader")) (C := "DemoTape") (T := F_Tape) (N := 5) hx hb hts i_Tape t_Tape t_Tape_ok n_Tape hown hK hP hD hS 0 rfl rfl 4 (by decide) (hts _ mw110) (fun _ h9 => h9) rfl hin rfl (by decide +kernel) rfl rfl (Nat.le_of_ble_eq_true rfl) d_Tape_init_66 (fun H locs hP hD hS => ?_)
  have hP : va_P (dC, dI) classes [(h0, .inr (0, [.ref q5, .ref q16, .ref q27, .ref q41, .ref q55])), (q5, .inr (1, [.ref a_9, .int 0, .int 0, .int 0, .int 0, .int 0])), (a_9, .inl (cI, 1024, .inl (fun _ => 0))), (q16, .inr (1, [.ref a_20, .int 0, .int 0, .int 0, .int 0, .int 0])), (a_20, .inl (cI, 1024, .inl (fun _ => 0))), (q27, .inr (2, [.ref b_34, .int 0])), (b_34, .inl (cB, 4110, .inl (fun _ => 0))), (q41, .inr (2, [.ref b_48, .int 0])), (b_48, .inl (cB, 8192, .inl (fun _ => 0))), (q55, .inr (3, [.ref q41, .int 0, .int 0, .int 0, .int (-1)]))] H := hP
  have hD : va_D A [(h0, .inr (0, [.ref q5, .ref q16, .ref q27, .ref q41, .ref q55])), (q5, .inr (1, [.ref a_9, .int 0, .int 0, .int 0, .int 0, .int 0])), (a_9, .inl (cI, 1024, .inl (fun _ => 0))), (q16, .inr (1, [.ref a_20, .int 0, .int 0, .int 0, .int 0, .int 0])), (a_20, .inl (cI, 1024, .inl (fun _ => 0))), (q27, .inr (2, [.ref b_34, .int 0])), (b_34, .inl (cB, 4110, .inl (fun _ => 0))), (q41, .inr (2, [.ref b_48, .int 0])), (b_48, .inl (cB, 8192, .inl (fun _ => 0))), (q55, .inr (3, [.ref q41, .int 0, .int 0, .int 0, .int (-1)]))] := hD
  exact kr_v (q5, a_9, q16, a_20, q27, b_34, q41, b_48, q55) hx hb hr hK (hP.sub [0, 1, 2, 3, 4, 5, 6, 7, 8, 9] (rfl)) (hD.sub [0, 1, 2, 3, 4, 5, 6, 7, 8, 9] (by decide) (rfl)) hS trivial d_Tape_init_69 hlocks
end
section
set_option maxRecDepth 20000 in
theorem mw30 : Cond.initialized "DemoTapeModel" ∈ wa := List.mem_filter.mpr ⟨List.mem_of_getElem? (i := 30) (by decide +kernel), by decide +kernel⟩
set_option maxRecDepth 20000 in
theorem mw384 : Cond.fieldLink "DemoTapeModel" 51 "DemoTapeModel" "thrown" "I" ∈ wa := List.mem_filter.mpr ⟨List.mem_of_getElem? (i := 384) (by decide +kernel), by decide +kernel⟩
set_option maxRecDepth 20000 in
theorem mw385 : Cond.fieldLink "DemoTapeModel" 7 "DemoTapeModel" "start" "[I" ∈ wa := List.mem_filter.mpr ⟨List.mem_of_getElem? (i := 385) (by decide +kernel), by decide +kernel⟩
set_option maxRecDepth 20000 in
theorem mw386 : Cond.fieldLink "DemoTapeModel" 13 "DemoTapeModel" "aheads" "[I" ∈ wa := List.mem_filter.mpr ⟨List.mem_of_getElem? (i := 386) (by decide +kernel), by decide +kernel⟩
set_option maxRecDepth 20000 in
theorem mw387 : Cond.fieldLink "DemoTapeModel" 16 "DemoTapeModel" "asides" "[I" ∈ wa := List.mem_filter.mpr ⟨List.mem_of_getElem? (i := 387) (by decide +kernel), by decide +kernel⟩
set_option maxRecDepth 20000 in
theorem mw388 : Cond.fieldLink "DemoTapeModel" 19 "DemoTapeModel" "turns" "[I" ∈ wa := List.mem_filter.mpr ⟨List.mem_of_getElem? (i := 388) (by decide +kernel), by decide +kernel⟩
set_option maxRecDepth 20000 in
theorem mw389 : Cond.fieldLink "DemoTapeModel" 22 "DemoTapeModel" "uses" "[Z" ∈ wa := List.mem_filter.mpr ⟨List.mem_of_getElem? (i := 389) (by decide +kernel), by decide +kernel⟩
set_option maxRecDepth 20000 in
theorem mw390 : Cond.fieldLink "DemoTapeModel" 58 "DemoTapeModel" "many" "I" ∈ wa := List.mem_filter.mpr ⟨List.mem_of_getElem? (i := 390) (by decide +kernel), by decide +kernel⟩
set_option maxRecDepth 20000 in
theorem mw393 : Cond.fieldLink "DemoTapeModel" 29 "DemoTapeModel" "input" "[I" ∈ wa := List.mem_filter.mpr ⟨List.mem_of_getElem? (i := 393) (by decide +kernel), by decide +kernel⟩
set_option maxRecDepth 20000 in
theorem mw394 : Cond.fieldLink "DemoTapeModel" 85 "DemoTapeModel" "size" "I" ∈ wa := List.mem_filter.mpr ⟨List.mem_of_getElem? (i := 394) (by decide +kernel), by decide +kernel⟩
set_option maxRecDepth 20000 in
theorem mw460 : Cond.methodLink "DemoTapeModel" 54 ⟨"DemoTapeModel", "isIn", "(II)Z"⟩ ∈ wa := List.mem_filter.mpr ⟨List.mem_of_getElem? (i := 460) (by decide +kernel), by decide +kernel⟩
set_option maxRecDepth 20000 in
theorem mw461 : Cond.static ⟨"DemoTapeModel", "isIn", "(II)Z"⟩ ∈ wa := List.mem_filter.mpr ⟨List.mem_of_getElem? (i := 461) (by decide +kernel), by decide +kernel⟩
set_option maxRecDepth 20000 in
theorem mw462 : Cond.code ⟨"DemoTapeModel", "isIn", "(II)Z"⟩ prog_7_method_3_code 2 (some .boolean) ∈ wa := List.mem_filter.mpr ⟨List.mem_of_getElem? (i := 462) (by decide +kernel), by decide +kernel⟩
end
section
abbrev y_Mo_isIn : MethodName := ⟨"DemoTapeModel", "isIn", "(II)Z"⟩
def w_Mo_isIn : List Cond := .code y_Mo_isIn prog_7_method_3_code 2 (some .boolean) :: wa
abbrev y_Mo_start : MethodName := ⟨"DemoTapeModel", "start", "(IIII)Z"⟩
def w_Mo_start : List Cond := .code y_Mo_start prog_7_method_4_code 5 (some .boolean) :: wa
abbrev y_Mo_record : MethodName := ⟨"DemoTapeModel", "record", "(IIIZI)I"⟩
def w_Mo_record : List Cond := .code y_Mo_record prog_7_method_5_code 7 (some .int) :: wa
abbrev y_Mo_undo : MethodName := ⟨"DemoTapeModel", "undo", "(I)Z"⟩
def w_Mo_undo : List Cond := .code y_Mo_undo prog_7_method_6_code 2 (some .boolean) :: wa
abbrev y_Mo_again : MethodName := ⟨"DemoTapeModel", "again", "(II)I"⟩
def w_Mo_again : List Cond := .code y_Mo_again prog_7_method_7_code 4 (some .int) :: wa
abbrev y_Mo_cut : MethodName := ⟨"DemoTapeModel", "cut", "(I)Z"⟩
def w_Mo_cut : List Cond := .code y_Mo_cut prog_7_method_15_code 2 (some .boolean) :: wa
abbrev y_Mo_poke : MethodName := ⟨"DemoTapeModel", "poke", "(II)Z"⟩
def w_Mo_poke : List Cond := .code y_Mo_poke prog_7_method_16_code 3 (some .boolean) :: wa
end
section
theorem d_Mo_isIn_0 : decode prog_7_method_3_code 0 = .ok (.iload_n 0, 1) := by decide +kernel
theorem d_Mo_isIn_1 : decode prog_7_method_3_code 1 = .ok (.iload_n 1, 1) := by decide +kernel
theorem d_Mo_isIn_2 : decode prog_7_method_3_code 2 = .ok (.ineg, 1) := by decide +kernel
theorem d_Mo_isIn_3 : decode prog_7_method_3_code 3 = .ok (.if_icmp .lt 12, 3) := by decide +kernel
theorem d_Mo_isIn_6 : decode prog_7_method_3_code 6 = .ok (.iload_n 0, 1) := by decide +kernel
theorem d_Mo_isIn_7 : decode prog_7_method_3_code 7 = .ok (.iload_n 1, 1) := by decide +kernel
theorem d_Mo_isIn_8 : decode prog_7_method_3_code 8 = .ok (.if_icmp .gt 7, 3) := by decide +kernel
theorem d_Mo_isIn_11 : decode prog_7_method_3_code 11 = .ok (.iconst 1, 1) := by decide +kernel
theorem d_Mo_isIn_12 : decode prog_7_method_3_code 12 = .ok (.goto 4, 3) := by decide +kernel
theorem d_Mo_isIn_15 : decode prog_7_method_3_code 15 = .ok (.iconst 0, 1) := by decide +kernel
theorem d_Mo_isIn_16 : decode prog_7_method_3_code 16 = .ok (.ireturn, 1) := by decide +kernel
theorem d_Mo_start_0 : decode prog_7_method_4_code 0 = .ok (.aload_n 0, 1) := by decide +kernel
theorem d_Mo_start_1 : decode prog_7_method_4_code 1 = .ok (.iconst 0, 1) := by decide +kernel
theorem d_Mo_start_2 : decode prog_7_method_4_code 2 = .ok (.putfield 51, 3) := by decide +kernel
theorem d_Mo_start_5 : decode prog_7_method_4_code 5 = .ok (.iload_n 1, 1) := by decide +kernel
theorem d_Mo_start_6 : decode prog_7_method_4_code 6 = .ok (.sipush (-32768), 3) := by decide +kernel
theorem d_Mo_start_9 : decode prog_7_method_4_code 9 = .ok (.if_icmp .lt 47, 3) := by decide +kernel
theorem d_Mo_start_12 : decode prog_7_method_4_code 12 = .ok (.iload_n 1, 1) := by decide +kernel
theorem d_Mo_start_13 : decode prog_7_method_4_code 13 = .ok (.sipush 32767, 3) := by decide +kernel
theorem d_Mo_start_16 : decode prog_7_method_4_code 16 = .ok (.if_icmp .gt 40, 3) := by decide +kernel
theorem d_Mo_start_19 : decode prog_7_method_4_code 19 = .ok (.iload_n 2, 1) := by decide +kernel
theorem d_Mo_start_20 : decode prog_7_method_4_code 20 = .ok (.sipush (-32768), 3) := by decide +kernel
theorem d_Mo_start_23 : decode prog_7_method_4_code 23 = .ok (.if_icmp .lt 33, 3) := by decide +kernel
theorem d_Mo_start_26 : decode prog_7_method_4_code 26 = .ok (.iload_n 2, 1) := by decide +kernel
theorem d_Mo_start_27 : decode prog_7_method_4_code 27 = .ok (.sipush 32767, 3) := by decide +kernel
theorem d_Mo_start_30 : decode prog_7_method_4_code 30 = .ok (.if_icmp .gt 26, 3) := by decide +kernel
theorem d_Mo_start_33 : decode prog_7_method_4_code 33 = .ok (.iload_n 3, 1) := by decide +kernel
theorem d_Mo_start_34 : decode prog_7_method_4_code 34 = .ok (.ifCond .lt 22, 3) := by decide +kernel
theorem d_Mo_start_37 : decode prog_7_method_4_code 37 = .ok (.iload_n 3, 1) := by decide +kernel
theorem d_Mo_start_38 : decode prog_7_method_4_code 38 = .ok (.bipush 63, 2) := by decide +kernel
theorem d_Mo_start_40 : decode prog_7_method_4_code 40 = .ok (.if_icmp .gt 16, 3) := by decide +kernel
theorem d_Mo_start_43 : decode prog_7_method_4_code 43 = .ok (.iload 4, 2) := by decide +kernel
theorem d_Mo_start_45 : decode prog_7_method_4_code 45 = .ok (.ifCond .lt 11, 3) := by decide +kernel
theorem d_Mo_start_48 : decode prog_7_method_4_code 48 = .ok (.iload 4, 2) := by decide +kernel
theorem d_Mo_start_50 : decode prog_7_method_4_code 50 = .ok (.sipush 255, 3) := by decide +kernel
theorem d_Mo_start_53 : decode prog_7_method_4_code 53 = .ok (.if_icmp .le 5, 3) := by decide +kernel
theorem d_Mo_start_56 : decode prog_7_method_4_code 56 = .ok (.iconst 0, 1) := by decide +kernel
theorem d_Mo_start_57 : decode prog_7_method_4_code 57 = .ok (.ireturn, 1) := by decide +kernel
theorem d_Mo_start_58 : decode prog_7_method_4_code 58 = .ok (.aload_n 0, 1) := by decide +kernel
theorem d_Mo_start_59 : decode prog_7_method_4_code 59 = .ok (.getfield 7, 3) := by decide +kernel
theorem d_Mo_start_62 : decode prog_7_method_4_code 62 = .ok (.iconst 0, 1) := by decide +kernel
theorem d_Mo_start_63 : decode prog_7_method_4_code 63 = .ok (.iload_n 1, 1) := by decide +kernel
theorem d_Mo_start_64 : decode prog_7_method_4_code 64 = .ok (.iastore, 1) := by decide +kernel
theorem d_Mo_start_65 : decode prog_7_method_4_code 65 = .ok (.aload_n 0, 1) := by decide +kernel
theorem d_Mo_start_66 : decode prog_7_method_4_code 66 = .ok (.getfield 7, 3) := by decide +kernel
theorem d_Mo_start_69 : decode prog_7_method_4_code 69 = .ok (.iconst 1, 1) := by decide +kernel
theorem d_Mo_start_70 : decode prog_7_method_4_code 70 = .ok (.iload_n 2, 1) := by decide +kernel
theorem d_Mo_start_71 : decode prog_7_method_4_code 71 = .ok (.iastore, 1) := by decide +kernel
theorem d_Mo_start_72 : decode prog_7_method_4_code 72 = .ok (.aload_n 0, 1) := by decide +kernel
theorem d_Mo_start_73 : decode prog_7_method_4_code 73 = .ok (.getfield 7, 3) := by decide +kernel
theorem d_Mo_start_76 : decode prog_7_method_4_code 76 = .ok (.iconst 2, 1) := by decide +kernel
theorem d_Mo_start_77 : decode prog_7_method_4_code 77 = .ok (.iload_n 3, 1) := by decide +kernel
theorem d_Mo_start_78 : decode prog_7_method_4_code 78 = .ok (.iastore, 1) := by decide +kernel
theorem d_Mo_start_79 : decode prog_7_method_4_code 79 = .ok (.aload_n 0, 1) := by decide +kernel
theorem d_Mo_start_80 : decode prog_7_method_4_code 80 = .ok (.getfield 7, 3) := by decide +kernel
theorem d_Mo_start_83 : decode prog_7_method_4_code 83 = .ok (.iconst 3, 1) := by decide +kernel
theorem d_Mo_start_84 : decode prog_7_method_4_code 84 = .ok (.iload 4, 2) := by decide +kernel
theorem d_Mo_start_86 : decode prog_7_method_4_code 86 = .ok (.iastore, 1) := by decide +kernel
theorem d_Mo_start_87 : decode prog_7_method_4_code 87 = .ok (.iconst 1, 1) := by decide +kernel
theorem d_Mo_start_88 : decode prog_7_method_4_code 88 = .ok (.ireturn, 1) := by decide +kernel
theorem d_Mo_record_0 : decode prog_7_method_5_code 0 = .ok (.aload_n 0, 1) := by decide +kernel
theorem d_Mo_record_1 : decode prog_7_method_5_code 1 = .ok (.iconst 0, 1) := by decide +kernel
theorem d_Mo_record_2 : decode prog_7_method_5_code 2 = .ok (.putfield 51, 3) := by decide +kernel
theorem d_Mo_record_5 : decode prog_7_method_5_code 5 = .ok (.iload_n 1, 1) := by decide +kernel
theorem d_Mo_record_6 : decode prog_7_method_5_code 6 = .ok (.bipush 64, 2) := by decide +kernel
theorem d_Mo_record_8 : decode prog_7_method_5_code 8 = .ok (.invokestatic 54, 3) := by decide +kernel
theorem d_Mo_record_11 : decode prog_7_method_5_code 11 = .ok (.ifCond .eq 48, 3) := by decide +kernel
theorem d_Mo_record_14 : decode prog_7_method_5_code 14 = .ok (.iload_n 2, 1) := by decide +kernel
theorem d_Mo_record_15 : decode prog_7_method_5_code 15 = .ok (.bipush 64, 2) := by decide +kernel
theorem d_Mo_record_17 : decode prog_7_method_5_code 17 = .ok (.invokestatic 54, 3) := by decide +kernel
theorem d_Mo_record_20 : decode prog_7_method_5_code 20 = .ok (.ifCond .eq 39, 3) := by decide +kernel
theorem d_Mo_record_23 : decode prog_7_method_5_code 23 = .ok (.iload_n 3, 1) := by decide +kernel
theorem d_Mo_record_24 : decode prog_7_method_5_code 24 = .ok (.bipush 16, 2) := by decide +kernel
theorem d_Mo_record_26 : decode prog_7_method_5_code 26 = .ok (.invokestatic 54, 3) := by decide +kernel
theorem d_Mo_record_29 : decode prog_7_method_5_code 29 = .ok (.ifCond .eq 30, 3) := by decide +kernel
theorem d_Mo_record_32 : decode prog_7_method_5_code 32 = .ok (.iload 5, 2) := by decide +kernel
theorem d_Mo_record_34 : decode prog_7_method_5_code 34 = .ok (.iconst 1, 1) := by decide +kernel
theorem d_Mo_record_35 : decode prog_7_method_5_code 35 = .ok (.if_icmp .lt 24, 3) := by decide +kernel
theorem d_Mo_record_38 : decode prog_7_method_5_code 38 = .ok (.iload 5, 2) := by decide +kernel
theorem d_Mo_record_40 : decode prog_7_method_5_code 40 = .ok (.sipush 1024, 3) := by decide +kernel
theorem d_Mo_record_43 : decode prog_7_method_5_code 43 = .ok (.if_icmp .gt 16, 3) := by decide +kernel
theorem d_Mo_record_46 : decode prog_7_method_5_code 46 = .ok (.aload_n 0, 1) := by decide +kernel
theorem d_Mo_record_47 : decode prog_7_method_5_code 47 = .ok (.getfield 58, 3) := by decide +kernel
theorem d_Mo_record_50 : decode prog_7_method_5_code 50 = .ok (.iload 5, 2) := by decide +kernel
theorem d_Mo_record_52 : decode prog_7_method_5_code 52 = .ok (.iadd, 1) := by decide +kernel
theorem d_Mo_record_53 : decode prog_7_method_5_code 53 = .ok (.sipush 1024, 3) := by decide +kernel
theorem d_Mo_record_56 : decode prog_7_method_5_code 56 = .ok (.if_icmp .le 5, 3) := by decide +kernel
theorem d_Mo_record_59 : decode prog_7_method_5_code 59 = .ok (.iconst (-1), 1) := by decide +kernel
theorem d_Mo_record_60 : decode prog_7_method_5_code 60 = .ok (.ireturn, 1) := by decide +kernel
theorem d_Mo_record_61 : decode prog_7_method_5_code 61 = .ok (.iconst 0, 1) := by decide +kernel
theorem d_Mo_record_62 : decode prog_7_method_5_code 62 = .ok (.istore 6, 2) := by decide +kernel
theorem d_Mo_record_64 : decode prog_7_method_5_code 64 = .ok (.iload 6, 2) := by decide +kernel
theorem d_Mo_record_66 : decode prog_7_method_5_code 66 = .ok (.iload 5, 2) := by decide +kernel
theorem d_Mo_record_68 : decode prog_7_method_5_code 68 = .ok (.if_icmp .ge 60, 3) := by decide +kernel
theorem d_Mo_record_71 : decode prog_7_method_5_code 71 = .ok (.aload_n 0, 1) := by decide +kernel
theorem d_Mo_record_72 : decode prog_7_method_5_code 72 = .ok (.getfield 13, 3) := by decide +kernel
theorem d_Mo_record_75 : decode prog_7_method_5_code 75 = .ok (.aload_n 0, 1) := by decide +kernel
theorem d_Mo_record_76 : decode prog_7_method_5_code 76 = .ok (.getfield 58, 3) := by decide +kernel
theorem d_Mo_record_79 : decode prog_7_method_5_code 79 = .ok (.iload_n 1, 1) := by decide +kernel
theorem d_Mo_record_80 : decode prog_7_method_5_code 80 = .ok (.iastore, 1) := by decide +kernel
theorem d_Mo_record_81 : decode prog_7_method_5_code 81 = .ok (.aload_n 0, 1) := by decide +kernel
theorem d_Mo_record_82 : decode prog_7_method_5_code 82 = .ok (.getfield 16, 3) := by decide +kernel
theorem d_Mo_record_85 : decode prog_7_method_5_code 85 = .ok (.aload_n 0, 1) := by decide +kernel
theorem d_Mo_record_86 : decode prog_7_method_5_code 86 = .ok (.getfield 58, 3) := by decide +kernel
theorem d_Mo_record_89 : decode prog_7_method_5_code 89 = .ok (.iload_n 2, 1) := by decide +kernel
theorem d_Mo_record_90 : decode prog_7_method_5_code 90 = .ok (.iastore, 1) := by decide +kernel
theorem d_Mo_record_91 : decode prog_7_method_5_code 91 = .ok (.aload_n 0, 1) := by decide +kernel
theorem d_Mo_record_92 : decode prog_7_method_5_code 92 = .ok (.getfield 19, 3) := by decide +kernel
theorem d_Mo_record_95 : decode prog_7_method_5_code 95 = .ok (.aload_n 0, 1) := by decide +kernel
theorem d_Mo_record_96 : decode prog_7_method_5_code 96 = .ok (.getfield 58, 3) := by decide +kernel
theorem d_Mo_record_99 : decode prog_7_method_5_code 99 = .ok (.iload_n 3, 1) := by decide +kernel
theorem d_Mo_record_100 : decode prog_7_method_5_code 100 = .ok (.iastore, 1) := by decide +kernel
theorem d_Mo_record_101 : decode prog_7_method_5_code 101 = .ok (.aload_n 0, 1) := by decide +kernel
theorem d_Mo_record_102 : decode prog_7_method_5_code 102 = .ok (.getfield 22, 3) := by decide +kernel
theorem d_Mo_record_105 : decode prog_7_method_5_code 105 = .ok (.aload_n 0, 1) := by decide +kernel
theorem d_Mo_record_106 : decode prog_7_method_5_code 106 = .ok (.getfield 58, 3) := by decide +kernel
theorem d_Mo_record_109 : decode prog_7_method_5_code 109 = .ok (.iload 4, 2) := by decide +kernel
theorem d_Mo_record_111 : decode prog_7_method_5_code 111 = .ok (.bastore, 1) := by decide +kernel
theorem d_Mo_record_112 : decode prog_7_method_5_code 112 = .ok (.aload_n 0, 1) := by decide +kernel
theorem d_Mo_record_113 : decode prog_7_method_5_code 113 = .ok (.dup, 1) := by decide +kernel
theorem d_Mo_record_114 : decode prog_7_method_5_code 114 = .ok (.getfield 58, 3) := by decide +kernel
theorem d_Mo_record_117 : decode prog_7_method_5_code 117 = .ok (.iconst 1, 1) := by decide +kernel
theorem d_Mo_record_118 : decode prog_7_method_5_code 118 = .ok (.iadd, 1) := by decide +kernel
theorem d_Mo_record_119 : decode prog_7_method_5_code 119 = .ok (.putfield 58, 3) := by decide +kernel
theorem d_Mo_record_122 : decode prog_7_method_5_code 122 = .ok (.iinc 6 1, 3) := by decide +kernel
theorem d_Mo_record_125 : decode prog_7_method_5_code 125 = .ok (.goto (-61), 3) := by decide +kernel
theorem d_Mo_record_128 : decode prog_7_method_5_code 128 = .ok (.aload_n 0, 1) := by decide +kernel
theorem d_Mo_record_129 : decode prog_7_method_5_code 129 = .ok (.getfield 58, 3) := by decide +kernel
theorem d_Mo_record_132 : decode prog_7_method_5_code 132 = .ok (.ireturn, 1) := by decide +kernel
theorem d_Mo_undo_0 : decode prog_7_method_6_code 0 = .ok (.aload_n 0, 1) := by decide +kernel
theorem d_Mo_undo_1 : decode prog_7_method_6_code 1 = .ok (.iconst 0, 1) := by decide +kernel
theorem d_Mo_undo_2 : decode prog_7_method_6_code 2 = .ok (.putfield 51, 3) := by decide +kernel
theorem d_Mo_undo_5 : decode prog_7_method_6_code 5 = .ok (.iload_n 1, 1) := by decide +kernel
theorem d_Mo_undo_6 : decode prog_7_method_6_code 6 = .ok (.ifCond .lt 11, 3) := by decide +kernel
theorem d_Mo_undo_9 : decode prog_7_method_6_code 9 = .ok (.iload_n 1, 1) := by decide +kernel
theorem d_Mo_undo_10 : decode prog_7_method_6_code 10 = .ok (.aload_n 0, 1) := by decide +kernel
theorem d_Mo_undo_11 : decode prog_7_method_6_code 11 = .ok (.getfield 58, 3) := by decide +kernel
theorem d_Mo_undo_14 : decode prog_7_method_6_code 14 = .ok (.if_icmp .le 5, 3) := by decide +kernel
theorem d_Mo_undo_17 : decode prog_7_method_6_code 17 = .ok (.iconst 0, 1) := by decide +kernel
theorem d_Mo_undo_18 : decode prog_7_method_6_code 18 = .ok (.ireturn, 1) := by decide +kernel
theorem d_Mo_undo_19 : decode prog_7_method_6_code 19 = .ok (.aload_n 0, 1) := by decide +kernel
theorem d_Mo_undo_20 : decode prog_7_method_6_code 20 = .ok (.dup, 1) := by decide +kernel
theorem d_Mo_undo_21 : decode prog_7_method_6_code 21 = .ok (.getfield 58, 3) := by decide +kernel
theorem d_Mo_undo_24 : decode prog_7_method_6_code 24 = .ok (.iload_n 1, 1) := by decide +kernel
theorem d_Mo_undo_25 : decode prog_7_method_6_code 25 = .ok (.isub, 1) := by decide +kernel
theorem d_Mo_undo_26 : decode prog_7_method_6_code 26 = .ok (.putfield 58, 3) := by decide +kernel
theorem d_Mo_undo_29 : decode prog_7_method_6_code 29 = .ok (.iconst 1, 1) := by decide +kernel
theorem d_Mo_undo_30 : decode prog_7_method_6_code 30 = .ok (.ireturn, 1) := by decide +kernel
theorem d_Mo_again_0 : decode prog_7_method_7_code 0 = .ok (.aload_n 0, 1) := by decide +kernel
theorem d_Mo_again_1 : decode prog_7_method_7_code 1 = .ok (.iconst 0, 1) := by decide +kernel
theorem d_Mo_again_2 : decode prog_7_method_7_code 2 = .ok (.putfield 51, 3) := by decide +kernel
theorem d_Mo_again_5 : decode prog_7_method_7_code 5 = .ok (.iload_n 1, 1) := by decide +kernel
theorem d_Mo_again_6 : decode prog_7_method_7_code 6 = .ok (.ifCond .lt 38, 3) := by decide +kernel
theorem d_Mo_again_9 : decode prog_7_method_7_code 9 = .ok (.iload_n 2, 1) := by decide +kernel
theorem d_Mo_again_10 : decode prog_7_method_7_code 10 = .ok (.iconst 1, 1) := by decide +kernel
theorem d_Mo_again_11 : decode prog_7_method_7_code 11 = .ok (.if_icmp .lt 33, 3) := by decide +kernel
theorem d_Mo_again_14 : decode prog_7_method_7_code 14 = .ok (.iload_n 1, 1) := by decide +kernel
theorem d_Mo_again_15 : decode prog_7_method_7_code 15 = .ok (.aload_n 0, 1) := by decide +kernel
theorem d_Mo_again_16 : decode prog_7_method_7_code 16 = .ok (.getfield 58, 3) := by decide +kernel
theorem d_Mo_again_19 : decode prog_7_method_7_code 19 = .ok (.iload_n 2, 1) := by decide +kernel
theorem d_Mo_again_20 : decode prog_7_method_7_code 20 = .ok (.isub, 1) := by decide +kernel
theorem d_Mo_again_21 : decode prog_7_method_7_code 21 = .ok (.if_icmp .gt 23, 3) := by decide +kernel
theorem d_Mo_again_24 : decode prog_7_method_7_code 24 = .ok (.iload_n 2, 1) := by decide +kernel
theorem d_Mo_again_25 : decode prog_7_method_7_code 25 = .ok (.aload_n 0, 1) := by decide +kernel
theorem d_Mo_again_26 : decode prog_7_method_7_code 26 = .ok (.getfield 58, 3) := by decide +kernel
theorem d_Mo_again_29 : decode prog_7_method_7_code 29 = .ok (.if_icmp .gt 15, 3) := by decide +kernel
theorem d_Mo_again_32 : decode prog_7_method_7_code 32 = .ok (.aload_n 0, 1) := by decide +kernel
theorem d_Mo_again_33 : decode prog_7_method_7_code 33 = .ok (.getfield 58, 3) := by decide +kernel
theorem d_Mo_again_36 : decode prog_7_method_7_code 36 = .ok (.iload_n 2, 1) := by decide +kernel
theorem d_Mo_again_37 : decode prog_7_method_7_code 37 = .ok (.iadd, 1) := by decide +kernel
theorem d_Mo_again_38 : decode prog_7_method_7_code 38 = .ok (.sipush 1024, 3) := by decide +kernel
theorem d_Mo_again_41 : decode prog_7_method_7_code 41 = .ok (.if_icmp .le 5, 3) := by decide +kernel
theorem d_Mo_again_44 : decode prog_7_method_7_code 44 = .ok (.iconst (-1), 1) := by decide +kernel
theorem d_Mo_again_45 : decode prog_7_method_7_code 45 = .ok (.ireturn, 1) := by decide +kernel
theorem d_Mo_again_46 : decode prog_7_method_7_code 46 = .ok (.iconst 0, 1) := by decide +kernel
theorem d_Mo_again_47 : decode prog_7_method_7_code 47 = .ok (.istore_n 3, 1) := by decide +kernel
theorem d_Mo_again_48 : decode prog_7_method_7_code 48 = .ok (.iload_n 3, 1) := by decide +kernel
theorem d_Mo_again_49 : decode prog_7_method_7_code 49 = .ok (.iload_n 2, 1) := by decide +kernel
theorem d_Mo_again_50 : decode prog_7_method_7_code 50 = .ok (.if_icmp .ge 87, 3) := by decide +kernel
theorem d_Mo_again_53 : decode prog_7_method_7_code 53 = .ok (.aload_n 0, 1) := by decide +kernel
theorem d_Mo_again_54 : decode prog_7_method_7_code 54 = .ok (.getfield 13, 3) := by decide +kernel
theorem d_Mo_again_57 : decode prog_7_method_7_code 57 = .ok (.aload_n 0, 1) := by decide +kernel
theorem d_Mo_again_58 : decode prog_7_method_7_code 58 = .ok (.getfield 58, 3) := by decide +kernel
theorem d_Mo_again_61 : decode prog_7_method_7_code 61 = .ok (.aload_n 0, 1) := by decide +kernel
theorem d_Mo_again_62 : decode prog_7_method_7_code 62 = .ok (.getfield 13, 3) := by decide +kernel
theorem d_Mo_again_65 : decode prog_7_method_7_code 65 = .ok (.iload_n 1, 1) := by decide +kernel
theorem d_Mo_again_66 : decode prog_7_method_7_code 66 = .ok (.iload_n 3, 1) := by decide +kernel
theorem d_Mo_again_67 : decode prog_7_method_7_code 67 = .ok (.iadd, 1) := by decide +kernel
theorem d_Mo_again_68 : decode prog_7_method_7_code 68 = .ok (.iaload, 1) := by decide +kernel
theorem d_Mo_again_69 : decode prog_7_method_7_code 69 = .ok (.iastore, 1) := by decide +kernel
theorem d_Mo_again_70 : decode prog_7_method_7_code 70 = .ok (.aload_n 0, 1) := by decide +kernel
theorem d_Mo_again_71 : decode prog_7_method_7_code 71 = .ok (.getfield 16, 3) := by decide +kernel
theorem d_Mo_again_74 : decode prog_7_method_7_code 74 = .ok (.aload_n 0, 1) := by decide +kernel
theorem d_Mo_again_75 : decode prog_7_method_7_code 75 = .ok (.getfield 58, 3) := by decide +kernel
theorem d_Mo_again_78 : decode prog_7_method_7_code 78 = .ok (.aload_n 0, 1) := by decide +kernel
theorem d_Mo_again_79 : decode prog_7_method_7_code 79 = .ok (.getfield 16, 3) := by decide +kernel
theorem d_Mo_again_82 : decode prog_7_method_7_code 82 = .ok (.iload_n 1, 1) := by decide +kernel
theorem d_Mo_again_83 : decode prog_7_method_7_code 83 = .ok (.iload_n 3, 1) := by decide +kernel
theorem d_Mo_again_84 : decode prog_7_method_7_code 84 = .ok (.iadd, 1) := by decide +kernel
theorem d_Mo_again_85 : decode prog_7_method_7_code 85 = .ok (.iaload, 1) := by decide +kernel
theorem d_Mo_again_86 : decode prog_7_method_7_code 86 = .ok (.iastore, 1) := by decide +kernel
theorem d_Mo_again_87 : decode prog_7_method_7_code 87 = .ok (.aload_n 0, 1) := by decide +kernel
theorem d_Mo_again_88 : decode prog_7_method_7_code 88 = .ok (.getfield 19, 3) := by decide +kernel
theorem d_Mo_again_91 : decode prog_7_method_7_code 91 = .ok (.aload_n 0, 1) := by decide +kernel
theorem d_Mo_again_92 : decode prog_7_method_7_code 92 = .ok (.getfield 58, 3) := by decide +kernel
theorem d_Mo_again_95 : decode prog_7_method_7_code 95 = .ok (.aload_n 0, 1) := by decide +kernel
theorem d_Mo_again_96 : decode prog_7_method_7_code 96 = .ok (.getfield 19, 3) := by decide +kernel
theorem d_Mo_again_99 : decode prog_7_method_7_code 99 = .ok (.iload_n 1, 1) := by decide +kernel
theorem d_Mo_again_100 : decode prog_7_method_7_code 100 = .ok (.iload_n 3, 1) := by decide +kernel
theorem d_Mo_again_101 : decode prog_7_method_7_code 101 = .ok (.iadd, 1) := by decide +kernel
theorem d_Mo_again_102 : decode prog_7_method_7_code 102 = .ok (.iaload, 1) := by decide +kernel
theorem d_Mo_again_103 : decode prog_7_method_7_code 103 = .ok (.iastore, 1) := by decide +kernel
theorem d_Mo_again_104 : decode prog_7_method_7_code 104 = .ok (.aload_n 0, 1) := by decide +kernel
theorem d_Mo_again_105 : decode prog_7_method_7_code 105 = .ok (.getfield 22, 3) := by decide +kernel
theorem d_Mo_again_108 : decode prog_7_method_7_code 108 = .ok (.aload_n 0, 1) := by decide +kernel
theorem d_Mo_again_109 : decode prog_7_method_7_code 109 = .ok (.getfield 58, 3) := by decide +kernel
theorem d_Mo_again_112 : decode prog_7_method_7_code 112 = .ok (.aload_n 0, 1) := by decide +kernel
theorem d_Mo_again_113 : decode prog_7_method_7_code 113 = .ok (.getfield 22, 3) := by decide +kernel
theorem d_Mo_again_116 : decode prog_7_method_7_code 116 = .ok (.iload_n 1, 1) := by decide +kernel
theorem d_Mo_again_117 : decode prog_7_method_7_code 117 = .ok (.iload_n 3, 1) := by decide +kernel
theorem d_Mo_again_118 : decode prog_7_method_7_code 118 = .ok (.iadd, 1) := by decide +kernel
theorem d_Mo_again_119 : decode prog_7_method_7_code 119 = .ok (.baload, 1) := by decide +kernel
theorem d_Mo_again_120 : decode prog_7_method_7_code 120 = .ok (.bastore, 1) := by decide +kernel
theorem d_Mo_again_121 : decode prog_7_method_7_code 121 = .ok (.aload_n 0, 1) := by decide +kernel
theorem d_Mo_again_122 : decode prog_7_method_7_code 122 = .ok (.dup, 1) := by decide +kernel
theorem d_Mo_again_123 : decode prog_7_method_7_code 123 = .ok (.getfield 58, 3) := by decide +kernel
theorem d_Mo_again_126 : decode prog_7_method_7_code 126 = .ok (.iconst 1, 1) := by decide +kernel
theorem d_Mo_again_127 : decode prog_7_method_7_code 127 = .ok (.iadd, 1) := by decide +kernel
theorem d_Mo_again_128 : decode prog_7_method_7_code 128 = .ok (.putfield 58, 3) := by decide +kernel
theorem d_Mo_again_131 : decode prog_7_method_7_code 131 = .ok (.iinc 3 1, 3) := by decide +kernel
theorem d_Mo_again_134 : decode prog_7_method_7_code 134 = .ok (.goto (-86), 3) := by decide +kernel
theorem d_Mo_again_137 : decode prog_7_method_7_code 137 = .ok (.aload_n 0, 1) := by decide +kernel
theorem d_Mo_again_138 : decode prog_7_method_7_code 138 = .ok (.getfield 58, 3) := by decide +kernel
theorem d_Mo_again_141 : decode prog_7_method_7_code 141 = .ok (.ireturn, 1) := by decide +kernel
theorem d_Mo_cut_0 : decode prog_7_method_15_code 0 = .ok (.aload_n 0, 1) := by decide +kernel
theorem d_Mo_cut_1 : decode prog_7_method_15_code 1 = .ok (.iconst 0, 1) := by decide +kernel
theorem d_Mo_cut_2 : decode prog_7_method_15_code 2 = .ok (.putfield 51, 3) := by decide +kernel
theorem d_Mo_cut_5 : decode prog_7_method_15_code 5 = .ok (.iload_n 1, 1) := by decide +kernel
theorem d_Mo_cut_6 : decode prog_7_method_15_code 6 = .ok (.ifCond .lt 11, 3) := by decide +kernel
theorem d_Mo_cut_9 : decode prog_7_method_15_code 9 = .ok (.iload_n 1, 1) := by decide +kernel
theorem d_Mo_cut_10 : decode prog_7_method_15_code 10 = .ok (.aload_n 0, 1) := by decide +kernel
theorem d_Mo_cut_11 : decode prog_7_method_15_code 11 = .ok (.getfield 85, 3) := by decide +kernel
theorem d_Mo_cut_14 : decode prog_7_method_15_code 14 = .ok (.if_icmp .le 5, 3) := by decide +kernel
theorem d_Mo_cut_17 : decode prog_7_method_15_code 17 = .ok (.iconst 0, 1) := by decide +kernel
theorem d_Mo_cut_18 : decode prog_7_method_15_code 18 = .ok (.ireturn, 1) := by decide +kernel
theorem d_Mo_cut_19 : decode prog_7_method_15_code 19 = .ok (.aload_n 0, 1) := by decide +kernel
theorem d_Mo_cut_20 : decode prog_7_method_15_code 20 = .ok (.iload_n 1, 1) := by decide +kernel
theorem d_Mo_cut_21 : decode prog_7_method_15_code 21 = .ok (.putfield 85, 3) := by decide +kernel
theorem d_Mo_cut_24 : decode prog_7_method_15_code 24 = .ok (.iconst 1, 1) := by decide +kernel
theorem d_Mo_cut_25 : decode prog_7_method_15_code 25 = .ok (.ireturn, 1) := by decide +kernel
theorem d_Mo_poke_0 : decode prog_7_method_16_code 0 = .ok (.aload_n 0, 1) := by decide +kernel
theorem d_Mo_poke_1 : decode prog_7_method_16_code 1 = .ok (.iconst 0, 1) := by decide +kernel
theorem d_Mo_poke_2 : decode prog_7_method_16_code 2 = .ok (.putfield 51, 3) := by decide +kernel
theorem d_Mo_poke_5 : decode prog_7_method_16_code 5 = .ok (.iload_n 1, 1) := by decide +kernel
theorem d_Mo_poke_6 : decode prog_7_method_16_code 6 = .ok (.ifCond .lt 11, 3) := by decide +kernel
theorem d_Mo_poke_9 : decode prog_7_method_16_code 9 = .ok (.iload_n 1, 1) := by decide +kernel
theorem d_Mo_poke_10 : decode prog_7_method_16_code 10 = .ok (.aload_n 0, 1) := by decide +kernel
theorem d_Mo_poke_11 : decode prog_7_method_16_code 11 = .ok (.getfield 85, 3) := by decide +kernel
theorem d_Mo_poke_14 : decode prog_7_method_16_code 14 = .ok (.if_icmp .lt 5, 3) := by decide +kernel
theorem d_Mo_poke_17 : decode prog_7_method_16_code 17 = .ok (.iconst 0, 1) := by decide +kernel
theorem d_Mo_poke_18 : decode prog_7_method_16_code 18 = .ok (.ireturn, 1) := by decide +kernel
theorem d_Mo_poke_19 : decode prog_7_method_16_code 19 = .ok (.aload_n 0, 1) := by decide +kernel
theorem d_Mo_poke_20 : decode prog_7_method_16_code 20 = .ok (.getfield 29, 3) := by decide +kernel
theorem d_Mo_poke_23 : decode prog_7_method_16_code 23 = .ok (.iload_n 1, 1) := by decide +kernel
theorem d_Mo_poke_24 : decode prog_7_method_16_code 24 = .ok (.iload_n 2, 1) := by decide +kernel
theorem d_Mo_poke_25 : decode prog_7_method_16_code 25 = .ok (.sipush 255, 3) := by decide +kernel
theorem d_Mo_poke_28 : decode prog_7_method_16_code 28 = .ok (.iand, 1) := by decide +kernel
theorem d_Mo_poke_29 : decode prog_7_method_16_code 29 = .ok (.iastore, 1) := by decide +kernel
theorem d_Mo_poke_30 : decode prog_7_method_16_code 30 = .ok (.iconst 1, 1) := by decide +kernel
theorem d_Mo_poke_31 : decode prog_7_method_16_code 31 = .ok (.ireturn, 1) := by decide +kernel
end
section
/-! Pure words of the reference's side, tied to the class's: codes as numbers, rows that hold what codes say -/
theorem nx_or (a b : Nat) : nI a ||| nI b = nI (a ||| b) := by
  apply Int32.toBitVec_inj.mp
  rw [Int32.toBitVec_or]
  show BitVec.ofNat 32 a ||| BitVec.ofNat 32 b = BitVec.ofNat 32 (a ||| b)
  apply BitVec.eq_of_getLsbD_eq
  intro i hi
  rw [BitVec.getLsbD_or, BitVec.getLsbD_ofNat, BitVec.getLsbD_ofNat, BitVec.getLsbD_ofNat, Nat.testBit_or]
  simp [hi]
theorem nx_add {a b k : Nat} (hb : b < 2 ^ k) : nI (a * 2 ^ k) ||| nI b = nI (a * 2 ^ k + b) := by
  rw [nx_or, Nat.mul_comm, ← Nat.two_pow_add_eq_or_of_lt hb]
def cNum (u a s t : Nat) : Nat := u * 16777216 + a * 65536 + s * 256 + t
theorem kCode_num {u a s t : Nat} (hu : u ≤ 1) (ha : a < 256) (hs : s < 256) (ht : t < 256) : kCode (nI u) (nI a) (nI s) (nI t) = nI (cNum u a s t) := by
  unfold kCode cNum
  have e1 : nI a <<< ((16 : Int32) &&& 31) = nI (a * 2 ^ 16) := pk_shlN _ 16 (by decide) (by omega)
  have e2 : nI s <<< ((8 : Int32) &&& 31) = nI (s * 2 ^ 8) := pk_shlN _ 8 (by decide) (by omega)
  have e0 : (if nI u = 0 then (0 : Int32) else 16777216) = nI (u * 2 ^ 24) := by
    rcases (show u = 0 ∨ u = 1 by omega) with rfl | rfl
    · rfl
    · rfl
  rw [e0, e1, e2, nx_add (by omega : a * 2 ^ 16 < 2 ^ 24)]
  rw [show u * 2 ^ 24 + a * 2 ^ 16 = (u * 2 ^ 8 + a) * 2 ^ 16 by omega, nx_add (by omega : s * 2 ^ 8 < 2 ^ 16)]
  rw [show (u * 2 ^ 8 + a) * 2 ^ 16 + s * 2 ^ 8 = ((u * 2 ^ 8 + a) * 2 ^ 8 + s) * 2 ^ 8 by omega, nx_add (by omega : t < 2 ^ 8)]
  congr 1
  omega
theorem kAhead_num {n : Nat} (h : n < 2 ^ 31) : kAhead (nI n) = nI (n / 65536 % 256) := by
  unfold kAhead
  rw [pk_shrN h _ 16 (by decide)]
  exact pk_andN (by omega) 8 (by decide)
theorem kAside_num {n : Nat} (h : n < 2 ^ 31) : kAside (nI n) = nI (n / 256 % 256) := by
  unfold kAside
  rw [pk_shrN h _ 8 (by decide)]
  exact pk_andN (by omega) 8 (by decide)
theorem kTurn_num {n : Nat} (h : n < 2 ^ 31) : kTurn (nI n) = nI (n % 256) := pk_andN (by omega) 8 (by decide)
/-- a code that can be -/
def cOk (c : Int32) : Prop := ∃ u a s t : Nat, u ≤ 1 ∧ a ≤ 128 ∧ s ≤ 128 ∧ t ≤ 32 ∧ c = nI (cNum u a s t)
theorem kUse_num {u a s t : Nat} (hu : u ≤ 1) (ha : a < 256) (hs : s < 256) (ht : t < 256) : kUse (nI (cNum u a s t)) = nI u := by
  have h : nI (cNum u a s t) &&& 16777216 = nI (u * 16777216) := by
    apply b_ext
    intro i hi
    rw [b_and]
    have e : ∀ i, i < 32 → bt 16777216 i = decide (i = 24) := by decide +kernel
    rw [e i hi]
    have hn : ∀ n : Nat, n < 2 ^ 32 → bt (nI n) i = n.testBit i := fun n _ => by
      unfold bt
      show (BitVec.ofNat 32 n).getLsbD i = _
      rw [BitVec.getLsbD_ofNat]; simp [hi]
    unfold cNum
    rw [hn _ (by omega), hn _ (by omega)]
    by_cases h24 : i = 24
    · subst h24
      simp only [decide_true, Bool.and_true, Nat.testBit_eq_decide_div_mod_eq]
      congr 1
      rw [show u * 16777216 + a * 65536 + s * 256 + t = (a * 65536 + s * 256 + t) + u * 2 ^ 24 by omega, Nat.add_mul_div_right _ _ (by decide), Nat.div_eq_of_lt (by omega), show u * 16777216 = u * 2 ^ 24 by omega, Nat.mul_div_cancel _ (by decide)]
      simp
    · rcases (show u = 0 ∨ u = 1 by omega) with rfl | rfl
      · simp [h24]
      · simp only [h24, decide_false, Bool.and_false]
        rw [show 1 * 16777216 = 2 ^ 24 by decide, Nat.testBit_two_pow]
        simp; omega
  unfold kUse
  rw [h]
  rcases (show u = 0 ∨ u = 1 by omega) with rfl | rfl
  · rfl
  · rfl
theorem cN_parts {u a s t : Nat} (hu : u ≤ 1) (ha : a ≤ 128) (hs : s ≤ 128) (ht : t ≤ 32) : kUse (nI (cNum u a s t)) = nI u ∧ kAhead (nI (cNum u a s t)) = nI a ∧ kAside (nI (cNum u a s t)) = nI s ∧ kTurn (nI (cNum u a s t)) = nI t := by
  have hl : cNum u a s t < 2 ^ 31 := by unfold cNum; omega
  refine ⟨kUse_num hu (by omega) (by omega) (by omega), ?_, ?_, ?_⟩
  · rw [kAhead_num hl]; congr 1; unfold cNum; omega
  · rw [kAside_num hl]; congr 1; unfold cNum; omega
  · rw [kTurn_num hl]; congr 1; unfold cNum; omega
/-- four rows that hold the codes' parts -/
def MRow (fa fs ft fu : Nat → Int32) (M : List Int32) : Prop := (∀ (i : Nat) (h : i < M.length), fa i = kAhead M[i] - 64 ∧ fs i = kAside M[i] - 64 ∧ ft i = kTurn M[i] - 16 ∧ fu i = kUse M[i]) ∧ (∀ c ∈ M, cOk c) ∧ M.length ≤ 1024
theorem MRow.nil {fa fs ft fu : Nat → Int32} : MRow fa fs ft fu [] := ⟨fun i h => absurd h (Nat.not_lt_zero i), fun c h => absurd h List.not_mem_nil, Nat.zero_le _⟩
theorem MRow.push {fa fs ft fu : Nat → Int32} {M : List Int32} (h : MRow fa fs ft fu M) {c xa xs xt xu : Int32} (hc : cOk c) (hl : M.length + 1 ≤ 1024) (ea : xa = kAhead c - 64) (es : xs = kAside c - 64) (et : xt = kTurn c - 16) (eu : xu = kUse c) : MRow (upd fa M.length xa) (upd fs M.length xs) (upd ft M.length xt) (upd fu M.length xu) (M ++ [c]) := by
  refine ⟨fun i hi => ?_, fun z hz => ?_, by rw [List.length_append]; exact hl⟩
  · simp only [List.length_append, List.length_cons, List.length_nil] at hi
    by_cases hq : i = M.length
    · subst hq; simp [upd, ea, es, et, eu]
    · have h2 : i < M.length := by omega
      rw [List.getElem_append_left h2]
      simp only [upd, if_neg hq]
      exact h.1 i h2
  · rcases List.mem_append.mp hz with q | q
    · exact h.2.1 z q
    · rw [List.mem_singleton.mp q]; exact hc
theorem MRow.take {fa fs ft fu : Nat → Int32} {M : List Int32} (h : MRow fa fs ft fu M) (n : Nat) : MRow fa fs ft fu (M.take n) := by
  refine ⟨fun i hi => ?_, fun z hz => h.2.1 z (List.mem_of_mem_take hz), by rw [List.length_take]; have := h.2.2; omega⟩
  rw [List.getElem_take]; exact h.1 i _
theorem MRow.at {fa fs ft fu : Nat → Int32} {M : List Int32} (h : MRow fa fs ft fu M) {j : Nat} (hj : j < M.length) : fa j = kAhead ((M[j]?).getD (-1)) - 64 ∧ fs j = kAside ((M[j]?).getD (-1)) - 64 ∧ ft j = kTurn ((M[j]?).getD (-1)) - 16 ∧ fu j = kUse ((M[j]?).getD (-1)) := by
  rw [List.getElem?_eq_getElem hj]; exact h.1 j hj
theorem MRow.ok {fa fs ft fu : Nat → Int32} {M : List Int32} (h : MRow fa fs ft fu M) {j : Nat} (hj : j < M.length) : cOk ((M[j]?).getD (-1)) := by
  rw [List.getElem?_eq_getElem hj]; exact h.2.1 _ (List.getElem_mem hj)
def HoldN (f : Nat → Int32) (L : List Nat) : Prop := ∀ (i : Nat) (h : i < L.length), f i = nI L[i]
def NRow (cap : Nat) (f : Nat → Int32) (L : List Nat) : Prop := HoldN f L ∧ Byt L ∧ L.length ≤ cap
theorem NRow.nil {cap : Nat} {f : Nat → Int32} : NRow cap f [] := ⟨fun i h => absurd h (Nat.not_lt_zero i), Byt.nil, Nat.zero_le _⟩
theorem NRow.push {cap : Nat} {f : Nat → Int32} {L : List Nat} (h : NRow cap f L) {b : Nat} {x : Int32} (hx : x = nI b) (hb : b < 256) (hl : L.length + 1 ≤ cap) : NRow cap (upd f L.length x) (L ++ [b]) := by
  refine ⟨fun i hi => ?_, h.2.1.app (fun z hz => by rw [List.mem_singleton.mp hz]; exact hb), by rw [List.length_append]; exact hl⟩
  simp only [List.length_append, List.length_cons, List.length_nil] at hi
  by_cases hc : i = L.length
  · subst hc; simp [upd, hx]
  · have h2 : i < L.length := by omega
    rw [List.getElem_append_left h2]
    simp only [upd, if_neg hc]
    exact h.1 i h2
theorem NRow.take {cap : Nat} {f : Nat → Int32} {L : List Nat} (h : NRow cap f L) (n : Nat) : NRow cap f (L.take n) :=
  ⟨fun i hi => by rw [List.getElem_take]; exact h.1 i _, h.2.1.take n, by rw [List.length_take]; have := h.2.2; omega⟩
theorem NRow.set {cap : Nat} {f : Nat → Int32} {L : List Nat} (h : NRow cap f L) {k b : Nat} {x : Int32} (hx : x = nI b) (hb : b < 256) : NRow cap (upd f k x) (L.set k b) := by
  refine ⟨fun i hi => ?_, h.2.1.set hb, by rw [List.length_set]; exact h.2.2⟩
  simp only [List.length_set] at hi
  rw [List.getElem_set]
  by_cases hc : i = k
  · subst hc; simp [upd, hx]
  · rw [if_neg (fun q => hc q.symm)]
    simp only [upd, if_neg hc]
    exact h.1 i hi
theorem NRow.at {cap : Nat} {f : Nat → Int32} {L : List Nat} (h : NRow cap f L) {j : Nat} (hj : j < L.length) : f j = nI (L.getD j 0) := by
  rw [h.1 j hj, List.getD_eq_getElem?_getD, List.getElem?_eq_getElem hj]; rfl
theorem NRow.get {cap : Nat} {f : Nat → Int32} {L : List Nat} (h : NRow cap f L) {j : Nat} (hj : j < L.length) : f j = ((L[j]?).map nI).getD (-1) := by
  rw [h.1 j hj, List.getElem?_eq_getElem hj]; rfl
/-- the start's row -/
def HoldQ (f : Nat → Int32) (v : Int32 × Int32 × Int32 × Int32) : Prop := f 0 = v.1 ∧ f 1 = v.2.1 ∧ f 2 = v.2.2.1 ∧ f 3 = v.2.2.2
theorem kIn_ok {k n : Nat} (h1 : 1 ≤ k) (h2 : k ≤ n) (hn : n < 2 ^ 31) : ¬ kIn (nI k) 1 (nI n) = 0 := (kIn_01 _ _ _).mpr ⟨nI_le (a := 1) h1 (by omega), nI_le h2 hn⟩
theorem kIn_lo {v lo hi : Int32} (h : v < lo) : kIn v lo hi = 0 := by unfold kIn; rw [if_neg (fun q => absurd q.1 (Int32.not_le.mpr h))]
theorem kIn_hi {v lo hi : Int32} (h : hi < v) : kIn v lo hi = 0 := by unfold kIn; rw [if_neg (fun q => absurd q.2 (Int32.not_le.mpr h))]
theorem kIn_y {v lo hi : Int32} (h : ¬ v < lo) (h2 : ¬ hi < v) : ¬ kIn v lo hi = 0 := (kIn_01 _ _ _).mpr ⟨Int32.not_lt.mp h, Int32.not_lt.mp h2⟩
theorem kPn {v : Int32} {n : Nat} (h : ¬ v < 1) (h2 : ¬ nI n < v) (hn : n < 2 ^ 31) : ∃ k, 1 ≤ k ∧ k ≤ n ∧ v = nI k := by
  have h0 : ¬ v < 0 := by
    rw [k32_lt] at h ⊢
    have e1 : (1 : Int32).toInt = 1 := by decide
    have e0 : (0 : Int32).toInt = 0 := by decide
    omega
  obtain ⟨k, hk, rfl⟩ := nI_of h0
  refine ⟨k, ?_, ?_, rfl⟩
  · rcases Nat.lt_or_ge k 1 with q | q
    · exact absurd (nI_lt (a := k) (b := 1) q (by decide)) h
    · exact q
  · rcases Nat.lt_or_ge n k with q | q
    · exact absurd (nI_lt q hk) h2
    · exact q
theorem pm_nI {v : Int32} {m : Nat} (hm : m ≤ 64) (h : ¬ kIn v (-nI m) (nI m) = 0) : ∃ k, k ≤ 2 * m ∧ v + nI m = nI k ∧ v = nI k - nI m := by
  obtain ⟨h1, h2⟩ := (kIn_01 _ _ _).mp h
  rw [k32_le] at h1 h2
  have e1 : (nI m).toInt = m := nI_toInt (by omega)
  have e2 : (-nI m).toInt = -(m : Int) := sb_negT (by omega)
  rw [e2] at h1; rw [e1] at h2
  have e3 : (v + nI m).toInt = v.toInt + m := by
    rw [Int32.toInt_add, e1]
    exact Int.bmod_eq_of_le (by omega) (by omega)
  have h0 : ¬ (v + nI m) < 0 := by
    rw [k32_lt, e3]; have e0 : (0 : Int32).toInt = 0 := by decide
    omega
  obtain ⟨k, hk, e⟩ := nI_of h0
  have e4 : (nI k).toInt = k := nI_toInt hk
  rw [← e, e3] at e4
  exact ⟨k, by omega, e, by rw [← e]; simp⟩
/-- what record lays down -/
theorem cd_ok {pa ps pt pu : Int32} (h1 : ¬ kIn pa (-64) 64 = 0) (h2 : ¬ kIn ps (-64) 64 = 0) (h3 : ¬ kIn pt (-16) 16 = 0) (hu : pu = 0 ∨ pu = 1) : cOk (kCode pu (pa + 64) (ps + 64) (pt + 16)) ∧ pa = kAhead (kCode pu (pa + 64) (ps + 64) (pt + 16)) - 64 ∧ ps = kAside (kCode pu (pa + 64) (ps + 64) (pt + 16)) - 64 ∧ pt = kTurn (kCode pu (pa + 64) (ps + 64) (pt + 16)) - 16 ∧ pu = kUse (kCode pu (pa + 64) (ps + 64) (pt + 16)) := by
  obtain ⟨a, ha, ea, ea2⟩ := pm_nI (m := 64) (by decide) h1
  obtain ⟨b, hb, eb, eb2⟩ := pm_nI (m := 64) (by decide) h2
  obtain ⟨t, ht, et, et2⟩ := pm_nI (m := 16) (by decide) h3
  obtain ⟨u, hu1, eu⟩ : ∃ u : Nat, u ≤ 1 ∧ pu = nI u := by
    rcases hu with q | q
    · exact ⟨0, by decide, q⟩
    · exact ⟨1, by decide, q⟩
  have e : kCode pu (pa + 64) (ps + 64) (pt + 16) = nI (cNum u a b t) := by
    rw [show pa + 64 = nI a from ea, show ps + 64 = nI b from eb, show pt + 16 = nI t from et, eu]
    exact kCode_num hu1 (by omega) (by omega) (by omega)
  obtain ⟨p1, p2, p3, p4⟩ := cN_parts (u := u) (a := a) (s := b) (t := t) hu1 (by omega) (by omega) (by omega)
  rw [e, p1, p2, p3, p4]
  exact ⟨⟨u, a, b, t, hu1, by omega, by omega, by omega, rfl⟩, ea2, eb2, et2, eu⟩
theorem nar_b01 {x : Int32} (h : x = 0 ∨ x = 1) : vp_nar .boolean x = x := by
  rcases h with rfl | rfl <;> rfl
theorem kUse_01 (c : Int32) : kUse c = 0 ∨ kUse c = 1 := by
  unfold kUse; split
  · exact Or.inl rfl
  · exact Or.inr rfl
theorem kIx_no {k n : Nat} (h : n ≤ k) (hk : k < 2 ^ 31) : kIn (nI k) 0 (nI n - 1) = 0 := by
  rcases Nat.eq_zero_or_pos n with h0 | h0
  · subst h0
    refine kIn_hi ?_
    have e : nI 0 - 1 = -1 := by decide
    rw [e, k32_lt, nI_toInt hk]
    have e1 : (-1 : Int32).toInt = -1 := by decide
    omega
  · obtain ⟨z, rfl⟩ : ∃ z, n = z + 1 := ⟨n - 1, by omega⟩
    rw [nI_pred]
    exact kIn_hi (nI_lt (by omega) hk)
theorem kIx_y {k n : Nat} (h : k < n) (hn : n < 2 ^ 31) : ¬ kIn (nI k) 0 (nI n - 1) = 0 := by
  obtain ⟨z, rfl⟩ : ∃ z, n = z + 1 := ⟨n - 1, by omega⟩
  rw [nI_pred]
  exact kIn_y (nI_pos (by omega)) (nI_nlt (by omega) (by omega))
theorem subI {n : Nat} {v : Int32} (hn : n ≤ 1024) (hv : ¬ v < 1) : (nI n - v).toInt = (n : Int) - v.toInt := by
  rw [k32_lt] at hv
  have e1 : (1 : Int32).toInt = 1 := by decide
  have h2 := v.toInt_lt
  rw [Int32.toInt_sub, nI_toInt (by omega)]
  exact Int.bmod_eq_of_le (by omega) (by omega)
theorem kAg_ok {M : List Int32} {i k : Nat} (h : i + k ≤ M.length) (h1 : 1 ≤ k) (h2 : M.length + k ≤ 1024) (hM : M.length ≤ 1024) : kAgOk M (nI i) (nI k) :=
  ⟨kIx_y (by omega) (by omega), by rw [pk_sub (by omega)]; exact kIn_ok h1 (by omega) (by omega), nI_le (by omega) (by omega)⟩
theorem kAg_in {M : List Int32} {pi pn : Int32} (hM : M.length ≤ 1024) (h1 : ¬ pi < 0) (h2 : ¬ pn < 1) (h3 : ¬ nI M.length - pn < pi) : ∃ i k, 1 ≤ k ∧ i + k ≤ M.length ∧ pi = nI i ∧ pn = nI k := by
  obtain ⟨i, hi, rfl⟩ := nI_of h1
  have hs := subI hM h2
  have h4 : ¬ nI M.length < pn := by
    intro q
    rw [k32_lt, nI_toInt (by omega)] at q
    apply h3
    rw [k32_lt, hs, nI_toInt hi]
    omega
  obtain ⟨k, hk1, hk2, rfl⟩ := kPn h2 h4 (by omega)
  refine ⟨i, k, hk1, ?_, rfl, rfl⟩
  rw [k32_lt, hs, nI_toInt hi, nI_toInt (by omega)] at h3
  omega
theorem kAg_no1 {M : List Int32} {pi pn : Int32} (hM : M.length ≤ 1024) (_ : ¬ pi < 0) (h2 : ¬ pn < 1) (h3 : nI M.length - pn < pi) : ¬ kAgOk M pi pn := by
  intro z
  obtain ⟨i, hi, rfl⟩ := kIn_ix z.1 (by omega)
  have z2 := z.2.1
  rw [pk_sub (by omega)] at z2
  obtain ⟨k, hk, rfl⟩ := kIn_nI z2 (by omega)
  rw [k32_lt, subI hM h2, nI_toInt (by omega), nI_toInt (by omega)] at h3
  omega
end
