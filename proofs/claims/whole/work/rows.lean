section
-- ===== PART A: goes FIRST, ahead of the names: the tables' words, and 'selects' of the private methods out of them =====
/-- a private method of a class that the tables say can be made, by its rows of tables_1 -/
def lw_okq (q : MethodName × Nat) : Prop := (q.1.cls ≠ "java/lang/invoke/MethodHandle" ∧ q.1.cls ≠ "java/lang/invoke/VarHandle") ∧ Cond.instantiable q.1.cls q.2 ∈ tables_1 ∧ Cond.privateMethod q.1 ∈ tables_1 ∧ Cond.instanceMethod q.1 ∈ tables_1
theorem lw_p0 : lw_okq (⟨"DemoTape$Walk", "putGroups", "(LDemoTape$ByteRow;)V"⟩, 6) := ⟨⟨by decide +kernel, by decide +kernel⟩, List.mem_of_getElem? (i := 18) (by decide +kernel), List.mem_of_getElem? (i := 174) (by decide +kernel), List.mem_of_getElem? (i := 175) (by decide +kernel)⟩
theorem lw_p1 : lw_okq (⟨"DemoTape$Walk", "endsGroup", "(II)Z"⟩, 6) := ⟨⟨by decide +kernel, by decide +kernel⟩, List.mem_of_getElem? (i := 18) (by decide +kernel), List.mem_of_getElem? (i := 178) (by decide +kernel), List.mem_of_getElem? (i := 179) (by decide +kernel)⟩
theorem lw_p2 : lw_okq (⟨"DemoTape$Reader", "takeMark", "()V"⟩, 5) := ⟨⟨by decide +kernel, by decide +kernel⟩, List.mem_of_getElem? (i := 61) (by decide +kernel), List.mem_of_getElem? (i := 260) (by decide +kernel), List.mem_of_getElem? (i := 261) (by decide +kernel)⟩
theorem lw_p3 : lw_okq (⟨"DemoTape$Reader", "takeOnly", "(II)V"⟩, 5) := ⟨⟨by decide +kernel, by decide +kernel⟩, List.mem_of_getElem? (i := 61) (by decide +kernel), List.mem_of_getElem? (i := 265) (by decide +kernel), List.mem_of_getElem? (i := 266) (by decide +kernel)⟩
theorem lw_p4 : lw_okq (⟨"DemoTape$Reader", "take", "(I)I"⟩, 5) := ⟨⟨by decide +kernel, by decide +kernel⟩, List.mem_of_getElem? (i := 61) (by decide +kernel), List.mem_of_getElem? (i := 269) (by decide +kernel), List.mem_of_getElem? (i := 270) (by decide +kernel)⟩
theorem lw_p5 : lw_okq (⟨"DemoTape$Reader", "fail", "(II)V"⟩, 5) := ⟨⟨by decide +kernel, by decide +kernel⟩, List.mem_of_getElem? (i := 61) (by decide +kernel), List.mem_of_getElem? (i := 274) (by decide +kernel), List.mem_of_getElem? (i := 275) (by decide +kernel)⟩
theorem lw_p6 : lw_okq (⟨"DemoTape$Reader", "takeStart", "(LDemoTape$Walk;)V"⟩, 5) := ⟨⟨by decide +kernel, by decide +kernel⟩, List.mem_of_getElem? (i := 61) (by decide +kernel), List.mem_of_getElem? (i := 278) (by decide +kernel), List.mem_of_getElem? (i := 279) (by decide +kernel)⟩
theorem lw_p7 : lw_okq (⟨"DemoTape$Reader", "takePlace", "()I"⟩, 5) := ⟨⟨by decide +kernel, by decide +kernel⟩, List.mem_of_getElem? (i := 61) (by decide +kernel), List.mem_of_getElem? (i := 282) (by decide +kernel), List.mem_of_getElem? (i := 283) (by decide +kernel)⟩
theorem lw_p8 : lw_okq (⟨"DemoTape$Reader", "takeGroups", "(LDemoTape$Walk;)V"⟩, 5) := ⟨⟨by decide +kernel, by decide +kernel⟩, List.mem_of_getElem? (i := 61) (by decide +kernel), List.mem_of_getElem? (i := 288) (by decide +kernel), List.mem_of_getElem? (i := 289) (by decide +kernel)⟩
theorem lw_p9 : lw_okq (⟨"DemoTape$Reader", "takeGroup", "(LDemoTape$Walk;)Z"⟩, 5) := ⟨⟨by decide +kernel, by decide +kernel⟩, List.mem_of_getElem? (i := 61) (by decide +kernel), List.mem_of_getElem? (i := 292) (by decide +kernel), List.mem_of_getElem? (i := 293) (by decide +kernel)⟩
theorem lw_p10 : lw_okq (⟨"DemoTape$Reader", "takeCode", "(I)I"⟩, 5) := ⟨⟨by decide +kernel, by decide +kernel⟩, List.mem_of_getElem? (i := 61) (by decide +kernel), List.mem_of_getElem? (i := 297) (by decide +kernel), List.mem_of_getElem? (i := 298) (by decide +kernel)⟩
theorem lw_p11 : lw_okq (⟨"DemoTape$Reader", "takeCheck", "()V"⟩, 5) := ⟨⟨by decide +kernel, by decide +kernel⟩, List.mem_of_getElem? (i := 61) (by decide +kernel), List.mem_of_getElem? (i := 305) (by decide +kernel), List.mem_of_getElem? (i := 306) (by decide +kernel)⟩
theorem lw_p12 : lw_okq (⟨"DemoTapeModel", "put", "(I)V"⟩, 22) := ⟨⟨by decide +kernel, by decide +kernel⟩, List.mem_of_getElem? (i := 355) (by decide +kernel), List.mem_of_getElem? (i := 452) (by decide +kernel), List.mem_of_getElem? (i := 453) (by decide +kernel)⟩
theorem lw_p13 : lw_okq (⟨"DemoTapeModel", "run", "(I)I"⟩, 22) := ⟨⟨by decide +kernel, by decide +kernel⟩, List.mem_of_getElem? (i := 355) (by decide +kernel), List.mem_of_getElem? (i := 456) (by decide +kernel), List.mem_of_getElem? (i := 457) (by decide +kernel)⟩
theorem lw_p14 : lw_okq (⟨"DemoTapeModel", "sum", "(I)V"⟩, 22) := ⟨⟨by decide +kernel, by decide +kernel⟩, List.mem_of_getElem? (i := 355) (by decide +kernel), List.mem_of_getElem? (i := 460) (by decide +kernel), List.mem_of_getElem? (i := 461) (by decide +kernel)⟩
theorem lw_p15 : lw_okq (⟨"DemoTapeModel", "checkByte", "(I)I"⟩, 22) := ⟨⟨by decide +kernel, by decide +kernel⟩, List.mem_of_getElem? (i := 355) (by decide +kernel), List.mem_of_getElem? (i := 465) (by decide +kernel), List.mem_of_getElem? (i := 466) (by decide +kernel)⟩
def lw_privs_1 : List (MethodName × Nat) := [(⟨"DemoTape$Walk", "putGroups", "(LDemoTape$ByteRow;)V"⟩, 6), (⟨"DemoTape$Walk", "endsGroup", "(II)Z"⟩, 6), (⟨"DemoTape$Reader", "takeMark", "()V"⟩, 5), (⟨"DemoTape$Reader", "takeOnly", "(II)V"⟩, 5), (⟨"DemoTape$Reader", "take", "(I)I"⟩, 5), (⟨"DemoTape$Reader", "fail", "(II)V"⟩, 5), (⟨"DemoTape$Reader", "takeStart", "(LDemoTape$Walk;)V"⟩, 5), (⟨"DemoTape$Reader", "takePlace", "()I"⟩, 5), (⟨"DemoTape$Reader", "takeGroups", "(LDemoTape$Walk;)V"⟩, 5), (⟨"DemoTape$Reader", "takeGroup", "(LDemoTape$Walk;)Z"⟩, 5), (⟨"DemoTape$Reader", "takeCode", "(I)I"⟩, 5), (⟨"DemoTape$Reader", "takeCheck", "()V"⟩, 5), (⟨"DemoTapeModel", "put", "(I)V"⟩, 22), (⟨"DemoTapeModel", "run", "(I)I"⟩, 22), (⟨"DemoTapeModel", "sum", "(I)V"⟩, 22), (⟨"DemoTapeModel", "checkByte", "(I)I"⟩, 22)]
theorem lw_r1 : ∀ q ∈ lw_privs_1, lw_okq q := List.forall_mem_cons.mpr ⟨lw_p0, List.forall_mem_cons.mpr ⟨lw_p1, List.forall_mem_cons.mpr ⟨lw_p2, List.forall_mem_cons.mpr ⟨lw_p3, List.forall_mem_cons.mpr ⟨lw_p4, List.forall_mem_cons.mpr ⟨lw_p5, List.forall_mem_cons.mpr ⟨lw_p6, List.forall_mem_cons.mpr ⟨lw_p7, List.forall_mem_cons.mpr ⟨lw_p8, List.forall_mem_cons.mpr ⟨lw_p9, List.forall_mem_cons.mpr ⟨lw_p10, List.forall_mem_cons.mpr ⟨lw_p11, List.forall_mem_cons.mpr ⟨lw_p12, List.forall_mem_cons.mpr ⟨lw_p13, List.forall_mem_cons.mpr ⟨lw_p14, List.forall_mem_cons.mpr ⟨lw_p15, fun _ h => absurd h List.not_mem_nil⟩⟩⟩⟩⟩⟩⟩⟩⟩⟩⟩⟩⟩⟩⟩⟩
theorem lw_p16 : lw_okq (⟨"DemoTapeModel", "readAll", "()V"⟩, 22) := ⟨⟨by decide +kernel, by decide +kernel⟩, List.mem_of_getElem? (i := 355) (by decide +kernel), List.mem_of_getElem? (i := 490) (by decide +kernel), List.mem_of_getElem? (i := 491) (by decide +kernel)⟩
theorem lw_p17 : lw_okq (⟨"DemoTapeModel", "next", "()I"⟩, 22) := ⟨⟨by decide +kernel, by decide +kernel⟩, List.mem_of_getElem? (i := 355) (by decide +kernel), List.mem_of_getElem? (i := 494) (by decide +kernel), List.mem_of_getElem? (i := 495) (by decide +kernel)⟩
theorem lw_p18 : lw_okq (⟨"DemoTapeModel", "wrong", "(II)V"⟩, 22) := ⟨⟨by decide +kernel, by decide +kernel⟩, List.mem_of_getElem? (i := 355) (by decide +kernel), List.mem_of_getElem? (i := 498) (by decide +kernel), List.mem_of_getElem? (i := 499) (by decide +kernel)⟩
theorem lw_p19 : lw_okq (⟨"DemoTapeModel", "nextTwo", "()I"⟩, 22) := ⟨⟨by decide +kernel, by decide +kernel⟩, List.mem_of_getElem? (i := 355) (by decide +kernel), List.mem_of_getElem? (i := 502) (by decide +kernel), List.mem_of_getElem? (i := 503) (by decide +kernel)⟩
theorem lw_p20 : lw_okq (⟨"DemoTapeModel", "nextUpTo", "(II)I"⟩, 22) := ⟨⟨by decide +kernel, by decide +kernel⟩, List.mem_of_getElem? (i := 355) (by decide +kernel), List.mem_of_getElem? (i := 507) (by decide +kernel), List.mem_of_getElem? (i := 508) (by decide +kernel)⟩
theorem lw_p21 : lw_okq (⟨"DemoTapeModel", "readGroup", "(II)V"⟩, 22) := ⟨⟨by decide +kernel, by decide +kernel⟩, List.mem_of_getElem? (i := 355) (by decide +kernel), List.mem_of_getElem? (i := 511) (by decide +kernel), List.mem_of_getElem? (i := 512) (by decide +kernel)⟩
theorem lw_p22 : lw_okq (⟨"DemoTapeModel", "groups", "()I"⟩, 22) := ⟨⟨by decide +kernel, by decide +kernel⟩, List.mem_of_getElem? (i := 355) (by decide +kernel), List.mem_of_getElem? (i := 532) (by decide +kernel), List.mem_of_getElem? (i := 533) (by decide +kernel)⟩
theorem lw_p23 : lw_okq (⟨"DemoTapeModel", "using", "()I"⟩, 22) := ⟨⟨by decide +kernel, by decide +kernel⟩, List.mem_of_getElem? (i := 355) (by decide +kernel), List.mem_of_getElem? (i := 536) (by decide +kernel), List.mem_of_getElem? (i := 537) (by decide +kernel)⟩
def lw_privs_2 : List (MethodName × Nat) := [(⟨"DemoTapeModel", "readAll", "()V"⟩, 22), (⟨"DemoTapeModel", "next", "()I"⟩, 22), (⟨"DemoTapeModel", "wrong", "(II)V"⟩, 22), (⟨"DemoTapeModel", "nextTwo", "()I"⟩, 22), (⟨"DemoTapeModel", "nextUpTo", "(II)I"⟩, 22), (⟨"DemoTapeModel", "readGroup", "(II)V"⟩, 22), (⟨"DemoTapeModel", "groups", "()I"⟩, 22), (⟨"DemoTapeModel", "using", "()I"⟩, 22)]
theorem lw_r2 : ∀ q ∈ lw_privs_2, lw_okq q := List.forall_mem_cons.mpr ⟨lw_p16, List.forall_mem_cons.mpr ⟨lw_p17, List.forall_mem_cons.mpr ⟨lw_p18, List.forall_mem_cons.mpr ⟨lw_p19, List.forall_mem_cons.mpr ⟨lw_p20, List.forall_mem_cons.mpr ⟨lw_p21, List.forall_mem_cons.mpr ⟨lw_p22, List.forall_mem_cons.mpr ⟨lw_p23, fun _ h => absurd h List.not_mem_nil⟩⟩⟩⟩⟩⟩⟩⟩
def lw_privs : List (MethodName × Nat) := lw_privs_1 ++ (lw_privs_2)
def lw_tbl : List Cond := k2_sels lw_privs ++ tables_1
theorem lw_privs_ok : ∀ q ∈ lw_privs, lw_okq q := by
  show ∀ q ∈ lw_privs_1 ++ (lw_privs_2), lw_okq q
  exact List.forall_mem_append.mpr ⟨lw_r1, lw_r2⟩
end
section
def wa : List Cond := lw_tbl.filter goodWord
theorem gW {y : MethodName} {b : ByteArray} {n : Nat} {r : Option FieldType} (h : Cond.code y b n r ∈ wa) : GoodIn wa (Cond.code y b n r :: wa) := by
  intro w hw
  have hm : w ∈ wa := by
    rcases List.mem_cons.mp hw with q | q
    · rw [q]; exact h
    · exact q
  exact ⟨hm, good_of_word (List.mem_filter.mp hm).2⟩
theorem gA {us ws : List Cond} (hu : ∀ w ∈ us, w ∈ wa) (hw : GoodIn wa ws) : GoodIn wa (us ++ ws) := by
  intro w h
  rcases List.mem_append.mp h with q | q
  · exact ⟨hu w q, good_of_word (List.mem_filter.mp (hu w q)).2⟩
  · exact hw w q
theorem gV {own C : String} {idx : Nat} {y : MethodName} {b : ByteArray} {n : Nat} {r : Option FieldType} (h1 : Cond.methodLink own idx y ∈ wa) (h2 : Cond.instanceMethod y ∈ wa) (h3 : Cond.selects C y y ∈ wa) (h4 : Cond.initialized C ∈ wa) (h5 : Cond.code y b n r ∈ wa) : GoodIn wa (wsV own idx C y (Cond.code y b n r :: wa)) := by
  refine gA ?_ (gW h5)
  intro w hw
  rcases List.mem_cons.mp hw with q | hw
  · rw [q]; exact h1
  rcases List.mem_cons.mp hw with q | hw
  · rw [q]; exact h2
  rcases List.mem_cons.mp hw with q | hw
  · rw [q]; exact h3
  rw [List.mem_singleton.mp hw]; exact h4
theorem gS {own : String} {idx : Nat} {y : MethodName} {b : ByteArray} {n : Nat} {r : Option FieldType} (h1 : Cond.methodLink own idx y ∈ wa) (h2 : Cond.static y ∈ wa) (h4 : Cond.initialized y.cls ∈ wa) (h5 : Cond.code y b n r ∈ wa) : GoodIn wa (va_wsS own idx y (Cond.code y b n r :: wa)) := by
  refine gA ?_ (gW h5)
  intro w hw
  rcases List.mem_cons.mp hw with q | hw
  · rw [q]; exact h1
  rcases List.mem_cons.mp hw with q | hw
  · rw [q]; exact h2
  rw [List.mem_singleton.mp hw]; exact h4
set_option maxRecDepth 20000 in
theorem mw0 : Cond.selects "DemoTape$Walk" ⟨"DemoTape$Walk", "putGroups", "(LDemoTape$ByteRow;)V"⟩ ⟨"DemoTape$Walk", "putGroups", "(LDemoTape$ByteRow;)V"⟩ ∈ wa := List.mem_filter.mpr ⟨List.mem_of_getElem? (i := 0) (by decide +kernel), by decide +kernel⟩
set_option maxRecDepth 20000 in
theorem mw1 : Cond.selects "DemoTape$Walk" ⟨"DemoTape$Walk", "endsGroup", "(II)Z"⟩ ⟨"DemoTape$Walk", "endsGroup", "(II)Z"⟩ ∈ wa := List.mem_filter.mpr ⟨List.mem_of_getElem? (i := 1) (by decide +kernel), by decide +kernel⟩
set_option maxRecDepth 20000 in
theorem mw2 : Cond.selects "DemoTape$Reader" ⟨"DemoTape$Reader", "takeMark", "()V"⟩ ⟨"DemoTape$Reader", "takeMark", "()V"⟩ ∈ wa := List.mem_filter.mpr ⟨List.mem_of_getElem? (i := 2) (by decide +kernel), by decide +kernel⟩
set_option maxRecDepth 20000 in
theorem mw3 : Cond.selects "DemoTape$Reader" ⟨"DemoTape$Reader", "takeOnly", "(II)V"⟩ ⟨"DemoTape$Reader", "takeOnly", "(II)V"⟩ ∈ wa := List.mem_filter.mpr ⟨List.mem_of_getElem? (i := 3) (by decide +kernel), by decide +kernel⟩
set_option maxRecDepth 20000 in
theorem mw4 : Cond.selects "DemoTape$Reader" ⟨"DemoTape$Reader", "take", "(I)I"⟩ ⟨"DemoTape$Reader", "take", "(I)I"⟩ ∈ wa := List.mem_filter.mpr ⟨List.mem_of_getElem? (i := 4) (by decide +kernel), by decide +kernel⟩
set_option maxRecDepth 20000 in
theorem mw5 : Cond.selects "DemoTape$Reader" ⟨"DemoTape$Reader", "fail", "(II)V"⟩ ⟨"DemoTape$Reader", "fail", "(II)V"⟩ ∈ wa := List.mem_filter.mpr ⟨List.mem_of_getElem? (i := 5) (by decide +kernel), by decide +kernel⟩
set_option maxRecDepth 20000 in
theorem mw6 : Cond.selects "DemoTape$Reader" ⟨"DemoTape$Reader", "takeStart", "(LDemoTape$Walk;)V"⟩ ⟨"DemoTape$Reader", "takeStart", "(LDemoTape$Walk;)V"⟩ ∈ wa := List.mem_filter.mpr ⟨List.mem_of_getElem? (i := 6) (by decide +kernel), by decide +kernel⟩
set_option maxRecDepth 20000 in
theorem mw7 : Cond.selects "DemoTape$Reader" ⟨"DemoTape$Reader", "takePlace", "()I"⟩ ⟨"DemoTape$Reader", "takePlace", "()I"⟩ ∈ wa := List.mem_filter.mpr ⟨List.mem_of_getElem? (i := 7) (by decide +kernel), by decide +kernel⟩
set_option maxRecDepth 20000 in
theorem mw8 : Cond.selects "DemoTape$Reader" ⟨"DemoTape$Reader", "takeGroups", "(LDemoTape$Walk;)V"⟩ ⟨"DemoTape$Reader", "takeGroups", "(LDemoTape$Walk;)V"⟩ ∈ wa := List.mem_filter.mpr ⟨List.mem_of_getElem? (i := 8) (by decide +kernel), by decide +kernel⟩
set_option maxRecDepth 20000 in
theorem mw9 : Cond.selects "DemoTape$Reader" ⟨"DemoTape$Reader", "takeGroup", "(LDemoTape$Walk;)Z"⟩ ⟨"DemoTape$Reader", "takeGroup", "(LDemoTape$Walk;)Z"⟩ ∈ wa := List.mem_filter.mpr ⟨List.mem_of_getElem? (i := 9) (by decide +kernel), by decide +kernel⟩
set_option maxRecDepth 20000 in
theorem mw10 : Cond.selects "DemoTape$Reader" ⟨"DemoTape$Reader", "takeCode", "(I)I"⟩ ⟨"DemoTape$Reader", "takeCode", "(I)I"⟩ ∈ wa := List.mem_filter.mpr ⟨List.mem_of_getElem? (i := 10) (by decide +kernel), by decide +kernel⟩
set_option maxRecDepth 20000 in
theorem mw11 : Cond.selects "DemoTape$Reader" ⟨"DemoTape$Reader", "takeCheck", "()V"⟩ ⟨"DemoTape$Reader", "takeCheck", "()V"⟩ ∈ wa := List.mem_filter.mpr ⟨List.mem_of_getElem? (i := 11) (by decide +kernel), by decide +kernel⟩
set_option maxRecDepth 20000 in
theorem mw25 : Cond.initialized "DemoTape" ∈ wa := List.mem_filter.mpr ⟨List.mem_of_getElem? (i := 25) (by decide +kernel), by decide +kernel⟩
set_option maxRecDepth 20000 in
theorem mw26 : Cond.initialized "DemoTape$Walk" ∈ wa := List.mem_filter.mpr ⟨List.mem_of_getElem? (i := 26) (by decide +kernel), by decide +kernel⟩
set_option maxRecDepth 20000 in
theorem mw27 : Cond.initialized "DemoTape$ByteRow" ∈ wa := List.mem_filter.mpr ⟨List.mem_of_getElem? (i := 27) (by decide +kernel), by decide +kernel⟩
set_option maxRecDepth 20000 in
theorem mw28 : Cond.initialized "java/lang/Math" ∈ wa := List.mem_filter.mpr ⟨List.mem_of_getElem? (i := 28) (by decide +kernel), by decide +kernel⟩
set_option maxRecDepth 20000 in
theorem mw29 : Cond.initialized "DemoTape$Reader" ∈ wa := List.mem_filter.mpr ⟨List.mem_of_getElem? (i := 29) (by decide +kernel), by decide +kernel⟩
set_option maxRecDepth 20000 in
theorem mw31 : Cond.initialized "DemoTape$Code" ∈ wa := List.mem_filter.mpr ⟨List.mem_of_getElem? (i := 31) (by decide +kernel), by decide +kernel⟩
set_option maxRecDepth 20000 in
theorem mw32 : Cond.initialized "java/lang/System" ∈ wa := List.mem_filter.mpr ⟨List.mem_of_getElem? (i := 32) (by decide +kernel), by decide +kernel⟩
set_option maxRecDepth 20000 in
theorem mw38 : Cond.methodLink "DemoTape" 3 ⟨"java/lang/Object", "<init>", "()V"⟩ ∈ wa := List.mem_filter.mpr ⟨List.mem_of_getElem? (i := 38) (by decide +kernel), by decide +kernel⟩
set_option maxRecDepth 20000 in
theorem mw39 : Cond.instanceMethod ⟨"java/lang/Object", "<init>", "()V"⟩ ∈ wa := List.mem_filter.mpr ⟨List.mem_of_getElem? (i := 39) (by decide +kernel), by decide +kernel⟩
set_option maxRecDepth 20000 in
theorem mw40 : Cond.code ⟨"java/lang/Object", "<init>", "()V"⟩ object_method_1_code 1 none ∈ wa := List.mem_filter.mpr ⟨List.mem_of_getElem? (i := 40) (by decide +kernel), by decide +kernel⟩
set_option maxRecDepth 20000 in
theorem mw41 : Cond.classLink "DemoTape" 9 "DemoTape$Walk" ∈ wa := List.mem_filter.mpr ⟨List.mem_of_getElem? (i := 41) (by decide +kernel), by decide +kernel⟩
set_option maxRecDepth 20000 in
theorem mw42 : Cond.instantiable "DemoTape$Walk" 6 ∈ wa := List.mem_filter.mpr ⟨List.mem_of_getElem? (i := 42) (by decide +kernel), by decide +kernel⟩
set_option maxRecDepth 20000 in
theorem mw44 : Cond.instanceMethod ⟨"DemoTape$Walk", "<init>", "()V"⟩ ∈ wa := List.mem_filter.mpr ⟨List.mem_of_getElem? (i := 44) (by decide +kernel), by decide +kernel⟩
set_option maxRecDepth 20000 in
theorem mw45 : Cond.code ⟨"DemoTape$Walk", "<init>", "()V"⟩ prog_5_method_1_code 1 none ∈ wa := List.mem_filter.mpr ⟨List.mem_of_getElem? (i := 45) (by decide +kernel), by decide +kernel⟩
set_option maxRecDepth 20000 in
theorem mw46 : Cond.methodLink "DemoTape$Walk" 3 ⟨"java/lang/Object", "<init>", "()V"⟩ ∈ wa := List.mem_filter.mpr ⟨List.mem_of_getElem? (i := 46) (by decide +kernel), by decide +kernel⟩
set_option maxRecDepth 20000 in
theorem mw47 : Cond.fieldLink "DemoTape$Walk" 9 "DemoTape$Walk" "codes" "[I" ∈ wa := List.mem_filter.mpr ⟨List.mem_of_getElem? (i := 47) (by decide +kernel), by decide +kernel⟩
set_option maxRecDepth 20000 in
theorem mw48 : Cond.fieldLink "DemoTape$Walk" 15 "DemoTape$Walk" "count" "I" ∈ wa := List.mem_filter.mpr ⟨List.mem_of_getElem? (i := 48) (by decide +kernel), by decide +kernel⟩
set_option maxRecDepth 20000 in
theorem mw49 : Cond.fieldLink "DemoTape$Walk" 19 "DemoTape$Walk" "x" "I" ∈ wa := List.mem_filter.mpr ⟨List.mem_of_getElem? (i := 49) (by decide +kernel), by decide +kernel⟩
set_option maxRecDepth 20000 in
theorem mw50 : Cond.fieldLink "DemoTape$Walk" 22 "DemoTape$Walk" "y" "I" ∈ wa := List.mem_filter.mpr ⟨List.mem_of_getElem? (i := 50) (by decide +kernel), by decide +kernel⟩
set_option maxRecDepth 20000 in
theorem mw51 : Cond.fieldLink "DemoTape$Walk" 25 "DemoTape$Walk" "angle" "I" ∈ wa := List.mem_filter.mpr ⟨List.mem_of_getElem? (i := 51) (by decide +kernel), by decide +kernel⟩
set_option maxRecDepth 20000 in
theorem mw52 : Cond.fieldLink "DemoTape$Walk" 28 "DemoTape$Walk" "sector" "I" ∈ wa := List.mem_filter.mpr ⟨List.mem_of_getElem? (i := 52) (by decide +kernel), by decide +kernel⟩
set_option maxRecDepth 20000 in
theorem mw66 : Cond.arrayClass .int ∈ wa := List.mem_filter.mpr ⟨List.mem_of_getElem? (i := 66) (by decide +kernel), by decide +kernel⟩
set_option maxRecDepth 20000 in
theorem mw67 : Cond.classLink "DemoTape" 19 "DemoTape$ByteRow" ∈ wa := List.mem_filter.mpr ⟨List.mem_of_getElem? (i := 67) (by decide +kernel), by decide +kernel⟩
set_option maxRecDepth 20000 in
theorem mw68 : Cond.instantiable "DemoTape$ByteRow" 2 ∈ wa := List.mem_filter.mpr ⟨List.mem_of_getElem? (i := 68) (by decide +kernel), by decide +kernel⟩
set_option maxRecDepth 20000 in
theorem mw69 : Cond.methodLink "DemoTape" 21 ⟨"DemoTape$ByteRow", "<init>", "(I)V"⟩ ∈ wa := List.mem_filter.mpr ⟨List.mem_of_getElem? (i := 69) (by decide +kernel), by decide +kernel⟩
set_option maxRecDepth 20000 in
theorem mw70 : Cond.instanceMethod ⟨"DemoTape$ByteRow", "<init>", "(I)V"⟩ ∈ wa := List.mem_filter.mpr ⟨List.mem_of_getElem? (i := 70) (by decide +kernel), by decide +kernel⟩
set_option maxRecDepth 20000 in
theorem mw71 : Cond.code ⟨"DemoTape$ByteRow", "<init>", "(I)V"⟩ prog_2_method_1_code 2 none ∈ wa := List.mem_filter.mpr ⟨List.mem_of_getElem? (i := 71) (by decide +kernel), by decide +kernel⟩
set_option maxRecDepth 20000 in
theorem mw72 : Cond.methodLink "DemoTape$ByteRow" 3 ⟨"java/lang/Object", "<init>", "()V"⟩ ∈ wa := List.mem_filter.mpr ⟨List.mem_of_getElem? (i := 72) (by decide +kernel), by decide +kernel⟩
set_option maxRecDepth 20000 in
theorem mw73 : Cond.methodLink "DemoTape$ByteRow" 9 ⟨"java/lang/Math", "max", "(II)I"⟩ ∈ wa := List.mem_filter.mpr ⟨List.mem_of_getElem? (i := 73) (by decide +kernel), by decide +kernel⟩
set_option maxRecDepth 20000 in
theorem mw74 : Cond.static ⟨"java/lang/Math", "max", "(II)I"⟩ ∈ wa := List.mem_filter.mpr ⟨List.mem_of_getElem? (i := 74) (by decide +kernel), by decide +kernel⟩
set_option maxRecDepth 20000 in
theorem mw75 : Cond.code ⟨"java/lang/Math", "max", "(II)I"⟩ prog_8_method_65_code 2 (some .int) ∈ wa := List.mem_filter.mpr ⟨List.mem_of_getElem? (i := 75) (by decide +kernel), by decide +kernel⟩
set_option maxRecDepth 20000 in
theorem mw76 : Cond.fieldLink "DemoTape$ByteRow" 15 "DemoTape$ByteRow" "bytes" "[B" ∈ wa := List.mem_filter.mpr ⟨List.mem_of_getElem? (i := 76) (by decide +kernel), by decide +kernel⟩
set_option maxRecDepth 20000 in
theorem mw77 : Cond.fieldLink "DemoTape$ByteRow" 21 "DemoTape$ByteRow" "size" "I" ∈ wa := List.mem_filter.mpr ⟨List.mem_of_getElem? (i := 77) (by decide +kernel), by decide +kernel⟩
set_option maxRecDepth 20000 in
theorem mw83 : Cond.arrayClass .byte ∈ wa := List.mem_filter.mpr ⟨List.mem_of_getElem? (i := 83) (by decide +kernel), by decide +kernel⟩
set_option maxRecDepth 20000 in
theorem mw84 : Cond.classLink "DemoTape" 31 "DemoTape$Reader" ∈ wa := List.mem_filter.mpr ⟨List.mem_of_getElem? (i := 84) (by decide +kernel), by decide +kernel⟩
set_option maxRecDepth 20000 in
theorem mw85 : Cond.instantiable "DemoTape$Reader" 5 ∈ wa := List.mem_filter.mpr ⟨List.mem_of_getElem? (i := 85) (by decide +kernel), by decide +kernel⟩
set_option maxRecDepth 20000 in
theorem mw86 : Cond.methodLink "DemoTape" 33 ⟨"DemoTape$Reader", "<init>", "(LDemoTape$ByteRow;)V"⟩ ∈ wa := List.mem_filter.mpr ⟨List.mem_of_getElem? (i := 86) (by decide +kernel), by decide +kernel⟩
set_option maxRecDepth 20000 in
theorem mw87 : Cond.instanceMethod ⟨"DemoTape$Reader", "<init>", "(LDemoTape$ByteRow;)V"⟩ ∈ wa := List.mem_filter.mpr ⟨List.mem_of_getElem? (i := 87) (by decide +kernel), by decide +kernel⟩
set_option maxRecDepth 20000 in
theorem mw88 : Cond.code ⟨"DemoTape$Reader", "<init>", "(LDemoTape$ByteRow;)V"⟩ prog_4_method_1_code 2 none ∈ wa := List.mem_filter.mpr ⟨List.mem_of_getElem? (i := 88) (by decide +kernel), by decide +kernel⟩
set_option maxRecDepth 20000 in
theorem mw89 : Cond.methodLink "DemoTape$Reader" 3 ⟨"java/lang/Object", "<init>", "()V"⟩ ∈ wa := List.mem_filter.mpr ⟨List.mem_of_getElem? (i := 89) (by decide +kernel), by decide +kernel⟩
set_option maxRecDepth 20000 in
theorem mw90 : Cond.fieldLink "DemoTape$Reader" 9 "DemoTape$Reader" "row" "LDemoTape$ByteRow;" ∈ wa := List.mem_filter.mpr ⟨List.mem_of_getElem? (i := 90) (by decide +kernel), by decide +kernel⟩
set_option maxRecDepth 20000 in
theorem mw91 : Cond.fieldLink "DemoTape$Reader" 22 "DemoTape$Reader" "next" "I" ∈ wa := List.mem_filter.mpr ⟨List.mem_of_getElem? (i := 91) (by decide +kernel), by decide +kernel⟩
set_option maxRecDepth 20000 in
theorem mw92 : Cond.fieldLink "DemoTape$Reader" 25 "DemoTape$Reader" "aheadN" "I" ∈ wa := List.mem_filter.mpr ⟨List.mem_of_getElem? (i := 92) (by decide +kernel), by decide +kernel⟩
set_option maxRecDepth 20000 in
theorem mw93 : Cond.fieldLink "DemoTape$Reader" 15 "DemoTape$Reader" "fault" "I" ∈ wa := List.mem_filter.mpr ⟨List.mem_of_getElem? (i := 93) (by decide +kernel), by decide +kernel⟩
set_option maxRecDepth 20000 in
theorem mw94 : Cond.fieldLink "DemoTape$Reader" 19 "DemoTape$Reader" "faultPlace" "I" ∈ wa := List.mem_filter.mpr ⟨List.mem_of_getElem? (i := 94) (by decide +kernel), by decide +kernel⟩
set_option maxRecDepth 20000 in
theorem mw106 : Cond.fieldLink "DemoTape" 12 "DemoTape" "walk" "LDemoTape$Walk;" ∈ wa := List.mem_filter.mpr ⟨List.mem_of_getElem? (i := 106) (by decide +kernel), by decide +kernel⟩
set_option maxRecDepth 20000 in
theorem mw107 : Cond.fieldLink "DemoTape" 16 "DemoTape" "spare" "LDemoTape$Walk;" ∈ wa := List.mem_filter.mpr ⟨List.mem_of_getElem? (i := 107) (by decide +kernel), by decide +kernel⟩
set_option maxRecDepth 20000 in
theorem mw108 : Cond.fieldLink "DemoTape" 24 "DemoTape" "outBytes" "LDemoTape$ByteRow;" ∈ wa := List.mem_filter.mpr ⟨List.mem_of_getElem? (i := 108) (by decide +kernel), by decide +kernel⟩
set_option maxRecDepth 20000 in
theorem mw109 : Cond.fieldLink "DemoTape" 28 "DemoTape" "inBytes" "LDemoTape$ByteRow;" ∈ wa := List.mem_filter.mpr ⟨List.mem_of_getElem? (i := 109) (by decide +kernel), by decide +kernel⟩
set_option maxRecDepth 20000 in
theorem mw110 : Cond.fieldLink "DemoTape" 36 "DemoTape" "reader" "LDemoTape$Reader;" ∈ wa := List.mem_filter.mpr ⟨List.mem_of_getElem? (i := 110) (by decide +kernel), by decide +kernel⟩
set_option maxRecDepth 20000 in
theorem mw126 : Cond.methodLink "DemoTape" 40 ⟨"DemoTape", "isWithin", "(III)Z"⟩ ∈ wa := List.mem_filter.mpr ⟨List.mem_of_getElem? (i := 126) (by decide +kernel), by decide +kernel⟩
set_option maxRecDepth 20000 in
theorem mw127 : Cond.static ⟨"DemoTape", "isWithin", "(III)Z"⟩ ∈ wa := List.mem_filter.mpr ⟨List.mem_of_getElem? (i := 127) (by decide +kernel), by decide +kernel⟩
set_option maxRecDepth 20000 in
theorem mw128 : Cond.code ⟨"DemoTape", "isWithin", "(III)Z"⟩ prog_1_method_16_code 3 (some .boolean) ∈ wa := List.mem_filter.mpr ⟨List.mem_of_getElem? (i := 128) (by decide +kernel), by decide +kernel⟩
set_option maxRecDepth 20000 in
theorem mw129 : Cond.methodLink "DemoTape" 44 ⟨"DemoTape$Walk", "setStart", "(IIII)V"⟩ ∈ wa := List.mem_filter.mpr ⟨List.mem_of_getElem? (i := 129) (by decide +kernel), by decide +kernel⟩
set_option maxRecDepth 20000 in
theorem mw130 : Cond.instanceMethod ⟨"DemoTape$Walk", "setStart", "(IIII)V"⟩ ∈ wa := List.mem_filter.mpr ⟨List.mem_of_getElem? (i := 130) (by decide +kernel), by decide +kernel⟩
set_option maxRecDepth 20000 in
theorem mw131 : Cond.selects "DemoTape$Walk" ⟨"DemoTape$Walk", "setStart", "(IIII)V"⟩ ⟨"DemoTape$Walk", "setStart", "(IIII)V"⟩ ∈ wa := List.mem_filter.mpr ⟨List.mem_of_getElem? (i := 131) (by decide +kernel), by decide +kernel⟩
set_option maxRecDepth 20000 in
theorem mw132 : Cond.code ⟨"DemoTape$Walk", "setStart", "(IIII)V"⟩ prog_5_method_5_code 5 none ∈ wa := List.mem_filter.mpr ⟨List.mem_of_getElem? (i := 132) (by decide +kernel), by decide +kernel⟩
set_option maxRecDepth 20000 in
theorem mw137 : Cond.methodLink "DemoTape" 48 ⟨"DemoTape$Walk", "room", "()I"⟩ ∈ wa := List.mem_filter.mpr ⟨List.mem_of_getElem? (i := 137) (by decide +kernel), by decide +kernel⟩
set_option maxRecDepth 20000 in
theorem mw138 : Cond.instanceMethod ⟨"DemoTape$Walk", "room", "()I"⟩ ∈ wa := List.mem_filter.mpr ⟨List.mem_of_getElem? (i := 138) (by decide +kernel), by decide +kernel⟩
set_option maxRecDepth 20000 in
theorem mw139 : Cond.selects "DemoTape$Walk" ⟨"DemoTape$Walk", "room", "()I"⟩ ⟨"DemoTape$Walk", "room", "()I"⟩ ∈ wa := List.mem_filter.mpr ⟨List.mem_of_getElem? (i := 139) (by decide +kernel), by decide +kernel⟩
set_option maxRecDepth 20000 in
theorem mw140 : Cond.code ⟨"DemoTape$Walk", "room", "()I"⟩ prog_5_method_3_code 1 (some .int) ∈ wa := List.mem_filter.mpr ⟨List.mem_of_getElem? (i := 140) (by decide +kernel), by decide +kernel⟩
set_option maxRecDepth 20000 in
theorem mw141 : Cond.methodLink "DemoTape" 52 ⟨"DemoTape$Code", "of", "(ZIII)I"⟩ ∈ wa := List.mem_filter.mpr ⟨List.mem_of_getElem? (i := 141) (by decide +kernel), by decide +kernel⟩
set_option maxRecDepth 20000 in
theorem mw142 : Cond.static ⟨"DemoTape$Code", "of", "(ZIII)I"⟩ ∈ wa := List.mem_filter.mpr ⟨List.mem_of_getElem? (i := 142) (by decide +kernel), by decide +kernel⟩
set_option maxRecDepth 20000 in
theorem mw143 : Cond.code ⟨"DemoTape$Code", "of", "(ZIII)I"⟩ prog_3_method_2_code 4 (some .int) ∈ wa := List.mem_filter.mpr ⟨List.mem_of_getElem? (i := 143) (by decide +kernel), by decide +kernel⟩
set_option maxRecDepth 20000 in
theorem mw144 : Cond.constant "DemoTape$Code" 11 (16777216) ∈ wa := List.mem_filter.mpr ⟨List.mem_of_getElem? (i := 144) (by decide +kernel), by decide +kernel⟩
set_option maxRecDepth 20000 in
theorem mw145 : Cond.methodLink "DemoTape" 58 ⟨"DemoTape$Walk", "append", "(II)V"⟩ ∈ wa := List.mem_filter.mpr ⟨List.mem_of_getElem? (i := 145) (by decide +kernel), by decide +kernel⟩
set_option maxRecDepth 20000 in
theorem mw146 : Cond.instanceMethod ⟨"DemoTape$Walk", "append", "(II)V"⟩ ∈ wa := List.mem_filter.mpr ⟨List.mem_of_getElem? (i := 146) (by decide +kernel), by decide +kernel⟩
set_option maxRecDepth 20000 in
theorem mw147 : Cond.selects "DemoTape$Walk" ⟨"DemoTape$Walk", "append", "(II)V"⟩ ⟨"DemoTape$Walk", "append", "(II)V"⟩ ∈ wa := List.mem_filter.mpr ⟨List.mem_of_getElem? (i := 147) (by decide +kernel), by decide +kernel⟩
set_option maxRecDepth 20000 in
theorem mw148 : Cond.code ⟨"DemoTape$Walk", "append", "(II)V"⟩ prog_5_method_7_code 5 none ∈ wa := List.mem_filter.mpr ⟨List.mem_of_getElem? (i := 148) (by decide +kernel), by decide +kernel⟩
set_option maxRecDepth 20000 in
theorem mw149 : Cond.methodLink "DemoTape$Walk" 32 ⟨"java/lang/Math", "min", "(II)I"⟩ ∈ wa := List.mem_filter.mpr ⟨List.mem_of_getElem? (i := 149) (by decide +kernel), by decide +kernel⟩
set_option maxRecDepth 20000 in
theorem mw150 : Cond.static ⟨"java/lang/Math", "min", "(II)I"⟩ ∈ wa := List.mem_filter.mpr ⟨List.mem_of_getElem? (i := 150) (by decide +kernel), by decide +kernel⟩
set_option maxRecDepth 20000 in
theorem mw151 : Cond.code ⟨"java/lang/Math", "min", "(II)I"⟩ prog_8_method_69_code 2 (some .int) ∈ wa := List.mem_filter.mpr ⟨List.mem_of_getElem? (i := 151) (by decide +kernel), by decide +kernel⟩
set_option maxRecDepth 20000 in
theorem mw152 : Cond.methodLink "DemoTape" 62 ⟨"DemoTape$Walk", "count", "()I"⟩ ∈ wa := List.mem_filter.mpr ⟨List.mem_of_getElem? (i := 152) (by decide +kernel), by decide +kernel⟩
set_option maxRecDepth 20000 in
theorem mw153 : Cond.instanceMethod ⟨"DemoTape$Walk", "count", "()I"⟩ ∈ wa := List.mem_filter.mpr ⟨List.mem_of_getElem? (i := 153) (by decide +kernel), by decide +kernel⟩
set_option maxRecDepth 20000 in
theorem mw154 : Cond.selects "DemoTape$Walk" ⟨"DemoTape$Walk", "count", "()I"⟩ ⟨"DemoTape$Walk", "count", "()I"⟩ ∈ wa := List.mem_filter.mpr ⟨List.mem_of_getElem? (i := 154) (by decide +kernel), by decide +kernel⟩
set_option maxRecDepth 20000 in
theorem mw155 : Cond.code ⟨"DemoTape$Walk", "count", "()I"⟩ prog_5_method_2_code 1 (some .int) ∈ wa := List.mem_filter.mpr ⟨List.mem_of_getElem? (i := 155) (by decide +kernel), by decide +kernel⟩
set_option maxRecDepth 20000 in
theorem mw160 : Cond.methodLink "DemoTape" 65 ⟨"DemoTape$Walk", "dropLast", "(I)V"⟩ ∈ wa := List.mem_filter.mpr ⟨List.mem_of_getElem? (i := 160) (by decide +kernel), by decide +kernel⟩
set_option maxRecDepth 20000 in
theorem mw161 : Cond.instanceMethod ⟨"DemoTape$Walk", "dropLast", "(I)V"⟩ ∈ wa := List.mem_filter.mpr ⟨List.mem_of_getElem? (i := 161) (by decide +kernel), by decide +kernel⟩
set_option maxRecDepth 20000 in
theorem mw162 : Cond.selects "DemoTape$Walk" ⟨"DemoTape$Walk", "dropLast", "(I)V"⟩ ⟨"DemoTape$Walk", "dropLast", "(I)V"⟩ ∈ wa := List.mem_filter.mpr ⟨List.mem_of_getElem? (i := 162) (by decide +kernel), by decide +kernel⟩
set_option maxRecDepth 20000 in
theorem mw163 : Cond.code ⟨"DemoTape$Walk", "dropLast", "(I)V"⟩ prog_5_method_9_code 2 none ∈ wa := List.mem_filter.mpr ⟨List.mem_of_getElem? (i := 163) (by decide +kernel), by decide +kernel⟩
set_option maxRecDepth 20000 in
theorem mw164 : Cond.methodLink "DemoTape$Walk" 46 ⟨"java/lang/Math", "max", "(II)I"⟩ ∈ wa := List.mem_filter.mpr ⟨List.mem_of_getElem? (i := 164) (by decide +kernel), by decide +kernel⟩
set_option maxRecDepth 20000 in
theorem mw169 : Cond.methodLink "DemoTape" 68 ⟨"DemoTape$Walk", "repeat", "(II)V"⟩ ∈ wa := List.mem_filter.mpr ⟨List.mem_of_getElem? (i := 169) (by decide +kernel), by decide +kernel⟩
set_option maxRecDepth 20000 in
theorem mw170 : Cond.instanceMethod ⟨"DemoTape$Walk", "repeat", "(II)V"⟩ ∈ wa := List.mem_filter.mpr ⟨List.mem_of_getElem? (i := 170) (by decide +kernel), by decide +kernel⟩
set_option maxRecDepth 20000 in
theorem mw171 : Cond.selects "DemoTape$Walk" ⟨"DemoTape$Walk", "repeat", "(II)V"⟩ ⟨"DemoTape$Walk", "repeat", "(II)V"⟩ ∈ wa := List.mem_filter.mpr ⟨List.mem_of_getElem? (i := 171) (by decide +kernel), by decide +kernel⟩
set_option maxRecDepth 20000 in
theorem mw172 : Cond.code ⟨"DemoTape$Walk", "repeat", "(II)V"⟩ prog_5_method_8_code 4 none ∈ wa := List.mem_filter.mpr ⟨List.mem_of_getElem? (i := 172) (by decide +kernel), by decide +kernel⟩
set_option maxRecDepth 20000 in
theorem mw173 : Cond.methodLink "DemoTape$Walk" 38 ⟨"DemoTape$Walk", "codeAt", "(I)I"⟩ ∈ wa := List.mem_filter.mpr ⟨List.mem_of_getElem? (i := 173) (by decide +kernel), by decide +kernel⟩
set_option maxRecDepth 20000 in
theorem mw174 : Cond.instanceMethod ⟨"DemoTape$Walk", "codeAt", "(I)I"⟩ ∈ wa := List.mem_filter.mpr ⟨List.mem_of_getElem? (i := 174) (by decide +kernel), by decide +kernel⟩
set_option maxRecDepth 20000 in
theorem mw175 : Cond.selects "DemoTape$Walk" ⟨"DemoTape$Walk", "codeAt", "(I)I"⟩ ⟨"DemoTape$Walk", "codeAt", "(I)I"⟩ ∈ wa := List.mem_filter.mpr ⟨List.mem_of_getElem? (i := 175) (by decide +kernel), by decide +kernel⟩
set_option maxRecDepth 20000 in
theorem mw176 : Cond.code ⟨"DemoTape$Walk", "codeAt", "(I)I"⟩ prog_5_method_4_code 2 (some .int) ∈ wa := List.mem_filter.mpr ⟨List.mem_of_getElem? (i := 176) (by decide +kernel), by decide +kernel⟩
set_option maxRecDepth 20000 in
theorem mw177 : Cond.methodLink "DemoTape$Walk" 42 ⟨"DemoTape$Walk", "append", "(II)V"⟩ ∈ wa := List.mem_filter.mpr ⟨List.mem_of_getElem? (i := 177) (by decide +kernel), by decide +kernel⟩
set_option maxRecDepth 20000 in
theorem mw182 : Cond.methodLink "DemoTape" 71 ⟨"DemoTape$ByteRow", "keepFirst", "(I)V"⟩ ∈ wa := List.mem_filter.mpr ⟨List.mem_of_getElem? (i := 182) (by decide +kernel), by decide +kernel⟩
set_option maxRecDepth 20000 in
theorem mw183 : Cond.instanceMethod ⟨"DemoTape$ByteRow", "keepFirst", "(I)V"⟩ ∈ wa := List.mem_filter.mpr ⟨List.mem_of_getElem? (i := 183) (by decide +kernel), by decide +kernel⟩
set_option maxRecDepth 20000 in
theorem mw184 : Cond.selects "DemoTape$ByteRow" ⟨"DemoTape$ByteRow", "keepFirst", "(I)V"⟩ ⟨"DemoTape$ByteRow", "keepFirst", "(I)V"⟩ ∈ wa := List.mem_filter.mpr ⟨List.mem_of_getElem? (i := 184) (by decide +kernel), by decide +kernel⟩
set_option maxRecDepth 20000 in
theorem mw185 : Cond.code ⟨"DemoTape$ByteRow", "keepFirst", "(I)V"⟩ prog_2_method_7_code 2 none ∈ wa := List.mem_filter.mpr ⟨List.mem_of_getElem? (i := 185) (by decide +kernel), by decide +kernel⟩
set_option maxRecDepth 20000 in
theorem mw186 : Cond.methodLink "DemoTape$ByteRow" 25 ⟨"java/lang/Math", "min", "(II)I"⟩ ∈ wa := List.mem_filter.mpr ⟨List.mem_of_getElem? (i := 186) (by decide +kernel), by decide +kernel⟩
set_option maxRecDepth 20000 in
theorem mw187 : Cond.methodLink "DemoTape" 74 ⟨"DemoTape$Walk", "putInto", "(LDemoTape$ByteRow;)V"⟩ ∈ wa := List.mem_filter.mpr ⟨List.mem_of_getElem? (i := 187) (by decide +kernel), by decide +kernel⟩
set_option maxRecDepth 20000 in
theorem mw188 : Cond.instanceMethod ⟨"DemoTape$Walk", "putInto", "(LDemoTape$ByteRow;)V"⟩ ∈ wa := List.mem_filter.mpr ⟨List.mem_of_getElem? (i := 188) (by decide +kernel), by decide +kernel⟩
set_option maxRecDepth 20000 in
theorem mw189 : Cond.selects "DemoTape$Walk" ⟨"DemoTape$Walk", "putInto", "(LDemoTape$ByteRow;)V"⟩ ⟨"DemoTape$Walk", "putInto", "(LDemoTape$ByteRow;)V"⟩ ∈ wa := List.mem_filter.mpr ⟨List.mem_of_getElem? (i := 189) (by decide +kernel), by decide +kernel⟩
set_option maxRecDepth 20000 in
theorem mw190 : Cond.code ⟨"DemoTape$Walk", "putInto", "(LDemoTape$ByteRow;)V"⟩ prog_5_method_14_code 3 none ∈ wa := List.mem_filter.mpr ⟨List.mem_of_getElem? (i := 190) (by decide +kernel), by decide +kernel⟩
set_option maxRecDepth 20000 in
theorem mw193 : Cond.methodLink "DemoTape$Walk" 62 ⟨"DemoTape$ByteRow", "addLowest", "(JI)V"⟩ ∈ wa := List.mem_filter.mpr ⟨List.mem_of_getElem? (i := 193) (by decide +kernel), by decide +kernel⟩
set_option maxRecDepth 20000 in
theorem mw194 : Cond.instanceMethod ⟨"DemoTape$ByteRow", "addLowest", "(JI)V"⟩ ∈ wa := List.mem_filter.mpr ⟨List.mem_of_getElem? (i := 194) (by decide +kernel), by decide +kernel⟩
set_option maxRecDepth 20000 in
theorem mw195 : Cond.selects "DemoTape$ByteRow" ⟨"DemoTape$ByteRow", "addLowest", "(JI)V"⟩ ⟨"DemoTape$ByteRow", "addLowest", "(JI)V"⟩ ∈ wa := List.mem_filter.mpr ⟨List.mem_of_getElem? (i := 195) (by decide +kernel), by decide +kernel⟩
set_option maxRecDepth 20000 in
theorem mw196 : Cond.code ⟨"DemoTape$ByteRow", "addLowest", "(JI)V"⟩ prog_2_method_6_code 5 none ∈ wa := List.mem_filter.mpr ⟨List.mem_of_getElem? (i := 196) (by decide +kernel), by decide +kernel⟩
set_option maxRecDepth 20000 in
theorem mw197 : Cond.methodLink "DemoTape$Walk" 68 ⟨"DemoTape$Walk", "putGroups", "(LDemoTape$ByteRow;)V"⟩ ∈ wa := List.mem_filter.mpr ⟨List.mem_of_getElem? (i := 197) (by decide +kernel), by decide +kernel⟩
set_option maxRecDepth 20000 in
theorem mw199 : Cond.instanceMethod ⟨"DemoTape$Walk", "putGroups", "(LDemoTape$ByteRow;)V"⟩ ∈ wa := List.mem_filter.mpr ⟨List.mem_of_getElem? (i := 199) (by decide +kernel), by decide +kernel⟩
set_option maxRecDepth 20000 in
theorem mw200 : Cond.code ⟨"DemoTape$Walk", "putGroups", "(LDemoTape$ByteRow;)V"⟩ prog_5_method_15_code 4 none ∈ wa := List.mem_filter.mpr ⟨List.mem_of_getElem? (i := 200) (by decide +kernel), by decide +kernel⟩
set_option maxRecDepth 20000 in
theorem mw201 : Cond.methodLink "DemoTape$Walk" 55 ⟨"DemoTape$Walk", "endsGroup", "(II)Z"⟩ ∈ wa := List.mem_filter.mpr ⟨List.mem_of_getElem? (i := 201) (by decide +kernel), by decide +kernel⟩
set_option maxRecDepth 20000 in
theorem mw203 : Cond.instanceMethod ⟨"DemoTape$Walk", "endsGroup", "(II)Z"⟩ ∈ wa := List.mem_filter.mpr ⟨List.mem_of_getElem? (i := 203) (by decide +kernel), by decide +kernel⟩
set_option maxRecDepth 20000 in
theorem mw204 : Cond.code ⟨"DemoTape$Walk", "endsGroup", "(II)Z"⟩ prog_5_method_13_code 3 (some .boolean) ∈ wa := List.mem_filter.mpr ⟨List.mem_of_getElem? (i := 204) (by decide +kernel), by decide +kernel⟩
set_option maxRecDepth 20000 in
theorem mw205 : Cond.methodLink "DemoTape$Walk" 79 ⟨"DemoTape$Walk", "putGroup", "(LDemoTape$ByteRow;II)V"⟩ ∈ wa := List.mem_filter.mpr ⟨List.mem_of_getElem? (i := 205) (by decide +kernel), by decide +kernel⟩
set_option maxRecDepth 20000 in
theorem mw206 : Cond.static ⟨"DemoTape$Walk", "putGroup", "(LDemoTape$ByteRow;II)V"⟩ ∈ wa := List.mem_filter.mpr ⟨List.mem_of_getElem? (i := 206) (by decide +kernel), by decide +kernel⟩
set_option maxRecDepth 20000 in
theorem mw207 : Cond.code ⟨"DemoTape$Walk", "putGroup", "(LDemoTape$ByteRow;II)V"⟩ prog_5_method_16_code 4 none ∈ wa := List.mem_filter.mpr ⟨List.mem_of_getElem? (i := 207) (by decide +kernel), by decide +kernel⟩
set_option maxRecDepth 20000 in
theorem mw208 : Cond.methodLink "DemoTape$Walk" 83 ⟨"DemoTape$Code", "hasSide", "(I)Z"⟩ ∈ wa := List.mem_filter.mpr ⟨List.mem_of_getElem? (i := 208) (by decide +kernel), by decide +kernel⟩
set_option maxRecDepth 20000 in
theorem mw209 : Cond.static ⟨"DemoTape$Code", "hasSide", "(I)Z"⟩ ∈ wa := List.mem_filter.mpr ⟨List.mem_of_getElem? (i := 209) (by decide +kernel), by decide +kernel⟩
set_option maxRecDepth 20000 in
theorem mw210 : Cond.code ⟨"DemoTape$Code", "hasSide", "(I)Z"⟩ prog_3_method_7_code 1 (some .boolean) ∈ wa := List.mem_filter.mpr ⟨List.mem_of_getElem? (i := 210) (by decide +kernel), by decide +kernel⟩
set_option maxRecDepth 20000 in
theorem mw211 : Cond.methodLink "DemoTape$Code" 12 ⟨"DemoTape$Code", "asideByte", "(I)I"⟩ ∈ wa := List.mem_filter.mpr ⟨List.mem_of_getElem? (i := 211) (by decide +kernel), by decide +kernel⟩
set_option maxRecDepth 20000 in
theorem mw212 : Cond.static ⟨"DemoTape$Code", "asideByte", "(I)I"⟩ ∈ wa := List.mem_filter.mpr ⟨List.mem_of_getElem? (i := 212) (by decide +kernel), by decide +kernel⟩
set_option maxRecDepth 20000 in
theorem mw213 : Cond.code ⟨"DemoTape$Code", "asideByte", "(I)I"⟩ prog_3_method_5_code 1 (some .int) ∈ wa := List.mem_filter.mpr ⟨List.mem_of_getElem? (i := 213) (by decide +kernel), by decide +kernel⟩
set_option maxRecDepth 20000 in
theorem mw214 : Cond.methodLink "DemoTape$Code" 16 ⟨"DemoTape$Code", "turnByte", "(I)I"⟩ ∈ wa := List.mem_filter.mpr ⟨List.mem_of_getElem? (i := 214) (by decide +kernel), by decide +kernel⟩
set_option maxRecDepth 20000 in
theorem mw215 : Cond.static ⟨"DemoTape$Code", "turnByte", "(I)I"⟩ ∈ wa := List.mem_filter.mpr ⟨List.mem_of_getElem? (i := 215) (by decide +kernel), by decide +kernel⟩
set_option maxRecDepth 20000 in
theorem mw216 : Cond.code ⟨"DemoTape$Code", "turnByte", "(I)I"⟩ prog_3_method_6_code 1 (some .int) ∈ wa := List.mem_filter.mpr ⟨List.mem_of_getElem? (i := 216) (by decide +kernel), by decide +kernel⟩
set_option maxRecDepth 20000 in
theorem mw217 : Cond.methodLink "DemoTape$Walk" 49 ⟨"DemoTape$Code", "uses", "(I)Z"⟩ ∈ wa := List.mem_filter.mpr ⟨List.mem_of_getElem? (i := 217) (by decide +kernel), by decide +kernel⟩
set_option maxRecDepth 20000 in
theorem mw218 : Cond.static ⟨"DemoTape$Code", "uses", "(I)Z"⟩ ∈ wa := List.mem_filter.mpr ⟨List.mem_of_getElem? (i := 218) (by decide +kernel), by decide +kernel⟩
set_option maxRecDepth 20000 in
theorem mw219 : Cond.code ⟨"DemoTape$Code", "uses", "(I)Z"⟩ prog_3_method_3_code 1 (some .boolean) ∈ wa := List.mem_filter.mpr ⟨List.mem_of_getElem? (i := 219) (by decide +kernel), by decide +kernel⟩
set_option maxRecDepth 20000 in
theorem mw220 : Cond.methodLink "DemoTape$Walk" 86 ⟨"DemoTape$Code", "aheadByte", "(I)I"⟩ ∈ wa := List.mem_filter.mpr ⟨List.mem_of_getElem? (i := 220) (by decide +kernel), by decide +kernel⟩
set_option maxRecDepth 20000 in
theorem mw221 : Cond.static ⟨"DemoTape$Code", "aheadByte", "(I)I"⟩ ∈ wa := List.mem_filter.mpr ⟨List.mem_of_getElem? (i := 221) (by decide +kernel), by decide +kernel⟩
set_option maxRecDepth 20000 in
theorem mw222 : Cond.code ⟨"DemoTape$Code", "aheadByte", "(I)I"⟩ prog_3_method_4_code 1 (some .int) ∈ wa := List.mem_filter.mpr ⟨List.mem_of_getElem? (i := 222) (by decide +kernel), by decide +kernel⟩
set_option maxRecDepth 20000 in
theorem mw223 : Cond.methodLink "DemoTape$Walk" 89 ⟨"DemoTape$Code", "asideByte", "(I)I"⟩ ∈ wa := List.mem_filter.mpr ⟨List.mem_of_getElem? (i := 223) (by decide +kernel), by decide +kernel⟩
set_option maxRecDepth 20000 in
theorem mw224 : Cond.methodLink "DemoTape$Walk" 92 ⟨"DemoTape$Code", "turnByte", "(I)I"⟩ ∈ wa := List.mem_filter.mpr ⟨List.mem_of_getElem? (i := 224) (by decide +kernel), by decide +kernel⟩
set_option maxRecDepth 20000 in
theorem mw225 : Cond.methodLink "DemoTape$Walk" 72 ⟨"DemoTape$ByteRow", "size", "()I"⟩ ∈ wa := List.mem_filter.mpr ⟨List.mem_of_getElem? (i := 225) (by decide +kernel), by decide +kernel⟩
set_option maxRecDepth 20000 in
theorem mw226 : Cond.instanceMethod ⟨"DemoTape$ByteRow", "size", "()I"⟩ ∈ wa := List.mem_filter.mpr ⟨List.mem_of_getElem? (i := 226) (by decide +kernel), by decide +kernel⟩
set_option maxRecDepth 20000 in
theorem mw227 : Cond.selects "DemoTape$ByteRow" ⟨"DemoTape$ByteRow", "size", "()I"⟩ ⟨"DemoTape$ByteRow", "size", "()I"⟩ ∈ wa := List.mem_filter.mpr ⟨List.mem_of_getElem? (i := 227) (by decide +kernel), by decide +kernel⟩
set_option maxRecDepth 20000 in
theorem mw228 : Cond.code ⟨"DemoTape$ByteRow", "size", "()I"⟩ prog_2_method_2_code 1 (some .int) ∈ wa := List.mem_filter.mpr ⟨List.mem_of_getElem? (i := 228) (by decide +kernel), by decide +kernel⟩
set_option maxRecDepth 20000 in
theorem mw229 : Cond.methodLink "DemoTape$Walk" 76 ⟨"DemoTape$ByteRow", "checkOfFirst", "(I)I"⟩ ∈ wa := List.mem_filter.mpr ⟨List.mem_of_getElem? (i := 229) (by decide +kernel), by decide +kernel⟩
set_option maxRecDepth 20000 in
theorem mw230 : Cond.instanceMethod ⟨"DemoTape$ByteRow", "checkOfFirst", "(I)I"⟩ ∈ wa := List.mem_filter.mpr ⟨List.mem_of_getElem? (i := 230) (by decide +kernel), by decide +kernel⟩
set_option maxRecDepth 20000 in
theorem mw231 : Cond.selects "DemoTape$ByteRow" ⟨"DemoTape$ByteRow", "checkOfFirst", "(I)I"⟩ ⟨"DemoTape$ByteRow", "checkOfFirst", "(I)I"⟩ ∈ wa := List.mem_filter.mpr ⟨List.mem_of_getElem? (i := 231) (by decide +kernel), by decide +kernel⟩
set_option maxRecDepth 20000 in
theorem mw232 : Cond.code ⟨"DemoTape$ByteRow", "checkOfFirst", "(I)I"⟩ prog_2_method_9_code 5 (some .int) ∈ wa := List.mem_filter.mpr ⟨List.mem_of_getElem? (i := 232) (by decide +kernel), by decide +kernel⟩
set_option maxRecDepth 20000 in
theorem mw233 : Cond.methodLink "DemoTape$ByteRow" 34 ⟨"DemoTape$ByteRow", "get", "(I)I"⟩ ∈ wa := List.mem_filter.mpr ⟨List.mem_of_getElem? (i := 233) (by decide +kernel), by decide +kernel⟩
set_option maxRecDepth 20000 in
theorem mw234 : Cond.instanceMethod ⟨"DemoTape$ByteRow", "get", "(I)I"⟩ ∈ wa := List.mem_filter.mpr ⟨List.mem_of_getElem? (i := 234) (by decide +kernel), by decide +kernel⟩
set_option maxRecDepth 20000 in
theorem mw235 : Cond.selects "DemoTape$ByteRow" ⟨"DemoTape$ByteRow", "get", "(I)I"⟩ ⟨"DemoTape$ByteRow", "get", "(I)I"⟩ ∈ wa := List.mem_filter.mpr ⟨List.mem_of_getElem? (i := 235) (by decide +kernel), by decide +kernel⟩
set_option maxRecDepth 20000 in
theorem mw236 : Cond.code ⟨"DemoTape$ByteRow", "get", "(I)I"⟩ prog_2_method_4_code 2 (some .int) ∈ wa := List.mem_filter.mpr ⟨List.mem_of_getElem? (i := 236) (by decide +kernel), by decide +kernel⟩
set_option maxRecDepth 20000 in
theorem mw237 : Cond.constant "DemoTape$ByteRow" 38 (65521) ∈ wa := List.mem_filter.mpr ⟨List.mem_of_getElem? (i := 237) (by decide +kernel), by decide +kernel⟩
set_option maxRecDepth 20000 in
theorem mw238 : Cond.methodLink "DemoTape" 77 ⟨"DemoTape$ByteRow", "size", "()I"⟩ ∈ wa := List.mem_filter.mpr ⟨List.mem_of_getElem? (i := 238) (by decide +kernel), by decide +kernel⟩
set_option maxRecDepth 20000 in
theorem mw243 : Cond.methodLink "DemoTape" 80 ⟨"DemoTape$ByteRow", "room", "()I"⟩ ∈ wa := List.mem_filter.mpr ⟨List.mem_of_getElem? (i := 243) (by decide +kernel), by decide +kernel⟩
set_option maxRecDepth 20000 in
theorem mw244 : Cond.instanceMethod ⟨"DemoTape$ByteRow", "room", "()I"⟩ ∈ wa := List.mem_filter.mpr ⟨List.mem_of_getElem? (i := 244) (by decide +kernel), by decide +kernel⟩
set_option maxRecDepth 20000 in
theorem mw245 : Cond.selects "DemoTape$ByteRow" ⟨"DemoTape$ByteRow", "room", "()I"⟩ ⟨"DemoTape$ByteRow", "room", "()I"⟩ ∈ wa := List.mem_filter.mpr ⟨List.mem_of_getElem? (i := 245) (by decide +kernel), by decide +kernel⟩
set_option maxRecDepth 20000 in
theorem mw246 : Cond.code ⟨"DemoTape$ByteRow", "room", "()I"⟩ prog_2_method_3_code 1 (some .int) ∈ wa := List.mem_filter.mpr ⟨List.mem_of_getElem? (i := 246) (by decide +kernel), by decide +kernel⟩
set_option maxRecDepth 20000 in
theorem mw247 : Cond.methodLink "DemoTape" 81 ⟨"DemoTape$ByteRow", "addLowest", "(JI)V"⟩ ∈ wa := List.mem_filter.mpr ⟨List.mem_of_getElem? (i := 247) (by decide +kernel), by decide +kernel⟩
set_option maxRecDepth 20000 in
theorem mw252 : Cond.methodLink "DemoTape" 85 ⟨"DemoTape$ByteRow", "become", "(LDemoTape$ByteRow;)V"⟩ ∈ wa := List.mem_filter.mpr ⟨List.mem_of_getElem? (i := 252) (by decide +kernel), by decide +kernel⟩
set_option maxRecDepth 20000 in
theorem mw253 : Cond.instanceMethod ⟨"DemoTape$ByteRow", "become", "(LDemoTape$ByteRow;)V"⟩ ∈ wa := List.mem_filter.mpr ⟨List.mem_of_getElem? (i := 253) (by decide +kernel), by decide +kernel⟩
set_option maxRecDepth 20000 in
theorem mw254 : Cond.selects "DemoTape$ByteRow" ⟨"DemoTape$ByteRow", "become", "(LDemoTape$ByteRow;)V"⟩ ⟨"DemoTape$ByteRow", "become", "(LDemoTape$ByteRow;)V"⟩ ∈ wa := List.mem_filter.mpr ⟨List.mem_of_getElem? (i := 254) (by decide +kernel), by decide +kernel⟩
set_option maxRecDepth 20000 in
theorem mw255 : Cond.code ⟨"DemoTape$ByteRow", "become", "(LDemoTape$ByteRow;)V"⟩ prog_2_method_8_code 2 none ∈ wa := List.mem_filter.mpr ⟨List.mem_of_getElem? (i := 255) (by decide +kernel), by decide +kernel⟩
set_option maxRecDepth 20000 in
theorem mw256 : Cond.methodLink "DemoTape$ByteRow" 28 ⟨"java/lang/System", "arraycopy", "(Ljava/lang/Object;ILjava/lang/Object;II)V"⟩ ∈ wa := List.mem_filter.mpr ⟨List.mem_of_getElem? (i := 256) (by decide +kernel), by decide +kernel⟩
set_option maxRecDepth 20000 in
theorem mw257 : Cond.static ⟨"java/lang/System", "arraycopy", "(Ljava/lang/Object;ILjava/lang/Object;II)V"⟩ ∈ wa := List.mem_filter.mpr ⟨List.mem_of_getElem? (i := 257) (by decide +kernel), by decide +kernel⟩
set_option maxRecDepth 20000 in
theorem mw258 : Cond.native ⟨"java/lang/System", "arraycopy", "(Ljava/lang/Object;ILjava/lang/Object;II)V"⟩ ∈ wa := List.mem_filter.mpr ⟨List.mem_of_getElem? (i := 258) (by decide +kernel), by decide +kernel⟩
set_option maxRecDepth 20000 in
theorem mw267 : Cond.methodLink "DemoTape" 88 ⟨"DemoTape$ByteRow", "set", "(II)V"⟩ ∈ wa := List.mem_filter.mpr ⟨List.mem_of_getElem? (i := 267) (by decide +kernel), by decide +kernel⟩
set_option maxRecDepth 20000 in
theorem mw268 : Cond.instanceMethod ⟨"DemoTape$ByteRow", "set", "(II)V"⟩ ∈ wa := List.mem_filter.mpr ⟨List.mem_of_getElem? (i := 268) (by decide +kernel), by decide +kernel⟩
set_option maxRecDepth 20000 in
theorem mw269 : Cond.selects "DemoTape$ByteRow" ⟨"DemoTape$ByteRow", "set", "(II)V"⟩ ⟨"DemoTape$ByteRow", "set", "(II)V"⟩ ∈ wa := List.mem_filter.mpr ⟨List.mem_of_getElem? (i := 269) (by decide +kernel), by decide +kernel⟩
set_option maxRecDepth 20000 in
theorem mw270 : Cond.code ⟨"DemoTape$ByteRow", "set", "(II)V"⟩ prog_2_method_5_code 3 none ∈ wa := List.mem_filter.mpr ⟨List.mem_of_getElem? (i := 270) (by decide +kernel), by decide +kernel⟩
set_option maxRecDepth 20000 in
theorem mw275 : Cond.methodLink "DemoTape" 91 ⟨"DemoTape$Reader", "readInto", "(LDemoTape$Walk;)V"⟩ ∈ wa := List.mem_filter.mpr ⟨List.mem_of_getElem? (i := 275) (by decide +kernel), by decide +kernel⟩
set_option maxRecDepth 20000 in
theorem mw276 : Cond.instanceMethod ⟨"DemoTape$Reader", "readInto", "(LDemoTape$Walk;)V"⟩ ∈ wa := List.mem_filter.mpr ⟨List.mem_of_getElem? (i := 276) (by decide +kernel), by decide +kernel⟩
set_option maxRecDepth 20000 in
theorem mw277 : Cond.selects "DemoTape$Reader" ⟨"DemoTape$Reader", "readInto", "(LDemoTape$Walk;)V"⟩ ⟨"DemoTape$Reader", "readInto", "(LDemoTape$Walk;)V"⟩ ∈ wa := List.mem_filter.mpr ⟨List.mem_of_getElem? (i := 277) (by decide +kernel), by decide +kernel⟩
set_option maxRecDepth 20000 in
theorem mw278 : Cond.code ⟨"DemoTape$Reader", "readInto", "(LDemoTape$Walk;)V"⟩ prog_4_method_4_code 2 none ∈ wa := List.mem_filter.mpr ⟨List.mem_of_getElem? (i := 278) (by decide +kernel), by decide +kernel⟩
set_option maxRecDepth 20000 in
theorem mw279 : Cond.methodLink "DemoTape$Reader" 28 ⟨"DemoTape$Walk", "clear", "()V"⟩ ∈ wa := List.mem_filter.mpr ⟨List.mem_of_getElem? (i := 279) (by decide +kernel), by decide +kernel⟩
set_option maxRecDepth 20000 in
theorem mw280 : Cond.instanceMethod ⟨"DemoTape$Walk", "clear", "()V"⟩ ∈ wa := List.mem_filter.mpr ⟨List.mem_of_getElem? (i := 280) (by decide +kernel), by decide +kernel⟩
set_option maxRecDepth 20000 in
theorem mw281 : Cond.selects "DemoTape$Walk" ⟨"DemoTape$Walk", "clear", "()V"⟩ ⟨"DemoTape$Walk", "clear", "()V"⟩ ∈ wa := List.mem_filter.mpr ⟨List.mem_of_getElem? (i := 281) (by decide +kernel), by decide +kernel⟩
set_option maxRecDepth 20000 in
theorem mw282 : Cond.code ⟨"DemoTape$Walk", "clear", "()V"⟩ prog_5_method_10_code 1 none ∈ wa := List.mem_filter.mpr ⟨List.mem_of_getElem? (i := 282) (by decide +kernel), by decide +kernel⟩
set_option maxRecDepth 20000 in
theorem mw283 : Cond.methodLink "DemoTape$Reader" 33 ⟨"DemoTape$Reader", "takeMark", "()V"⟩ ∈ wa := List.mem_filter.mpr ⟨List.mem_of_getElem? (i := 283) (by decide +kernel), by decide +kernel⟩
set_option maxRecDepth 20000 in
theorem mw285 : Cond.instanceMethod ⟨"DemoTape$Reader", "takeMark", "()V"⟩ ∈ wa := List.mem_filter.mpr ⟨List.mem_of_getElem? (i := 285) (by decide +kernel), by decide +kernel⟩
set_option maxRecDepth 20000 in
theorem mw286 : Cond.code ⟨"DemoTape$Reader", "takeMark", "()V"⟩ prog_4_method_8_code 2 none ∈ wa := List.mem_filter.mpr ⟨List.mem_of_getElem? (i := 286) (by decide +kernel), by decide +kernel⟩
set_option maxRecDepth 20000 in
theorem mw288 : Cond.methodLink "DemoTape$Reader" 67 ⟨"DemoTape$Reader", "takeOnly", "(II)V"⟩ ∈ wa := List.mem_filter.mpr ⟨List.mem_of_getElem? (i := 288) (by decide +kernel), by decide +kernel⟩
set_option maxRecDepth 20000 in
theorem mw290 : Cond.instanceMethod ⟨"DemoTape$Reader", "takeOnly", "(II)V"⟩ ∈ wa := List.mem_filter.mpr ⟨List.mem_of_getElem? (i := 290) (by decide +kernel), by decide +kernel⟩
set_option maxRecDepth 20000 in
theorem mw291 : Cond.code ⟨"DemoTape$Reader", "takeOnly", "(II)V"⟩ prog_4_method_7_code 4 none ∈ wa := List.mem_filter.mpr ⟨List.mem_of_getElem? (i := 291) (by decide +kernel), by decide +kernel⟩
set_option maxRecDepth 20000 in
theorem mw292 : Cond.methodLink "DemoTape$Reader" 60 ⟨"DemoTape$Reader", "take", "(I)I"⟩ ∈ wa := List.mem_filter.mpr ⟨List.mem_of_getElem? (i := 292) (by decide +kernel), by decide +kernel⟩
set_option maxRecDepth 20000 in
theorem mw294 : Cond.instanceMethod ⟨"DemoTape$Reader", "take", "(I)I"⟩ ∈ wa := List.mem_filter.mpr ⟨List.mem_of_getElem? (i := 294) (by decide +kernel), by decide +kernel⟩
set_option maxRecDepth 20000 in
theorem mw295 : Cond.code ⟨"DemoTape$Reader", "take", "(I)I"⟩ prog_4_method_6_code 3 (some .int) ∈ wa := List.mem_filter.mpr ⟨List.mem_of_getElem? (i := 295) (by decide +kernel), by decide +kernel⟩
set_option maxRecDepth 20000 in
theorem mw296 : Cond.methodLink "DemoTape$Reader" 56 ⟨"DemoTape$ByteRow", "get", "(I)I"⟩ ∈ wa := List.mem_filter.mpr ⟨List.mem_of_getElem? (i := 296) (by decide +kernel), by decide +kernel⟩
set_option maxRecDepth 20000 in
theorem mw297 : Cond.methodLink "DemoTape$Reader" 52 ⟨"DemoTape$Reader", "fail", "(II)V"⟩ ∈ wa := List.mem_filter.mpr ⟨List.mem_of_getElem? (i := 297) (by decide +kernel), by decide +kernel⟩
set_option maxRecDepth 20000 in
theorem mw299 : Cond.instanceMethod ⟨"DemoTape$Reader", "fail", "(II)V"⟩ ∈ wa := List.mem_filter.mpr ⟨List.mem_of_getElem? (i := 299) (by decide +kernel), by decide +kernel⟩
set_option maxRecDepth 20000 in
theorem mw300 : Cond.code ⟨"DemoTape$Reader", "fail", "(II)V"⟩ prog_4_method_5_code 3 none ∈ wa := List.mem_filter.mpr ⟨List.mem_of_getElem? (i := 300) (by decide +kernel), by decide +kernel⟩
set_option maxRecDepth 20000 in
theorem mw301 : Cond.methodLink "DemoTape$Reader" 36 ⟨"DemoTape$Reader", "takeStart", "(LDemoTape$Walk;)V"⟩ ∈ wa := List.mem_filter.mpr ⟨List.mem_of_getElem? (i := 301) (by decide +kernel), by decide +kernel⟩
set_option maxRecDepth 20000 in
theorem mw303 : Cond.instanceMethod ⟨"DemoTape$Reader", "takeStart", "(LDemoTape$Walk;)V"⟩ ∈ wa := List.mem_filter.mpr ⟨List.mem_of_getElem? (i := 303) (by decide +kernel), by decide +kernel⟩
set_option maxRecDepth 20000 in
theorem mw304 : Cond.code ⟨"DemoTape$Reader", "takeStart", "(LDemoTape$Walk;)V"⟩ prog_4_method_9_code 6 none ∈ wa := List.mem_filter.mpr ⟨List.mem_of_getElem? (i := 304) (by decide +kernel), by decide +kernel⟩
set_option maxRecDepth 20000 in
theorem mw305 : Cond.methodLink "DemoTape$Reader" 70 ⟨"DemoTape$Reader", "takePlace", "()I"⟩ ∈ wa := List.mem_filter.mpr ⟨List.mem_of_getElem? (i := 305) (by decide +kernel), by decide +kernel⟩
set_option maxRecDepth 20000 in
theorem mw307 : Cond.instanceMethod ⟨"DemoTape$Reader", "takePlace", "()I"⟩ ∈ wa := List.mem_filter.mpr ⟨List.mem_of_getElem? (i := 307) (by decide +kernel), by decide +kernel⟩
set_option maxRecDepth 20000 in
theorem mw308 : Cond.code ⟨"DemoTape$Reader", "takePlace", "()I"⟩ prog_4_method_10_code 4 (some .int) ∈ wa := List.mem_filter.mpr ⟨List.mem_of_getElem? (i := 308) (by decide +kernel), by decide +kernel⟩
set_option maxRecDepth 20000 in
theorem mw309 : Cond.constant "DemoTape$Reader" 77 (65536) ∈ wa := List.mem_filter.mpr ⟨List.mem_of_getElem? (i := 309) (by decide +kernel), by decide +kernel⟩
set_option maxRecDepth 20000 in
theorem mw310 : Cond.methodLink "DemoTape$Reader" 73 ⟨"DemoTape$Walk", "setStart", "(IIII)V"⟩ ∈ wa := List.mem_filter.mpr ⟨List.mem_of_getElem? (i := 310) (by decide +kernel), by decide +kernel⟩
set_option maxRecDepth 20000 in
theorem mw311 : Cond.methodLink "DemoTape$Reader" 40 ⟨"DemoTape$Reader", "takeGroups", "(LDemoTape$Walk;)V"⟩ ∈ wa := List.mem_filter.mpr ⟨List.mem_of_getElem? (i := 311) (by decide +kernel), by decide +kernel⟩
set_option maxRecDepth 20000 in
theorem mw313 : Cond.instanceMethod ⟨"DemoTape$Reader", "takeGroups", "(LDemoTape$Walk;)V"⟩ ∈ wa := List.mem_filter.mpr ⟨List.mem_of_getElem? (i := 313) (by decide +kernel), by decide +kernel⟩
set_option maxRecDepth 20000 in
theorem mw314 : Cond.code ⟨"DemoTape$Reader", "takeGroups", "(LDemoTape$Walk;)V"⟩ prog_4_method_11_code 4 none ∈ wa := List.mem_filter.mpr ⟨List.mem_of_getElem? (i := 314) (by decide +kernel), by decide +kernel⟩
set_option maxRecDepth 20000 in
theorem mw315 : Cond.methodLink "DemoTape$Reader" 78 ⟨"DemoTape$Reader", "takeGroup", "(LDemoTape$Walk;)Z"⟩ ∈ wa := List.mem_filter.mpr ⟨List.mem_of_getElem? (i := 315) (by decide +kernel), by decide +kernel⟩
set_option maxRecDepth 20000 in
theorem mw317 : Cond.instanceMethod ⟨"DemoTape$Reader", "takeGroup", "(LDemoTape$Walk;)Z"⟩ ∈ wa := List.mem_filter.mpr ⟨List.mem_of_getElem? (i := 317) (by decide +kernel), by decide +kernel⟩
set_option maxRecDepth 20000 in
theorem mw318 : Cond.code ⟨"DemoTape$Reader", "takeGroup", "(LDemoTape$Walk;)Z"⟩ prog_4_method_12_code 6 (some .boolean) ∈ wa := List.mem_filter.mpr ⟨List.mem_of_getElem? (i := 318) (by decide +kernel), by decide +kernel⟩
set_option maxRecDepth 20000 in
theorem mw319 : Cond.methodLink "DemoTape$Reader" 82 ⟨"DemoTape$Walk", "room", "()I"⟩ ∈ wa := List.mem_filter.mpr ⟨List.mem_of_getElem? (i := 319) (by decide +kernel), by decide +kernel⟩
set_option maxRecDepth 20000 in
theorem mw320 : Cond.methodLink "DemoTape$Reader" 85 ⟨"DemoTape$Reader", "takeCode", "(I)I"⟩ ∈ wa := List.mem_filter.mpr ⟨List.mem_of_getElem? (i := 320) (by decide +kernel), by decide +kernel⟩
set_option maxRecDepth 20000 in
theorem mw322 : Cond.instanceMethod ⟨"DemoTape$Reader", "takeCode", "(I)I"⟩ ∈ wa := List.mem_filter.mpr ⟨List.mem_of_getElem? (i := 322) (by decide +kernel), by decide +kernel⟩
set_option maxRecDepth 20000 in
theorem mw323 : Cond.code ⟨"DemoTape$Reader", "takeCode", "(I)I"⟩ prog_4_method_13_code 7 (some .int) ∈ wa := List.mem_filter.mpr ⟨List.mem_of_getElem? (i := 323) (by decide +kernel), by decide +kernel⟩
set_option maxRecDepth 20000 in
theorem mw324 : Cond.methodLink "DemoTape$Reader" 97 ⟨"DemoTape$Code", "of", "(ZIII)I"⟩ ∈ wa := List.mem_filter.mpr ⟨List.mem_of_getElem? (i := 324) (by decide +kernel), by decide +kernel⟩
set_option maxRecDepth 20000 in
theorem mw325 : Cond.methodLink "DemoTape$Reader" 88 ⟨"DemoTape$Walk", "count", "()I"⟩ ∈ wa := List.mem_filter.mpr ⟨List.mem_of_getElem? (i := 325) (by decide +kernel), by decide +kernel⟩
set_option maxRecDepth 20000 in
theorem mw326 : Cond.methodLink "DemoTape$Reader" 91 ⟨"DemoTape$Walk", "codeAt", "(I)I"⟩ ∈ wa := List.mem_filter.mpr ⟨List.mem_of_getElem? (i := 326) (by decide +kernel), by decide +kernel⟩
set_option maxRecDepth 20000 in
theorem mw327 : Cond.methodLink "DemoTape$Reader" 94 ⟨"DemoTape$Walk", "append", "(II)V"⟩ ∈ wa := List.mem_filter.mpr ⟨List.mem_of_getElem? (i := 327) (by decide +kernel), by decide +kernel⟩
set_option maxRecDepth 20000 in
theorem mw328 : Cond.methodLink "DemoTape$Reader" 43 ⟨"DemoTape$Reader", "takeCheck", "()V"⟩ ∈ wa := List.mem_filter.mpr ⟨List.mem_of_getElem? (i := 328) (by decide +kernel), by decide +kernel⟩
set_option maxRecDepth 20000 in
theorem mw330 : Cond.instanceMethod ⟨"DemoTape$Reader", "takeCheck", "()V"⟩ ∈ wa := List.mem_filter.mpr ⟨List.mem_of_getElem? (i := 330) (by decide +kernel), by decide +kernel⟩
set_option maxRecDepth 20000 in
theorem mw331 : Cond.code ⟨"DemoTape$Reader", "takeCheck", "()V"⟩ prog_4_method_14_code 3 none ∈ wa := List.mem_filter.mpr ⟨List.mem_of_getElem? (i := 331) (by decide +kernel), by decide +kernel⟩
set_option maxRecDepth 20000 in
theorem mw332 : Cond.methodLink "DemoTape$Reader" 103 ⟨"DemoTape$ByteRow", "checkOfFirst", "(I)I"⟩ ∈ wa := List.mem_filter.mpr ⟨List.mem_of_getElem? (i := 332) (by decide +kernel), by decide +kernel⟩
set_option maxRecDepth 20000 in
theorem mw333 : Cond.methodLink "DemoTape$Reader" 46 ⟨"DemoTape$ByteRow", "size", "()I"⟩ ∈ wa := List.mem_filter.mpr ⟨List.mem_of_getElem? (i := 333) (by decide +kernel), by decide +kernel⟩
set_option maxRecDepth 20000 in
theorem mw334 : Cond.methodLink "DemoTape" 95 ⟨"DemoTape$Reader", "fault", "()I"⟩ ∈ wa := List.mem_filter.mpr ⟨List.mem_of_getElem? (i := 334) (by decide +kernel), by decide +kernel⟩
set_option maxRecDepth 20000 in
theorem mw335 : Cond.instanceMethod ⟨"DemoTape$Reader", "fault", "()I"⟩ ∈ wa := List.mem_filter.mpr ⟨List.mem_of_getElem? (i := 335) (by decide +kernel), by decide +kernel⟩
set_option maxRecDepth 20000 in
theorem mw336 : Cond.selects "DemoTape$Reader" ⟨"DemoTape$Reader", "fault", "()I"⟩ ⟨"DemoTape$Reader", "fault", "()I"⟩ ∈ wa := List.mem_filter.mpr ⟨List.mem_of_getElem? (i := 336) (by decide +kernel), by decide +kernel⟩
set_option maxRecDepth 20000 in
theorem mw337 : Cond.code ⟨"DemoTape$Reader", "fault", "()I"⟩ prog_4_method_2_code 1 (some .int) ∈ wa := List.mem_filter.mpr ⟨List.mem_of_getElem? (i := 337) (by decide +kernel), by decide +kernel⟩
set_option maxRecDepth 20000 in
theorem mw342 : Cond.methodLink "DemoTape" 98 ⟨"DemoTape$Walk", "codeAt", "(I)I"⟩ ∈ wa := List.mem_filter.mpr ⟨List.mem_of_getElem? (i := 342) (by decide +kernel), by decide +kernel⟩
set_option maxRecDepth 20000 in
theorem mw343 : Cond.constant "DemoTape" 102 (100000) ∈ wa := List.mem_filter.mpr ⟨List.mem_of_getElem? (i := 343) (by decide +kernel), by decide +kernel⟩
set_option maxRecDepth 20000 in
theorem mw344 : Cond.methodLink "DemoTape" 103 ⟨"DemoTape$Code", "aheadByte", "(I)I"⟩ ∈ wa := List.mem_filter.mpr ⟨List.mem_of_getElem? (i := 344) (by decide +kernel), by decide +kernel⟩
set_option maxRecDepth 20000 in
theorem mw345 : Cond.methodLink "DemoTape" 106 ⟨"DemoTape$Code", "asideByte", "(I)I"⟩ ∈ wa := List.mem_filter.mpr ⟨List.mem_of_getElem? (i := 345) (by decide +kernel), by decide +kernel⟩
set_option maxRecDepth 20000 in
theorem mw346 : Cond.methodLink "DemoTape" 109 ⟨"DemoTape$Code", "turnByte", "(I)I"⟩ ∈ wa := List.mem_filter.mpr ⟨List.mem_of_getElem? (i := 346) (by decide +kernel), by decide +kernel⟩
set_option maxRecDepth 20000 in
theorem mw347 : Cond.methodLink "DemoTape" 112 ⟨"DemoTape$Code", "uses", "(I)Z"⟩ ∈ wa := List.mem_filter.mpr ⟨List.mem_of_getElem? (i := 347) (by decide +kernel), by decide +kernel⟩
set_option maxRecDepth 20000 in
theorem mw352 : Cond.methodLink "DemoTape" 116 ⟨"DemoTape$Walk", "startPart", "(I)I"⟩ ∈ wa := List.mem_filter.mpr ⟨List.mem_of_getElem? (i := 352) (by decide +kernel), by decide +kernel⟩
set_option maxRecDepth 20000 in
theorem mw353 : Cond.instanceMethod ⟨"DemoTape$Walk", "startPart", "(I)I"⟩ ∈ wa := List.mem_filter.mpr ⟨List.mem_of_getElem? (i := 353) (by decide +kernel), by decide +kernel⟩
set_option maxRecDepth 20000 in
theorem mw354 : Cond.selects "DemoTape$Walk" ⟨"DemoTape$Walk", "startPart", "(I)I"⟩ ⟨"DemoTape$Walk", "startPart", "(I)I"⟩ ∈ wa := List.mem_filter.mpr ⟨List.mem_of_getElem? (i := 354) (by decide +kernel), by decide +kernel⟩
set_option maxRecDepth 20000 in
theorem mw355 : Cond.code ⟨"DemoTape$Walk", "startPart", "(I)I"⟩ prog_5_method_6_code 2 (some .int) ∈ wa := List.mem_filter.mpr ⟨List.mem_of_getElem? (i := 355) (by decide +kernel), by decide +kernel⟩
set_option maxRecDepth 20000 in
theorem mw356 : Cond.constant "DemoTape$Walk" 31 (100000) ∈ wa := List.mem_filter.mpr ⟨List.mem_of_getElem? (i := 356) (by decide +kernel), by decide +kernel⟩
set_option maxRecDepth 20000 in
theorem mw361 : Cond.methodLink "DemoTape" 119 ⟨"DemoTape$ByteRow", "get", "(I)I"⟩ ∈ wa := List.mem_filter.mpr ⟨List.mem_of_getElem? (i := 361) (by decide +kernel), by decide +kernel⟩
set_option maxRecDepth 20000 in
theorem mw366 : Cond.methodLink "DemoTape" 122 ⟨"DemoTape$Walk", "countGroups", "()I"⟩ ∈ wa := List.mem_filter.mpr ⟨List.mem_of_getElem? (i := 366) (by decide +kernel), by decide +kernel⟩
set_option maxRecDepth 20000 in
theorem mw367 : Cond.instanceMethod ⟨"DemoTape$Walk", "countGroups", "()I"⟩ ∈ wa := List.mem_filter.mpr ⟨List.mem_of_getElem? (i := 367) (by decide +kernel), by decide +kernel⟩
set_option maxRecDepth 20000 in
theorem mw368 : Cond.selects "DemoTape$Walk" ⟨"DemoTape$Walk", "countGroups", "()I"⟩ ⟨"DemoTape$Walk", "countGroups", "()I"⟩ ∈ wa := List.mem_filter.mpr ⟨List.mem_of_getElem? (i := 368) (by decide +kernel), by decide +kernel⟩
set_option maxRecDepth 20000 in
theorem mw369 : Cond.code ⟨"DemoTape$Walk", "countGroups", "()I"⟩ prog_5_method_12_code 4 (some .int) ∈ wa := List.mem_filter.mpr ⟨List.mem_of_getElem? (i := 369) (by decide +kernel), by decide +kernel⟩
set_option maxRecDepth 20000 in
theorem mw370 : Cond.methodLink "DemoTape" 125 ⟨"DemoTape$Reader", "faultPlace", "()I"⟩ ∈ wa := List.mem_filter.mpr ⟨List.mem_of_getElem? (i := 370) (by decide +kernel), by decide +kernel⟩
set_option maxRecDepth 20000 in
theorem mw371 : Cond.instanceMethod ⟨"DemoTape$Reader", "faultPlace", "()I"⟩ ∈ wa := List.mem_filter.mpr ⟨List.mem_of_getElem? (i := 371) (by decide +kernel), by decide +kernel⟩
set_option maxRecDepth 20000 in
theorem mw372 : Cond.selects "DemoTape$Reader" ⟨"DemoTape$Reader", "faultPlace", "()I"⟩ ⟨"DemoTape$Reader", "faultPlace", "()I"⟩ ∈ wa := List.mem_filter.mpr ⟨List.mem_of_getElem? (i := 372) (by decide +kernel), by decide +kernel⟩
set_option maxRecDepth 20000 in
theorem mw373 : Cond.code ⟨"DemoTape$Reader", "faultPlace", "()I"⟩ prog_4_method_3_code 1 (some .int) ∈ wa := List.mem_filter.mpr ⟨List.mem_of_getElem? (i := 373) (by decide +kernel), by decide +kernel⟩
set_option maxRecDepth 20000 in
theorem mw374 : Cond.methodLink "DemoTape" 128 ⟨"DemoTape$Walk", "countUses", "()I"⟩ ∈ wa := List.mem_filter.mpr ⟨List.mem_of_getElem? (i := 374) (by decide +kernel), by decide +kernel⟩
set_option maxRecDepth 20000 in
theorem mw375 : Cond.instanceMethod ⟨"DemoTape$Walk", "countUses", "()I"⟩ ∈ wa := List.mem_filter.mpr ⟨List.mem_of_getElem? (i := 375) (by decide +kernel), by decide +kernel⟩
set_option maxRecDepth 20000 in
theorem mw376 : Cond.selects "DemoTape$Walk" ⟨"DemoTape$Walk", "countUses", "()I"⟩ ⟨"DemoTape$Walk", "countUses", "()I"⟩ ∈ wa := List.mem_filter.mpr ⟨List.mem_of_getElem? (i := 376) (by decide +kernel), by decide +kernel⟩
set_option maxRecDepth 20000 in
theorem mw377 : Cond.code ⟨"DemoTape$Walk", "countUses", "()I"⟩ prog_5_method_11_code 3 (some .int) ∈ wa := List.mem_filter.mpr ⟨List.mem_of_getElem? (i := 377) (by decide +kernel), by decide +kernel⟩
set_option maxRecDepth 20000 in
abbrev nwW : Cond := .fieldLinkNest "DemoTape$Walk" 59 "DemoTape" "MARK" "[I" "DemoTape"
set_option maxRecDepth 20000 in
theorem nwW_in : nwW ∈ lw_tbl := List.mem_of_getElem? (i := 191) (by decide +kernel)
set_option maxRecDepth 20000 in
abbrev nwR : Cond := .fieldLinkNest "DemoTape$Reader" 63 "DemoTape" "MARK" "[I" "DemoTape"
set_option maxRecDepth 20000 in
theorem nwR_in : nwR ∈ lw_tbl := List.mem_of_getElem? (i := 287) (by decide +kernel)
set_option maxRecDepth 20000 in
abbrev nwI : Cond := .methodLinkNest "DemoTape" 11 ⟨"DemoTape$Walk", "<init>", "()V"⟩ "DemoTape"
set_option maxRecDepth 20000 in
theorem nwI_in : nwI ∈ lw_tbl := List.mem_of_getElem? (i := 43) (by decide +kernel)
end
section
def F_Tape : u_T := fun k => match k with
  | 0 => ("DemoTape", "walk", "LDemoTape$Walk;", false)
  | 1 => ("DemoTape", "spare", "LDemoTape$Walk;", false)
  | 2 => ("DemoTape", "outBytes", "LDemoTape$ByteRow;", true)
  | 3 => ("DemoTape", "inBytes", "LDemoTape$ByteRow;", true)
  | _ => ("DemoTape", "reader", "LDemoTape$Reader;", true)
def t_Tape : Nat → FieldType := fun k => match k with
  | 0 => (.object "DemoTape$Walk")
  | 1 => (.object "DemoTape$Walk")
  | 2 => (.object "DemoTape$ByteRow")
  | 3 => (.object "DemoTape$ByteRow")
  | _ => (.object "DemoTape$Reader")
theorem n_Tape : ∀ a, a < 5 → ∀ b, b < 5 → a ≠ b → (F_Tape a).2.1 ≠ (F_Tape b).2.1 := by decide +kernel
theorem t_Tape_ok : ∀ k, k < 5 → parseFieldDescriptor (F_Tape k).2.2.1 = some (t_Tape k) := by decide +kernel
set_option maxRecDepth 20000 in
theorem i_Tape : ∀ w ∈ u_ws "DemoTape" F_Tape 5, w ∈ wa := by decide +kernel
def F_Walk : u_T := fun k => match k with
  | 0 => ("DemoTape$Walk", "codes", "[I", true)
  | 1 => ("DemoTape$Walk", "count", "I", false)
  | 2 => ("DemoTape$Walk", "x", "I", false)
  | 3 => ("DemoTape$Walk", "y", "I", false)
  | 4 => ("DemoTape$Walk", "angle", "I", false)
  | _ => ("DemoTape$Walk", "sector", "I", false)
def t_Walk : Nat → FieldType := fun k => match k with
  | 0 => (.array .int)
  | 1 => .int
  | 2 => .int
  | 3 => .int
  | 4 => .int
  | _ => .int
theorem n_Walk : ∀ a, a < 6 → ∀ b, b < 6 → a ≠ b → (F_Walk a).2.1 ≠ (F_Walk b).2.1 := by decide +kernel
theorem t_Walk_ok : ∀ k, k < 6 → parseFieldDescriptor (F_Walk k).2.2.1 = some (t_Walk k) := by decide +kernel
set_option maxRecDepth 20000 in
theorem i_Walk : ∀ w ∈ u_ws "DemoTape$Walk" F_Walk 6, w ∈ wa := by decide +kernel
def F_Row : u_T := fun k => match k with
  | 0 => ("DemoTape$ByteRow", "bytes", "[B", true)
  | _ => ("DemoTape$ByteRow", "size", "I", false)
def t_Row : Nat → FieldType := fun k => match k with
  | 0 => (.array .byte)
  | _ => .int
theorem n_Row : ∀ a, a < 2 → ∀ b, b < 2 → a ≠ b → (F_Row a).2.1 ≠ (F_Row b).2.1 := by decide +kernel
theorem t_Row_ok : ∀ k, k < 2 → parseFieldDescriptor (F_Row k).2.2.1 = some (t_Row k) := by decide +kernel
set_option maxRecDepth 20000 in
theorem i_Row : ∀ w ∈ u_ws "DemoTape$ByteRow" F_Row 2, w ∈ wa := by decide +kernel
def F_Rd : u_T := fun k => match k with
  | 0 => ("DemoTape$Reader", "row", "LDemoTape$ByteRow;", true)
  | 1 => ("DemoTape$Reader", "next", "I", false)
  | 2 => ("DemoTape$Reader", "aheadN", "I", false)
  | 3 => ("DemoTape$Reader", "fault", "I", false)
  | _ => ("DemoTape$Reader", "faultPlace", "I", false)
def t_Rd : Nat → FieldType := fun k => match k with
  | 0 => (.object "DemoTape$ByteRow")
  | 1 => .int
  | 2 => .int
  | 3 => .int
  | _ => .int
theorem n_Rd : ∀ a, a < 5 → ∀ b, b < 5 → a ≠ b → (F_Rd a).2.1 ≠ (F_Rd b).2.1 := by decide +kernel
theorem t_Rd_ok : ∀ k, k < 5 → parseFieldDescriptor (F_Rd k).2.2.1 = some (t_Rd k) := by decide +kernel
set_option maxRecDepth 20000 in
theorem i_Rd : ∀ w ∈ u_ws "DemoTape$Reader" F_Rd 5, w ∈ wa := by decide +kernel
def F_Mo : u_T := fun k => match k with
  | 0 => ("DemoTapeModel", "thrown", "I", false)
  | 1 => ("DemoTapeModel", "start", "[I", true)
  | 2 => ("DemoTapeModel", "aheads", "[I", true)
  | 3 => ("DemoTapeModel", "asides", "[I", true)
  | 4 => ("DemoTapeModel", "turns", "[I", true)
  | 5 => ("DemoTapeModel", "uses", "[Z", true)
  | 6 => ("DemoTapeModel", "many", "I", false)
  | 7 => ("DemoTapeModel", "output", "[I", true)
  | 8 => ("DemoTapeModel", "written", "I", false)
  | 9 => ("DemoTapeModel", "input", "[I", true)
  | 10 => ("DemoTapeModel", "size", "I", false)
  | 11 => ("DemoTapeModel", "newStart", "[I", true)
  | 12 => ("DemoTapeModel", "newAheads", "[I", true)
  | 13 => ("DemoTapeModel", "newAsides", "[I", true)
  | 14 => ("DemoTapeModel", "newTurns", "[I", true)
  | 15 => ("DemoTapeModel", "newUses", "[Z", true)
  | 16 => ("DemoTapeModel", "newMany", "I", false)
  | 17 => ("DemoTapeModel", "p", "I", false)
  | 18 => ("DemoTapeModel", "fault", "I", false)
  | 19 => ("DemoTapeModel", "place", "I", false)
  | 20 => ("DemoTapeModel", "a", "I", false)
  | _ => ("DemoTapeModel", "b", "I", false)
def t_Mo : Nat → FieldType := fun k => match k with
  | 0 => .int
  | 1 => (.array .int)
  | 2 => (.array .int)
  | 3 => (.array .int)
  | 4 => (.array .int)
  | 5 => (.array .boolean)
  | 6 => .int
  | 7 => (.array .int)
  | 8 => .int
  | 9 => (.array .int)
  | 10 => .int
  | 11 => (.array .int)
  | 12 => (.array .int)
  | 13 => (.array .int)
  | 14 => (.array .int)
  | 15 => (.array .boolean)
  | 16 => .int
  | 17 => .int
  | 18 => .int
  | 19 => .int
  | 20 => .int
  | _ => .int
theorem n_Mo : ∀ a, a < 22 → ∀ b, b < 22 → a ≠ b → (F_Mo a).2.1 ≠ (F_Mo b).2.1 := by decide +kernel
theorem t_Mo_ok : ∀ k, k < 22 → parseFieldDescriptor (F_Mo k).2.2.1 = some (t_Mo k) := by decide +kernel
set_option maxRecDepth 20000 in
theorem i_Mo : ∀ w ∈ u_ws "DemoTapeModel" F_Mo 22, w ∈ wa := by decide +kernel
abbrev classes : List vw_C := [("DemoTape", F_Tape, 5), ("DemoTape$Walk", F_Walk, 6), ("DemoTape$ByteRow", F_Row, 2), ("DemoTape$Reader", F_Rd, 5), ("DemoTapeModel", F_Mo, 22)]
abbrev y_Tape_isWithin : MethodName := ⟨"DemoTape", "isWithin", "(III)Z"⟩
def w_Tape_isWithin : List Cond := .code y_Tape_isWithin prog_1_method_16_code 3 (some .boolean) :: wa
abbrev y_Code_of : MethodName := ⟨"DemoTape$Code", "of", "(ZIII)I"⟩
def w_Code_of : List Cond := .code y_Code_of prog_3_method_2_code 4 (some .int) :: wa
abbrev y_Code_uses : MethodName := ⟨"DemoTape$Code", "uses", "(I)Z"⟩
def w_Code_uses : List Cond := .code y_Code_uses prog_3_method_3_code 1 (some .boolean) :: wa
abbrev y_Code_aheadByte : MethodName := ⟨"DemoTape$Code", "aheadByte", "(I)I"⟩
def w_Code_aheadByte : List Cond := .code y_Code_aheadByte prog_3_method_4_code 1 (some .int) :: wa
abbrev y_Code_asideByte : MethodName := ⟨"DemoTape$Code", "asideByte", "(I)I"⟩
def w_Code_asideByte : List Cond := .code y_Code_asideByte prog_3_method_5_code 1 (some .int) :: wa
abbrev y_Code_turnByte : MethodName := ⟨"DemoTape$Code", "turnByte", "(I)I"⟩
def w_Code_turnByte : List Cond := .code y_Code_turnByte prog_3_method_6_code 1 (some .int) :: wa
abbrev y_Code_hasSide : MethodName := ⟨"DemoTape$Code", "hasSide", "(I)Z"⟩
def w_Code_hasSide : List Cond := .code y_Code_hasSide prog_3_method_7_code 1 (some .boolean) :: wa
abbrev y_Walk_count : MethodName := ⟨"DemoTape$Walk", "count", "()I"⟩
def w_Walk_count : List Cond := .code y_Walk_count prog_5_method_2_code 1 (some .int) :: wa
abbrev y_Walk_room : MethodName := ⟨"DemoTape$Walk", "room", "()I"⟩
def w_Walk_room : List Cond := .code y_Walk_room prog_5_method_3_code 1 (some .int) :: wa
abbrev y_Walk_codeAt : MethodName := ⟨"DemoTape$Walk", "codeAt", "(I)I"⟩
def w_Walk_codeAt : List Cond := .code y_Walk_codeAt prog_5_method_4_code 2 (some .int) :: wa
abbrev y_Walk_setStart : MethodName := ⟨"DemoTape$Walk", "setStart", "(IIII)V"⟩
def w_Walk_setStart : List Cond := .code y_Walk_setStart prog_5_method_5_code 5 none :: wa
abbrev y_Walk_startPart : MethodName := ⟨"DemoTape$Walk", "startPart", "(I)I"⟩
def w_Walk_startPart : List Cond := .code y_Walk_startPart prog_5_method_6_code 2 (some .int) :: wa
abbrev y_Walk_append : MethodName := ⟨"DemoTape$Walk", "append", "(II)V"⟩
def w_Walk_append : List Cond := .code y_Walk_append prog_5_method_7_code 5 none :: wa
abbrev y_Walk_repeat : MethodName := ⟨"DemoTape$Walk", "repeat", "(II)V"⟩
def w_Walk_repeat : List Cond := .code y_Walk_repeat prog_5_method_8_code 4 none :: wa
abbrev y_Walk_dropLast : MethodName := ⟨"DemoTape$Walk", "dropLast", "(I)V"⟩
def w_Walk_dropLast : List Cond := .code y_Walk_dropLast prog_5_method_9_code 2 none :: wa
abbrev y_Walk_clear : MethodName := ⟨"DemoTape$Walk", "clear", "()V"⟩
def w_Walk_clear : List Cond := .code y_Walk_clear prog_5_method_10_code 1 none :: wa
abbrev y_Walk_countUses : MethodName := ⟨"DemoTape$Walk", "countUses", "()I"⟩
def w_Walk_countUses : List Cond := .code y_Walk_countUses prog_5_method_11_code 3 (some .int) :: wa
abbrev y_Walk_endsGroup : MethodName := ⟨"DemoTape$Walk", "endsGroup", "(II)Z"⟩
def w_Walk_endsGroup : List Cond := .code y_Walk_endsGroup prog_5_method_13_code 3 (some .boolean) :: wa
abbrev y_Walk_countGroups : MethodName := ⟨"DemoTape$Walk", "countGroups", "()I"⟩
def w_Walk_countGroups : List Cond := .code y_Walk_countGroups prog_5_method_12_code 4 (some .int) :: wa
abbrev y_Row_size : MethodName := ⟨"DemoTape$ByteRow", "size", "()I"⟩
def w_Row_size : List Cond := .code y_Row_size prog_2_method_2_code 1 (some .int) :: wa
abbrev y_Row_room : MethodName := ⟨"DemoTape$ByteRow", "room", "()I"⟩
def w_Row_room : List Cond := .code y_Row_room prog_2_method_3_code 1 (some .int) :: wa
abbrev y_Row_get : MethodName := ⟨"DemoTape$ByteRow", "get", "(I)I"⟩
def w_Row_get : List Cond := .code y_Row_get prog_2_method_4_code 2 (some .int) :: wa
abbrev y_Row_set : MethodName := ⟨"DemoTape$ByteRow", "set", "(II)V"⟩
def w_Row_set : List Cond := .code y_Row_set prog_2_method_5_code 3 none :: wa
abbrev y_Row_addLowest : MethodName := ⟨"DemoTape$ByteRow", "addLowest", "(JI)V"⟩
def w_Row_addLowest : List Cond := .code y_Row_addLowest prog_2_method_6_code 5 none :: wa
abbrev y_Row_keepFirst : MethodName := ⟨"DemoTape$ByteRow", "keepFirst", "(I)V"⟩
def w_Row_keepFirst : List Cond := .code y_Row_keepFirst prog_2_method_7_code 2 none :: wa
abbrev y_Row_become : MethodName := ⟨"DemoTape$ByteRow", "become", "(LDemoTape$ByteRow;)V"⟩
def w_Row_become : List Cond := .code y_Row_become prog_2_method_8_code 2 none :: wa
abbrev y_Row_checkOfFirst : MethodName := ⟨"DemoTape$ByteRow", "checkOfFirst", "(I)I"⟩
def w_Row_checkOfFirst : List Cond := .code y_Row_checkOfFirst prog_2_method_9_code 5 (some .int) :: wa
abbrev y_Rd_fault : MethodName := ⟨"DemoTape$Reader", "fault", "()I"⟩
def w_Rd_fault : List Cond := .code y_Rd_fault prog_4_method_2_code 1 (some .int) :: wa
abbrev y_Rd_faultPlace : MethodName := ⟨"DemoTape$Reader", "faultPlace", "()I"⟩
def w_Rd_faultPlace : List Cond := .code y_Rd_faultPlace prog_4_method_3_code 1 (some .int) :: wa
abbrev y_Rd_fail : MethodName := ⟨"DemoTape$Reader", "fail", "(II)V"⟩
def w_Rd_fail : List Cond := .code y_Rd_fail prog_4_method_5_code 3 none :: wa
abbrev y_Rd_take : MethodName := ⟨"DemoTape$Reader", "take", "(I)I"⟩
def w_Rd_take : List Cond := .code y_Rd_take prog_4_method_6_code 3 (some .int) :: wa
abbrev y_Rd_takeOnly : MethodName := ⟨"DemoTape$Reader", "takeOnly", "(II)V"⟩
def w_Rd_takeOnly : List Cond := .code y_Rd_takeOnly prog_4_method_7_code 4 none :: wa
abbrev y_Rd_takePlace : MethodName := ⟨"DemoTape$Reader", "takePlace", "()I"⟩
def w_Rd_takePlace : List Cond := .code y_Rd_takePlace prog_4_method_10_code 4 (some .int) :: wa
abbrev y_Rd_takeStart : MethodName := ⟨"DemoTape$Reader", "takeStart", "(LDemoTape$Walk;)V"⟩
def w_Rd_takeStart : List Cond := .code y_Rd_takeStart prog_4_method_9_code 6 none :: wa
abbrev y_Rd_takeCode : MethodName := ⟨"DemoTape$Reader", "takeCode", "(I)I"⟩
def w_Rd_takeCode : List Cond := .code y_Rd_takeCode prog_4_method_13_code 7 (some .int) :: wa
abbrev y_Rd_takeMark : MethodName := ⟨"DemoTape$Reader", "takeMark", "()V"⟩
def w_Rd_takeMark : List Cond := .code y_Rd_takeMark prog_4_method_8_code 2 none :: wa
abbrev y_Rd_takeCheck : MethodName := ⟨"DemoTape$Reader", "takeCheck", "()V"⟩
def w_Rd_takeCheck : List Cond := .code y_Rd_takeCheck prog_4_method_14_code 3 none :: wa
abbrev y_Rd_takeGroup : MethodName := ⟨"DemoTape$Reader", "takeGroup", "(LDemoTape$Walk;)Z"⟩
def w_Rd_takeGroup : List Cond := .code y_Rd_takeGroup prog_4_method_12_code 6 (some .boolean) :: wa
abbrev y_Rd_takeGroups : MethodName := ⟨"DemoTape$Reader", "takeGroups", "(LDemoTape$Walk;)V"⟩
def w_Rd_takeGroups : List Cond := .code y_Rd_takeGroups prog_4_method_11_code 4 none :: wa
abbrev y_Rd_readInto : MethodName := ⟨"DemoTape$Reader", "readInto", "(LDemoTape$Walk;)V"⟩
def w_Rd_readInto : List Cond := .code y_Rd_readInto prog_4_method_4_code 2 none :: wa
abbrev y_Walk_putGroup : MethodName := ⟨"DemoTape$Walk", "putGroup", "(LDemoTape$ByteRow;II)V"⟩
def w_Walk_putGroup : List Cond := .code y_Walk_putGroup prog_5_method_16_code 4 none :: wa
abbrev y_Walk_putGroups : MethodName := ⟨"DemoTape$Walk", "putGroups", "(LDemoTape$ByteRow;)V"⟩
def w_Walk_putGroups : List Cond := .code y_Walk_putGroups prog_5_method_15_code 4 none :: wa
abbrev y_Walk_putInto : MethodName := ⟨"DemoTape$Walk", "putInto", "(LDemoTape$ByteRow;)V"⟩
def w_Walk_putInto : List Cond := .code y_Walk_putInto prog_5_method_14_code 3 none :: wa
abbrev y_Walk_init : MethodName := ⟨"DemoTape$Walk", "<init>", "()V"⟩
def w_Walk_init : List Cond := .code y_Walk_init prog_5_method_1_code 1 none :: wa
abbrev y_Row_init : MethodName := ⟨"DemoTape$ByteRow", "<init>", "(I)V"⟩
def w_Row_init : List Cond := .code y_Row_init prog_2_method_1_code 2 none :: wa
abbrev y_Rd_init : MethodName := ⟨"DemoTape$Reader", "<init>", "(LDemoTape$ByteRow;)V"⟩
def w_Rd_init : List Cond := .code y_Rd_init prog_4_method_1_code 2 none :: wa
abbrev y_Tape_start : MethodName := ⟨"DemoTape", "start", "(IIII)Z"⟩
def w_Tape_start : List Cond := .code y_Tape_start prog_1_method_2_code 5 (some .boolean) :: wa
abbrev y_Tape_record : MethodName := ⟨"DemoTape", "record", "(IIIZI)I"⟩
def w_Tape_record : List Cond := .code y_Tape_record prog_1_method_3_code 6 (some .int) :: wa
abbrev y_Tape_undo : MethodName := ⟨"DemoTape", "undo", "(I)Z"⟩
def w_Tape_undo : List Cond := .code y_Tape_undo prog_1_method_4_code 2 (some .boolean) :: wa
abbrev y_Tape_again : MethodName := ⟨"DemoTape", "again", "(II)I"⟩
def w_Tape_again : List Cond := .code y_Tape_again prog_1_method_5_code 3 (some .int) :: wa
abbrev y_Tape_write : MethodName := ⟨"DemoTape", "write", "()I"⟩
def w_Tape_write : List Cond := .code y_Tape_write prog_1_method_6_code 1 (some .int) :: wa
abbrev y_Tape_give : MethodName := ⟨"DemoTape", "give", "(JI)Z"⟩
def w_Tape_give : List Cond := .code y_Tape_give prog_1_method_7_code 4 (some .boolean) :: wa
abbrev y_Tape_turnOver : MethodName := ⟨"DemoTape", "turnOver", "()V"⟩
def w_Tape_turnOver : List Cond := .code y_Tape_turnOver prog_1_method_8_code 1 none :: wa
abbrev y_Tape_cut : MethodName := ⟨"DemoTape", "cut", "(I)Z"⟩
def w_Tape_cut : List Cond := .code y_Tape_cut prog_1_method_9_code 2 (some .boolean) :: wa
abbrev y_Tape_poke : MethodName := ⟨"DemoTape", "poke", "(II)Z"⟩
def w_Tape_poke : List Cond := .code y_Tape_poke prog_1_method_10_code 3 (some .boolean) :: wa
abbrev y_Tape_read : MethodName := ⟨"DemoTape", "read", "()I"⟩
def w_Tape_read : List Cond := .code y_Tape_read prog_1_method_11_code 2 (some .int) :: wa
abbrev y_Tape_input : MethodName := ⟨"DemoTape", "input", "(II)I"⟩
def w_Tape_input : List Cond := .code y_Tape_input prog_1_method_12_code 4 (some .int) :: wa
abbrev y_Tape_begin : MethodName := ⟨"DemoTape", "begin", "(I)I"⟩
def w_Tape_begin : List Cond := .code y_Tape_begin prog_1_method_13_code 2 (some .int) :: wa
abbrev y_Tape_byteAt : MethodName := ⟨"DemoTape", "byteAt", "(IZ)I"⟩
def w_Tape_byteAt : List Cond := .code y_Tape_byteAt prog_1_method_14_code 3 (some .int) :: wa
abbrev y_Tape_look : MethodName := ⟨"DemoTape", "look", "(I)I"⟩
def w_Tape_look : List Cond := .code y_Tape_look prog_1_method_15_code 2 (some .int) :: wa
abbrev y_Tape_init : MethodName := ⟨"DemoTape", "<init>", "()V"⟩
def w_Tape_init : List Cond := .code y_Tape_init prog_1_method_1_code 1 none :: wa
end
section
theorem d_Tape_isWithin_0 : decode prog_1_method_16_code 0 = .ok (.iload_n 0, 1) := by decide +kernel
theorem d_Tape_isWithin_1 : decode prog_1_method_16_code 1 = .ok (.iload_n 1, 1) := by decide +kernel
theorem d_Tape_isWithin_2 : decode prog_1_method_16_code 2 = .ok (.if_icmp .lt 12, 3) := by decide +kernel
theorem d_Tape_isWithin_5 : decode prog_1_method_16_code 5 = .ok (.iload_n 0, 1) := by decide +kernel
theorem d_Tape_isWithin_6 : decode prog_1_method_16_code 6 = .ok (.iload_n 2, 1) := by decide +kernel
theorem d_Tape_isWithin_7 : decode prog_1_method_16_code 7 = .ok (.if_icmp .gt 7, 3) := by decide +kernel
theorem d_Tape_isWithin_10 : decode prog_1_method_16_code 10 = .ok (.iconst 1, 1) := by decide +kernel
theorem d_Tape_isWithin_11 : decode prog_1_method_16_code 11 = .ok (.goto 4, 3) := by decide +kernel
theorem d_Tape_isWithin_14 : decode prog_1_method_16_code 14 = .ok (.iconst 0, 1) := by decide +kernel
theorem d_Tape_isWithin_15 : decode prog_1_method_16_code 15 = .ok (.ireturn, 1) := by decide +kernel
theorem d_Code_of_0 : decode prog_3_method_2_code 0 = .ok (.iload_n 0, 1) := by decide +kernel
theorem d_Code_of_1 : decode prog_3_method_2_code 1 = .ok (.ifCond .eq 8, 3) := by decide +kernel
theorem d_Code_of_4 : decode prog_3_method_2_code 4 = .ok (.ldc 11, 2) := by decide +kernel
theorem d_Code_of_6 : decode prog_3_method_2_code 6 = .ok (.goto 4, 3) := by decide +kernel
theorem d_Code_of_9 : decode prog_3_method_2_code 9 = .ok (.iconst 0, 1) := by decide +kernel
theorem d_Code_of_10 : decode prog_3_method_2_code 10 = .ok (.iload_n 1, 1) := by decide +kernel
theorem d_Code_of_11 : decode prog_3_method_2_code 11 = .ok (.bipush 16, 2) := by decide +kernel
theorem d_Code_of_13 : decode prog_3_method_2_code 13 = .ok (.ishl, 1) := by decide +kernel
theorem d_Code_of_14 : decode prog_3_method_2_code 14 = .ok (.ior, 1) := by decide +kernel
theorem d_Code_of_15 : decode prog_3_method_2_code 15 = .ok (.iload_n 2, 1) := by decide +kernel
theorem d_Code_of_16 : decode prog_3_method_2_code 16 = .ok (.bipush 8, 2) := by decide +kernel
theorem d_Code_of_18 : decode prog_3_method_2_code 18 = .ok (.ishl, 1) := by decide +kernel
theorem d_Code_of_19 : decode prog_3_method_2_code 19 = .ok (.ior, 1) := by decide +kernel
theorem d_Code_of_20 : decode prog_3_method_2_code 20 = .ok (.iload_n 3, 1) := by decide +kernel
theorem d_Code_of_21 : decode prog_3_method_2_code 21 = .ok (.ior, 1) := by decide +kernel
theorem d_Code_of_22 : decode prog_3_method_2_code 22 = .ok (.ireturn, 1) := by decide +kernel
theorem d_Code_uses_0 : decode prog_3_method_3_code 0 = .ok (.iload_n 0, 1) := by decide +kernel
theorem d_Code_uses_1 : decode prog_3_method_3_code 1 = .ok (.ldc 11, 2) := by decide +kernel
theorem d_Code_uses_3 : decode prog_3_method_3_code 3 = .ok (.iand, 1) := by decide +kernel
theorem d_Code_uses_4 : decode prog_3_method_3_code 4 = .ok (.ifCond .eq 7, 3) := by decide +kernel
theorem d_Code_uses_7 : decode prog_3_method_3_code 7 = .ok (.iconst 1, 1) := by decide +kernel
theorem d_Code_uses_8 : decode prog_3_method_3_code 8 = .ok (.goto 4, 3) := by decide +kernel
theorem d_Code_uses_11 : decode prog_3_method_3_code 11 = .ok (.iconst 0, 1) := by decide +kernel
theorem d_Code_uses_12 : decode prog_3_method_3_code 12 = .ok (.ireturn, 1) := by decide +kernel
theorem d_Code_aheadByte_0 : decode prog_3_method_4_code 0 = .ok (.iload_n 0, 1) := by decide +kernel
theorem d_Code_aheadByte_1 : decode prog_3_method_4_code 1 = .ok (.bipush 16, 2) := by decide +kernel
theorem d_Code_aheadByte_3 : decode prog_3_method_4_code 3 = .ok (.ishr, 1) := by decide +kernel
theorem d_Code_aheadByte_4 : decode prog_3_method_4_code 4 = .ok (.sipush 255, 3) := by decide +kernel
theorem d_Code_aheadByte_7 : decode prog_3_method_4_code 7 = .ok (.iand, 1) := by decide +kernel
theorem d_Code_aheadByte_8 : decode prog_3_method_4_code 8 = .ok (.ireturn, 1) := by decide +kernel
theorem d_Code_asideByte_0 : decode prog_3_method_5_code 0 = .ok (.iload_n 0, 1) := by decide +kernel
theorem d_Code_asideByte_1 : decode prog_3_method_5_code 1 = .ok (.bipush 8, 2) := by decide +kernel
theorem d_Code_asideByte_3 : decode prog_3_method_5_code 3 = .ok (.ishr, 1) := by decide +kernel
theorem d_Code_asideByte_4 : decode prog_3_method_5_code 4 = .ok (.sipush 255, 3) := by decide +kernel
theorem d_Code_asideByte_7 : decode prog_3_method_5_code 7 = .ok (.iand, 1) := by decide +kernel
theorem d_Code_asideByte_8 : decode prog_3_method_5_code 8 = .ok (.ireturn, 1) := by decide +kernel
theorem d_Code_turnByte_0 : decode prog_3_method_6_code 0 = .ok (.iload_n 0, 1) := by decide +kernel
theorem d_Code_turnByte_1 : decode prog_3_method_6_code 1 = .ok (.sipush 255, 3) := by decide +kernel
theorem d_Code_turnByte_4 : decode prog_3_method_6_code 4 = .ok (.iand, 1) := by decide +kernel
theorem d_Code_turnByte_5 : decode prog_3_method_6_code 5 = .ok (.ireturn, 1) := by decide +kernel
theorem d_Code_hasSide_0 : decode prog_3_method_7_code 0 = .ok (.iload_n 0, 1) := by decide +kernel
theorem d_Code_hasSide_1 : decode prog_3_method_7_code 1 = .ok (.invokestatic 12, 3) := by decide +kernel
theorem d_Code_hasSide_4 : decode prog_3_method_7_code 4 = .ok (.bipush 64, 2) := by decide +kernel
theorem d_Code_hasSide_6 : decode prog_3_method_7_code 6 = .ok (.if_icmp .ne 12, 3) := by decide +kernel
theorem d_Code_hasSide_9 : decode prog_3_method_7_code 9 = .ok (.iload_n 0, 1) := by decide +kernel
theorem d_Code_hasSide_10 : decode prog_3_method_7_code 10 = .ok (.invokestatic 16, 3) := by decide +kernel
theorem d_Code_hasSide_13 : decode prog_3_method_7_code 13 = .ok (.bipush 16, 2) := by decide +kernel
theorem d_Code_hasSide_15 : decode prog_3_method_7_code 15 = .ok (.if_icmp .eq 7, 3) := by decide +kernel
theorem d_Code_hasSide_18 : decode prog_3_method_7_code 18 = .ok (.iconst 1, 1) := by decide +kernel
theorem d_Code_hasSide_19 : decode prog_3_method_7_code 19 = .ok (.goto 4, 3) := by decide +kernel
theorem d_Code_hasSide_22 : decode prog_3_method_7_code 22 = .ok (.iconst 0, 1) := by decide +kernel
theorem d_Code_hasSide_23 : decode prog_3_method_7_code 23 = .ok (.ireturn, 1) := by decide +kernel
theorem d_Walk_count_0 : decode prog_5_method_2_code 0 = .ok (.aload_n 0, 1) := by decide +kernel
theorem d_Walk_count_1 : decode prog_5_method_2_code 1 = .ok (.getfield 15, 3) := by decide +kernel
theorem d_Walk_count_4 : decode prog_5_method_2_code 4 = .ok (.ireturn, 1) := by decide +kernel
theorem d_Walk_room_0 : decode prog_5_method_3_code 0 = .ok (.aload_n 0, 1) := by decide +kernel
theorem d_Walk_room_1 : decode prog_5_method_3_code 1 = .ok (.getfield 9, 3) := by decide +kernel
theorem d_Walk_room_4 : decode prog_5_method_3_code 4 = .ok (.arraylength, 1) := by decide +kernel
theorem d_Walk_room_5 : decode prog_5_method_3_code 5 = .ok (.aload_n 0, 1) := by decide +kernel
theorem d_Walk_room_6 : decode prog_5_method_3_code 6 = .ok (.getfield 15, 3) := by decide +kernel
theorem d_Walk_room_9 : decode prog_5_method_3_code 9 = .ok (.isub, 1) := by decide +kernel
theorem d_Walk_room_10 : decode prog_5_method_3_code 10 = .ok (.ireturn, 1) := by decide +kernel
theorem d_Walk_codeAt_0 : decode prog_5_method_4_code 0 = .ok (.iload_n 1, 1) := by decide +kernel
theorem d_Walk_codeAt_1 : decode prog_5_method_4_code 1 = .ok (.ifCond .lt 29, 3) := by decide +kernel
theorem d_Walk_codeAt_4 : decode prog_5_method_4_code 4 = .ok (.iload_n 1, 1) := by decide +kernel
theorem d_Walk_codeAt_5 : decode prog_5_method_4_code 5 = .ok (.aload_n 0, 1) := by decide +kernel
theorem d_Walk_codeAt_6 : decode prog_5_method_4_code 6 = .ok (.getfield 15, 3) := by decide +kernel
theorem d_Walk_codeAt_9 : decode prog_5_method_4_code 9 = .ok (.if_icmp .ge 21, 3) := by decide +kernel
theorem d_Walk_codeAt_12 : decode prog_5_method_4_code 12 = .ok (.iload_n 1, 1) := by decide +kernel
theorem d_Walk_codeAt_13 : decode prog_5_method_4_code 13 = .ok (.aload_n 0, 1) := by decide +kernel
theorem d_Walk_codeAt_14 : decode prog_5_method_4_code 14 = .ok (.getfield 9, 3) := by decide +kernel
theorem d_Walk_codeAt_17 : decode prog_5_method_4_code 17 = .ok (.arraylength, 1) := by decide +kernel
theorem d_Walk_codeAt_18 : decode prog_5_method_4_code 18 = .ok (.if_icmp .ge 12, 3) := by decide +kernel
theorem d_Walk_codeAt_21 : decode prog_5_method_4_code 21 = .ok (.aload_n 0, 1) := by decide +kernel
theorem d_Walk_codeAt_22 : decode prog_5_method_4_code 22 = .ok (.getfield 9, 3) := by decide +kernel
theorem d_Walk_codeAt_25 : decode prog_5_method_4_code 25 = .ok (.iload_n 1, 1) := by decide +kernel
theorem d_Walk_codeAt_26 : decode prog_5_method_4_code 26 = .ok (.iaload, 1) := by decide +kernel
theorem d_Walk_codeAt_27 : decode prog_5_method_4_code 27 = .ok (.goto 4, 3) := by decide +kernel
theorem d_Walk_codeAt_30 : decode prog_5_method_4_code 30 = .ok (.iconst (-1), 1) := by decide +kernel
theorem d_Walk_codeAt_31 : decode prog_5_method_4_code 31 = .ok (.ireturn, 1) := by decide +kernel
theorem d_Walk_setStart_0 : decode prog_5_method_5_code 0 = .ok (.aload_n 0, 1) := by decide +kernel
theorem d_Walk_setStart_1 : decode prog_5_method_5_code 1 = .ok (.iload_n 1, 1) := by decide +kernel
theorem d_Walk_setStart_2 : decode prog_5_method_5_code 2 = .ok (.putfield 19, 3) := by decide +kernel
theorem d_Walk_setStart_5 : decode prog_5_method_5_code 5 = .ok (.aload_n 0, 1) := by decide +kernel
theorem d_Walk_setStart_6 : decode prog_5_method_5_code 6 = .ok (.iload_n 2, 1) := by decide +kernel
theorem d_Walk_setStart_7 : decode prog_5_method_5_code 7 = .ok (.putfield 22, 3) := by decide +kernel
theorem d_Walk_setStart_10 : decode prog_5_method_5_code 10 = .ok (.aload_n 0, 1) := by decide +kernel
theorem d_Walk_setStart_11 : decode prog_5_method_5_code 11 = .ok (.iload_n 3, 1) := by decide +kernel
theorem d_Walk_setStart_12 : decode prog_5_method_5_code 12 = .ok (.putfield 25, 3) := by decide +kernel
theorem d_Walk_setStart_15 : decode prog_5_method_5_code 15 = .ok (.aload_n 0, 1) := by decide +kernel
theorem d_Walk_setStart_16 : decode prog_5_method_5_code 16 = .ok (.iload 4, 2) := by decide +kernel
theorem d_Walk_setStart_18 : decode prog_5_method_5_code 18 = .ok (.putfield 28, 3) := by decide +kernel
theorem d_Walk_setStart_21 : decode prog_5_method_5_code 21 = .ok (.return_, 1) := by decide +kernel
theorem d_Walk_startPart_0 : decode prog_5_method_6_code 0 = .ok (.iload_n 1, 1) := by decide +kernel
theorem d_Walk_startPart_1 : decode prog_5_method_6_code 1 = .ok (.tableswitch 51 0 3 #[31, 36, 41, 46], 31) := by decide +kernel
theorem d_Walk_startPart_32 : decode prog_5_method_6_code 32 = .ok (.aload_n 0, 1) := by decide +kernel
theorem d_Walk_startPart_33 : decode prog_5_method_6_code 33 = .ok (.getfield 19, 3) := by decide +kernel
theorem d_Walk_startPart_36 : decode prog_5_method_6_code 36 = .ok (.ireturn, 1) := by decide +kernel
theorem d_Walk_startPart_37 : decode prog_5_method_6_code 37 = .ok (.aload_n 0, 1) := by decide +kernel
theorem d_Walk_startPart_38 : decode prog_5_method_6_code 38 = .ok (.getfield 22, 3) := by decide +kernel
theorem d_Walk_startPart_41 : decode prog_5_method_6_code 41 = .ok (.ireturn, 1) := by decide +kernel
theorem d_Walk_startPart_42 : decode prog_5_method_6_code 42 = .ok (.aload_n 0, 1) := by decide +kernel
theorem d_Walk_startPart_43 : decode prog_5_method_6_code 43 = .ok (.getfield 25, 3) := by decide +kernel
theorem d_Walk_startPart_46 : decode prog_5_method_6_code 46 = .ok (.ireturn, 1) := by decide +kernel
theorem d_Walk_startPart_47 : decode prog_5_method_6_code 47 = .ok (.aload_n 0, 1) := by decide +kernel
theorem d_Walk_startPart_48 : decode prog_5_method_6_code 48 = .ok (.getfield 28, 3) := by decide +kernel
theorem d_Walk_startPart_51 : decode prog_5_method_6_code 51 = .ok (.ireturn, 1) := by decide +kernel
theorem d_Walk_startPart_52 : decode prog_5_method_6_code 52 = .ok (.ldc 31, 2) := by decide +kernel
theorem d_Walk_startPart_54 : decode prog_5_method_6_code 54 = .ok (.ireturn, 1) := by decide +kernel
theorem d_Walk_append_0 : decode prog_5_method_7_code 0 = .ok (.aload_n 0, 1) := by decide +kernel
theorem d_Walk_append_1 : decode prog_5_method_7_code 1 = .ok (.getfield 15, 3) := by decide +kernel
theorem d_Walk_append_4 : decode prog_5_method_7_code 4 = .ok (.iload_n 2, 1) := by decide +kernel
theorem d_Walk_append_5 : decode prog_5_method_7_code 5 = .ok (.iadd, 1) := by decide +kernel
theorem d_Walk_append_6 : decode prog_5_method_7_code 6 = .ok (.aload_n 0, 1) := by decide +kernel
theorem d_Walk_append_7 : decode prog_5_method_7_code 7 = .ok (.getfield 9, 3) := by decide +kernel
theorem d_Walk_append_10 : decode prog_5_method_7_code 10 = .ok (.arraylength, 1) := by decide +kernel
theorem d_Walk_append_11 : decode prog_5_method_7_code 11 = .ok (.invokestatic 32, 3) := by decide +kernel
theorem d_Walk_append_14 : decode prog_5_method_7_code 14 = .ok (.istore_n 3, 1) := by decide +kernel
theorem d_Walk_append_15 : decode prog_5_method_7_code 15 = .ok (.aload_n 0, 1) := by decide +kernel
theorem d_Walk_append_16 : decode prog_5_method_7_code 16 = .ok (.getfield 15, 3) := by decide +kernel
theorem d_Walk_append_19 : decode prog_5_method_7_code 19 = .ok (.istore 4, 2) := by decide +kernel
theorem d_Walk_append_21 : decode prog_5_method_7_code 21 = .ok (.iload 4, 2) := by decide +kernel
theorem d_Walk_append_23 : decode prog_5_method_7_code 23 = .ok (.iload_n 3, 1) := by decide +kernel
theorem d_Walk_append_24 : decode prog_5_method_7_code 24 = .ok (.if_icmp .ge 17, 3) := by decide +kernel
theorem d_Walk_append_27 : decode prog_5_method_7_code 27 = .ok (.aload_n 0, 1) := by decide +kernel
theorem d_Walk_append_28 : decode prog_5_method_7_code 28 = .ok (.getfield 9, 3) := by decide +kernel
theorem d_Walk_append_31 : decode prog_5_method_7_code 31 = .ok (.iload 4, 2) := by decide +kernel
theorem d_Walk_append_33 : decode prog_5_method_7_code 33 = .ok (.iload_n 1, 1) := by decide +kernel
theorem d_Walk_append_34 : decode prog_5_method_7_code 34 = .ok (.iastore, 1) := by decide +kernel
theorem d_Walk_append_35 : decode prog_5_method_7_code 35 = .ok (.iinc 4 1, 3) := by decide +kernel
theorem d_Walk_append_38 : decode prog_5_method_7_code 38 = .ok (.goto (-17), 3) := by decide +kernel
theorem d_Walk_append_41 : decode prog_5_method_7_code 41 = .ok (.aload_n 0, 1) := by decide +kernel
theorem d_Walk_append_42 : decode prog_5_method_7_code 42 = .ok (.iload_n 3, 1) := by decide +kernel
theorem d_Walk_append_43 : decode prog_5_method_7_code 43 = .ok (.putfield 15, 3) := by decide +kernel
theorem d_Walk_append_46 : decode prog_5_method_7_code 46 = .ok (.return_, 1) := by decide +kernel
theorem d_Walk_repeat_0 : decode prog_5_method_8_code 0 = .ok (.iconst 0, 1) := by decide +kernel
theorem d_Walk_repeat_1 : decode prog_5_method_8_code 1 = .ok (.istore_n 3, 1) := by decide +kernel
theorem d_Walk_repeat_2 : decode prog_5_method_8_code 2 = .ok (.iload_n 3, 1) := by decide +kernel
theorem d_Walk_repeat_3 : decode prog_5_method_8_code 3 = .ok (.iload_n 2, 1) := by decide +kernel
theorem d_Walk_repeat_4 : decode prog_5_method_8_code 4 = .ok (.if_icmp .ge 21, 3) := by decide +kernel
theorem d_Walk_repeat_7 : decode prog_5_method_8_code 7 = .ok (.aload_n 0, 1) := by decide +kernel
theorem d_Walk_repeat_8 : decode prog_5_method_8_code 8 = .ok (.aload_n 0, 1) := by decide +kernel
theorem d_Walk_repeat_9 : decode prog_5_method_8_code 9 = .ok (.iload_n 1, 1) := by decide +kernel
theorem d_Walk_repeat_10 : decode prog_5_method_8_code 10 = .ok (.iload_n 3, 1) := by decide +kernel
theorem d_Walk_repeat_11 : decode prog_5_method_8_code 11 = .ok (.iadd, 1) := by decide +kernel
theorem d_Walk_repeat_12 : decode prog_5_method_8_code 12 = .ok (.invokevirtual 38, 3) := by decide +kernel
theorem d_Walk_repeat_15 : decode prog_5_method_8_code 15 = .ok (.iconst 1, 1) := by decide +kernel
theorem d_Walk_repeat_16 : decode prog_5_method_8_code 16 = .ok (.invokevirtual 42, 3) := by decide +kernel
theorem d_Walk_repeat_19 : decode prog_5_method_8_code 19 = .ok (.iinc 3 1, 3) := by decide +kernel
theorem d_Walk_repeat_22 : decode prog_5_method_8_code 22 = .ok (.goto (-20), 3) := by decide +kernel
theorem d_Walk_repeat_25 : decode prog_5_method_8_code 25 = .ok (.return_, 1) := by decide +kernel
theorem d_Walk_dropLast_0 : decode prog_5_method_9_code 0 = .ok (.aload_n 0, 1) := by decide +kernel
theorem d_Walk_dropLast_1 : decode prog_5_method_9_code 1 = .ok (.aload_n 0, 1) := by decide +kernel
theorem d_Walk_dropLast_2 : decode prog_5_method_9_code 2 = .ok (.getfield 15, 3) := by decide +kernel
theorem d_Walk_dropLast_5 : decode prog_5_method_9_code 5 = .ok (.iload_n 1, 1) := by decide +kernel
theorem d_Walk_dropLast_6 : decode prog_5_method_9_code 6 = .ok (.isub, 1) := by decide +kernel
theorem d_Walk_dropLast_7 : decode prog_5_method_9_code 7 = .ok (.iconst 0, 1) := by decide +kernel
theorem d_Walk_dropLast_8 : decode prog_5_method_9_code 8 = .ok (.invokestatic 46, 3) := by decide +kernel
theorem d_Walk_dropLast_11 : decode prog_5_method_9_code 11 = .ok (.putfield 15, 3) := by decide +kernel
theorem d_Walk_dropLast_14 : decode prog_5_method_9_code 14 = .ok (.return_, 1) := by decide +kernel
theorem d_Walk_clear_0 : decode prog_5_method_10_code 0 = .ok (.aload_n 0, 1) := by decide +kernel
theorem d_Walk_clear_1 : decode prog_5_method_10_code 1 = .ok (.iconst 0, 1) := by decide +kernel
theorem d_Walk_clear_2 : decode prog_5_method_10_code 2 = .ok (.putfield 15, 3) := by decide +kernel
theorem d_Walk_clear_5 : decode prog_5_method_10_code 5 = .ok (.return_, 1) := by decide +kernel
theorem d_Walk_countUses_0 : decode prog_5_method_11_code 0 = .ok (.iconst 0, 1) := by decide +kernel
theorem d_Walk_countUses_1 : decode prog_5_method_11_code 1 = .ok (.istore_n 1, 1) := by decide +kernel
theorem d_Walk_countUses_2 : decode prog_5_method_11_code 2 = .ok (.iconst 0, 1) := by decide +kernel
theorem d_Walk_countUses_3 : decode prog_5_method_11_code 3 = .ok (.istore_n 2, 1) := by decide +kernel
theorem d_Walk_countUses_4 : decode prog_5_method_11_code 4 = .ok (.iload_n 2, 1) := by decide +kernel
theorem d_Walk_countUses_5 : decode prog_5_method_11_code 5 = .ok (.aload_n 0, 1) := by decide +kernel
theorem d_Walk_countUses_6 : decode prog_5_method_11_code 6 = .ok (.getfield 15, 3) := by decide +kernel
theorem d_Walk_countUses_9 : decode prog_5_method_11_code 9 = .ok (.if_icmp .ge 23, 3) := by decide +kernel
theorem d_Walk_countUses_12 : decode prog_5_method_11_code 12 = .ok (.aload_n 0, 1) := by decide +kernel
theorem d_Walk_countUses_13 : decode prog_5_method_11_code 13 = .ok (.iload_n 2, 1) := by decide +kernel
theorem d_Walk_countUses_14 : decode prog_5_method_11_code 14 = .ok (.invokevirtual 38, 3) := by decide +kernel
theorem d_Walk_countUses_17 : decode prog_5_method_11_code 17 = .ok (.invokestatic 49, 3) := by decide +kernel
theorem d_Walk_countUses_20 : decode prog_5_method_11_code 20 = .ok (.ifCond .eq 6, 3) := by decide +kernel
theorem d_Walk_countUses_23 : decode prog_5_method_11_code 23 = .ok (.iinc 1 1, 3) := by decide +kernel
theorem d_Walk_countUses_26 : decode prog_5_method_11_code 26 = .ok (.iinc 2 1, 3) := by decide +kernel
theorem d_Walk_countUses_29 : decode prog_5_method_11_code 29 = .ok (.goto (-25), 3) := by decide +kernel
theorem d_Walk_countUses_32 : decode prog_5_method_11_code 32 = .ok (.iload_n 1, 1) := by decide +kernel
theorem d_Walk_countUses_33 : decode prog_5_method_11_code 33 = .ok (.ireturn, 1) := by decide +kernel
theorem d_Walk_endsGroup_0 : decode prog_5_method_13_code 0 = .ok (.iload_n 2, 1) := by decide +kernel
theorem d_Walk_endsGroup_1 : decode prog_5_method_13_code 1 = .ok (.bipush 63, 2) := by decide +kernel
theorem d_Walk_endsGroup_3 : decode prog_5_method_13_code 3 = .ok (.if_icmp .eq 18, 3) := by decide +kernel
theorem d_Walk_endsGroup_6 : decode prog_5_method_13_code 6 = .ok (.aload_n 0, 1) := by decide +kernel
theorem d_Walk_endsGroup_7 : decode prog_5_method_13_code 7 = .ok (.iload_n 1, 1) := by decide +kernel
theorem d_Walk_endsGroup_8 : decode prog_5_method_13_code 8 = .ok (.iconst 1, 1) := by decide +kernel
theorem d_Walk_endsGroup_9 : decode prog_5_method_13_code 9 = .ok (.iadd, 1) := by decide +kernel
theorem d_Walk_endsGroup_10 : decode prog_5_method_13_code 10 = .ok (.invokevirtual 38, 3) := by decide +kernel
theorem d_Walk_endsGroup_13 : decode prog_5_method_13_code 13 = .ok (.aload_n 0, 1) := by decide +kernel
theorem d_Walk_endsGroup_14 : decode prog_5_method_13_code 14 = .ok (.iload_n 1, 1) := by decide +kernel
theorem d_Walk_endsGroup_15 : decode prog_5_method_13_code 15 = .ok (.invokevirtual 38, 3) := by decide +kernel
theorem d_Walk_endsGroup_18 : decode prog_5_method_13_code 18 = .ok (.if_icmp .eq 7, 3) := by decide +kernel
theorem d_Walk_endsGroup_21 : decode prog_5_method_13_code 21 = .ok (.iconst 1, 1) := by decide +kernel
theorem d_Walk_endsGroup_22 : decode prog_5_method_13_code 22 = .ok (.goto 4, 3) := by decide +kernel
theorem d_Walk_endsGroup_25 : decode prog_5_method_13_code 25 = .ok (.iconst 0, 1) := by decide +kernel
theorem d_Walk_endsGroup_26 : decode prog_5_method_13_code 26 = .ok (.ireturn, 1) := by decide +kernel
theorem d_Walk_countGroups_0 : decode prog_5_method_12_code 0 = .ok (.iconst 0, 1) := by decide +kernel
theorem d_Walk_countGroups_1 : decode prog_5_method_12_code 1 = .ok (.istore_n 1, 1) := by decide +kernel
theorem d_Walk_countGroups_2 : decode prog_5_method_12_code 2 = .ok (.iconst 0, 1) := by decide +kernel
theorem d_Walk_countGroups_3 : decode prog_5_method_12_code 3 = .ok (.istore_n 2, 1) := by decide +kernel
theorem d_Walk_countGroups_4 : decode prog_5_method_12_code 4 = .ok (.iconst 0, 1) := by decide +kernel
theorem d_Walk_countGroups_5 : decode prog_5_method_12_code 5 = .ok (.istore_n 3, 1) := by decide +kernel
theorem d_Walk_countGroups_6 : decode prog_5_method_12_code 6 = .ok (.iload_n 3, 1) := by decide +kernel
theorem d_Walk_countGroups_7 : decode prog_5_method_12_code 7 = .ok (.aload_n 0, 1) := by decide +kernel
theorem d_Walk_countGroups_8 : decode prog_5_method_12_code 8 = .ok (.getfield 15, 3) := by decide +kernel
theorem d_Walk_countGroups_11 : decode prog_5_method_12_code 11 = .ok (.if_icmp .ge 26, 3) := by decide +kernel
theorem d_Walk_countGroups_14 : decode prog_5_method_12_code 14 = .ok (.iinc 2 1, 3) := by decide +kernel
theorem d_Walk_countGroups_17 : decode prog_5_method_12_code 17 = .ok (.aload_n 0, 1) := by decide +kernel
theorem d_Walk_countGroups_18 : decode prog_5_method_12_code 18 = .ok (.iload_n 3, 1) := by decide +kernel
theorem d_Walk_countGroups_19 : decode prog_5_method_12_code 19 = .ok (.iload_n 2, 1) := by decide +kernel
theorem d_Walk_countGroups_20 : decode prog_5_method_12_code 20 = .ok (.invokevirtual 55, 3) := by decide +kernel
theorem d_Walk_countGroups_23 : decode prog_5_method_12_code 23 = .ok (.ifCond .eq 8, 3) := by decide +kernel
theorem d_Walk_countGroups_26 : decode prog_5_method_12_code 26 = .ok (.iinc 1 1, 3) := by decide +kernel
theorem d_Walk_countGroups_29 : decode prog_5_method_12_code 29 = .ok (.iconst 0, 1) := by decide +kernel
theorem d_Walk_countGroups_30 : decode prog_5_method_12_code 30 = .ok (.istore_n 2, 1) := by decide +kernel
theorem d_Walk_countGroups_31 : decode prog_5_method_12_code 31 = .ok (.iinc 3 1, 3) := by decide +kernel
theorem d_Walk_countGroups_34 : decode prog_5_method_12_code 34 = .ok (.goto (-28), 3) := by decide +kernel
theorem d_Walk_countGroups_37 : decode prog_5_method_12_code 37 = .ok (.iload_n 1, 1) := by decide +kernel
theorem d_Walk_countGroups_38 : decode prog_5_method_12_code 38 = .ok (.ireturn, 1) := by decide +kernel
theorem d_Row_size_0 : decode prog_2_method_2_code 0 = .ok (.aload_n 0, 1) := by decide +kernel
theorem d_Row_size_1 : decode prog_2_method_2_code 1 = .ok (.getfield 21, 3) := by decide +kernel
theorem d_Row_size_4 : decode prog_2_method_2_code 4 = .ok (.ireturn, 1) := by decide +kernel
theorem d_Row_room_0 : decode prog_2_method_3_code 0 = .ok (.aload_n 0, 1) := by decide +kernel
theorem d_Row_room_1 : decode prog_2_method_3_code 1 = .ok (.getfield 15, 3) := by decide +kernel
theorem d_Row_room_4 : decode prog_2_method_3_code 4 = .ok (.arraylength, 1) := by decide +kernel
theorem d_Row_room_5 : decode prog_2_method_3_code 5 = .ok (.aload_n 0, 1) := by decide +kernel
theorem d_Row_room_6 : decode prog_2_method_3_code 6 = .ok (.getfield 21, 3) := by decide +kernel
theorem d_Row_room_9 : decode prog_2_method_3_code 9 = .ok (.isub, 1) := by decide +kernel
theorem d_Row_room_10 : decode prog_2_method_3_code 10 = .ok (.ireturn, 1) := by decide +kernel
theorem d_Row_get_0 : decode prog_2_method_4_code 0 = .ok (.iload_n 1, 1) := by decide +kernel
theorem d_Row_get_1 : decode prog_2_method_4_code 1 = .ok (.ifCond .lt 33, 3) := by decide +kernel
theorem d_Row_get_4 : decode prog_2_method_4_code 4 = .ok (.iload_n 1, 1) := by decide +kernel
theorem d_Row_get_5 : decode prog_2_method_4_code 5 = .ok (.aload_n 0, 1) := by decide +kernel
theorem d_Row_get_6 : decode prog_2_method_4_code 6 = .ok (.getfield 21, 3) := by decide +kernel
theorem d_Row_get_9 : decode prog_2_method_4_code 9 = .ok (.if_icmp .ge 25, 3) := by decide +kernel
theorem d_Row_get_12 : decode prog_2_method_4_code 12 = .ok (.iload_n 1, 1) := by decide +kernel
theorem d_Row_get_13 : decode prog_2_method_4_code 13 = .ok (.aload_n 0, 1) := by decide +kernel
theorem d_Row_get_14 : decode prog_2_method_4_code 14 = .ok (.getfield 15, 3) := by decide +kernel
theorem d_Row_get_17 : decode prog_2_method_4_code 17 = .ok (.arraylength, 1) := by decide +kernel
theorem d_Row_get_18 : decode prog_2_method_4_code 18 = .ok (.if_icmp .ge 16, 3) := by decide +kernel
theorem d_Row_get_21 : decode prog_2_method_4_code 21 = .ok (.aload_n 0, 1) := by decide +kernel
theorem d_Row_get_22 : decode prog_2_method_4_code 22 = .ok (.getfield 15, 3) := by decide +kernel
theorem d_Row_get_25 : decode prog_2_method_4_code 25 = .ok (.iload_n 1, 1) := by decide +kernel
theorem d_Row_get_26 : decode prog_2_method_4_code 26 = .ok (.baload, 1) := by decide +kernel
theorem d_Row_get_27 : decode prog_2_method_4_code 27 = .ok (.sipush 255, 3) := by decide +kernel
theorem d_Row_get_30 : decode prog_2_method_4_code 30 = .ok (.iand, 1) := by decide +kernel
theorem d_Row_get_31 : decode prog_2_method_4_code 31 = .ok (.goto 4, 3) := by decide +kernel
theorem d_Row_get_34 : decode prog_2_method_4_code 34 = .ok (.iconst (-1), 1) := by decide +kernel
theorem d_Row_get_35 : decode prog_2_method_4_code 35 = .ok (.ireturn, 1) := by decide +kernel
theorem d_Row_set_0 : decode prog_2_method_5_code 0 = .ok (.iload_n 1, 1) := by decide +kernel
theorem d_Row_set_1 : decode prog_2_method_5_code 1 = .ok (.ifCond .lt 28, 3) := by decide +kernel
theorem d_Row_set_4 : decode prog_2_method_5_code 4 = .ok (.iload_n 1, 1) := by decide +kernel
theorem d_Row_set_5 : decode prog_2_method_5_code 5 = .ok (.aload_n 0, 1) := by decide +kernel
theorem d_Row_set_6 : decode prog_2_method_5_code 6 = .ok (.getfield 21, 3) := by decide +kernel
theorem d_Row_set_9 : decode prog_2_method_5_code 9 = .ok (.if_icmp .ge 20, 3) := by decide +kernel
theorem d_Row_set_12 : decode prog_2_method_5_code 12 = .ok (.iload_n 1, 1) := by decide +kernel
theorem d_Row_set_13 : decode prog_2_method_5_code 13 = .ok (.aload_n 0, 1) := by decide +kernel
theorem d_Row_set_14 : decode prog_2_method_5_code 14 = .ok (.getfield 15, 3) := by decide +kernel
theorem d_Row_set_17 : decode prog_2_method_5_code 17 = .ok (.arraylength, 1) := by decide +kernel
theorem d_Row_set_18 : decode prog_2_method_5_code 18 = .ok (.if_icmp .ge 11, 3) := by decide +kernel
theorem d_Row_set_21 : decode prog_2_method_5_code 21 = .ok (.aload_n 0, 1) := by decide +kernel
theorem d_Row_set_22 : decode prog_2_method_5_code 22 = .ok (.getfield 15, 3) := by decide +kernel
theorem d_Row_set_25 : decode prog_2_method_5_code 25 = .ok (.iload_n 1, 1) := by decide +kernel
theorem d_Row_set_26 : decode prog_2_method_5_code 26 = .ok (.iload_n 2, 1) := by decide +kernel
theorem d_Row_set_27 : decode prog_2_method_5_code 27 = .ok (.i2b, 1) := by decide +kernel
theorem d_Row_set_28 : decode prog_2_method_5_code 28 = .ok (.bastore, 1) := by decide +kernel
theorem d_Row_set_29 : decode prog_2_method_5_code 29 = .ok (.return_, 1) := by decide +kernel
theorem d_Row_addLowest_0 : decode prog_2_method_6_code 0 = .ok (.iload_n 3, 1) := by decide +kernel
theorem d_Row_addLowest_1 : decode prog_2_method_6_code 1 = .ok (.iconst 1, 1) := by decide +kernel
theorem d_Row_addLowest_2 : decode prog_2_method_6_code 2 = .ok (.isub, 1) := by decide +kernel
theorem d_Row_addLowest_3 : decode prog_2_method_6_code 3 = .ok (.istore 4, 2) := by decide +kernel
theorem d_Row_addLowest_5 : decode prog_2_method_6_code 5 = .ok (.iload 4, 2) := by decide +kernel
theorem d_Row_addLowest_7 : decode prog_2_method_6_code 7 = .ok (.ifCond .lt 49, 3) := by decide +kernel
theorem d_Row_addLowest_10 : decode prog_2_method_6_code 10 = .ok (.aload_n 0, 1) := by decide +kernel
theorem d_Row_addLowest_11 : decode prog_2_method_6_code 11 = .ok (.getfield 21, 3) := by decide +kernel
theorem d_Row_addLowest_14 : decode prog_2_method_6_code 14 = .ok (.aload_n 0, 1) := by decide +kernel
theorem d_Row_addLowest_15 : decode prog_2_method_6_code 15 = .ok (.getfield 15, 3) := by decide +kernel
theorem d_Row_addLowest_18 : decode prog_2_method_6_code 18 = .ok (.arraylength, 1) := by decide +kernel
theorem d_Row_addLowest_19 : decode prog_2_method_6_code 19 = .ok (.if_icmp .ge 37, 3) := by decide +kernel
theorem d_Row_addLowest_22 : decode prog_2_method_6_code 22 = .ok (.aload_n 0, 1) := by decide +kernel
theorem d_Row_addLowest_23 : decode prog_2_method_6_code 23 = .ok (.getfield 15, 3) := by decide +kernel
theorem d_Row_addLowest_26 : decode prog_2_method_6_code 26 = .ok (.aload_n 0, 1) := by decide +kernel
theorem d_Row_addLowest_27 : decode prog_2_method_6_code 27 = .ok (.getfield 21, 3) := by decide +kernel
theorem d_Row_addLowest_30 : decode prog_2_method_6_code 30 = .ok (.lload_n 1, 1) := by decide +kernel
theorem d_Row_addLowest_31 : decode prog_2_method_6_code 31 = .ok (.bipush 8, 2) := by decide +kernel
theorem d_Row_addLowest_33 : decode prog_2_method_6_code 33 = .ok (.iload 4, 2) := by decide +kernel
theorem d_Row_addLowest_35 : decode prog_2_method_6_code 35 = .ok (.imul, 1) := by decide +kernel
theorem d_Row_addLowest_36 : decode prog_2_method_6_code 36 = .ok (.lushr, 1) := by decide +kernel
theorem d_Row_addLowest_37 : decode prog_2_method_6_code 37 = .ok (.l2i, 1) := by decide +kernel
theorem d_Row_addLowest_38 : decode prog_2_method_6_code 38 = .ok (.i2b, 1) := by decide +kernel
theorem d_Row_addLowest_39 : decode prog_2_method_6_code 39 = .ok (.bastore, 1) := by decide +kernel
theorem d_Row_addLowest_40 : decode prog_2_method_6_code 40 = .ok (.aload_n 0, 1) := by decide +kernel
theorem d_Row_addLowest_41 : decode prog_2_method_6_code 41 = .ok (.dup, 1) := by decide +kernel
theorem d_Row_addLowest_42 : decode prog_2_method_6_code 42 = .ok (.getfield 21, 3) := by decide +kernel
theorem d_Row_addLowest_45 : decode prog_2_method_6_code 45 = .ok (.iconst 1, 1) := by decide +kernel
theorem d_Row_addLowest_46 : decode prog_2_method_6_code 46 = .ok (.iadd, 1) := by decide +kernel
theorem d_Row_addLowest_47 : decode prog_2_method_6_code 47 = .ok (.putfield 21, 3) := by decide +kernel
theorem d_Row_addLowest_50 : decode prog_2_method_6_code 50 = .ok (.iinc 4 (-1), 3) := by decide +kernel
theorem d_Row_addLowest_53 : decode prog_2_method_6_code 53 = .ok (.goto (-48), 3) := by decide +kernel
theorem d_Row_addLowest_56 : decode prog_2_method_6_code 56 = .ok (.return_, 1) := by decide +kernel
theorem d_Row_keepFirst_0 : decode prog_2_method_7_code 0 = .ok (.aload_n 0, 1) := by decide +kernel
theorem d_Row_keepFirst_1 : decode prog_2_method_7_code 1 = .ok (.iload_n 1, 1) := by decide +kernel
theorem d_Row_keepFirst_2 : decode prog_2_method_7_code 2 = .ok (.aload_n 0, 1) := by decide +kernel
theorem d_Row_keepFirst_3 : decode prog_2_method_7_code 3 = .ok (.getfield 21, 3) := by decide +kernel
theorem d_Row_keepFirst_6 : decode prog_2_method_7_code 6 = .ok (.invokestatic 25, 3) := by decide +kernel
theorem d_Row_keepFirst_9 : decode prog_2_method_7_code 9 = .ok (.iconst 0, 1) := by decide +kernel
theorem d_Row_keepFirst_10 : decode prog_2_method_7_code 10 = .ok (.invokestatic 9, 3) := by decide +kernel
theorem d_Row_keepFirst_13 : decode prog_2_method_7_code 13 = .ok (.putfield 21, 3) := by decide +kernel
theorem d_Row_keepFirst_16 : decode prog_2_method_7_code 16 = .ok (.return_, 1) := by decide +kernel
theorem d_Row_become_0 : decode prog_2_method_8_code 0 = .ok (.aload_n 0, 1) := by decide +kernel
theorem d_Row_become_1 : decode prog_2_method_8_code 1 = .ok (.aload_n 1, 1) := by decide +kernel
theorem d_Row_become_2 : decode prog_2_method_8_code 2 = .ok (.getfield 21, 3) := by decide +kernel
theorem d_Row_become_5 : decode prog_2_method_8_code 5 = .ok (.aload_n 0, 1) := by decide +kernel
theorem d_Row_become_6 : decode prog_2_method_8_code 6 = .ok (.getfield 15, 3) := by decide +kernel
theorem d_Row_become_9 : decode prog_2_method_8_code 9 = .ok (.arraylength, 1) := by decide +kernel
theorem d_Row_become_10 : decode prog_2_method_8_code 10 = .ok (.invokestatic 25, 3) := by decide +kernel
theorem d_Row_become_13 : decode prog_2_method_8_code 13 = .ok (.putfield 21, 3) := by decide +kernel
theorem d_Row_become_16 : decode prog_2_method_8_code 16 = .ok (.aload_n 1, 1) := by decide +kernel
theorem d_Row_become_17 : decode prog_2_method_8_code 17 = .ok (.getfield 15, 3) := by decide +kernel
theorem d_Row_become_20 : decode prog_2_method_8_code 20 = .ok (.iconst 0, 1) := by decide +kernel
theorem d_Row_become_21 : decode prog_2_method_8_code 21 = .ok (.aload_n 0, 1) := by decide +kernel
theorem d_Row_become_22 : decode prog_2_method_8_code 22 = .ok (.getfield 15, 3) := by decide +kernel
theorem d_Row_become_25 : decode prog_2_method_8_code 25 = .ok (.iconst 0, 1) := by decide +kernel
theorem d_Row_become_26 : decode prog_2_method_8_code 26 = .ok (.aload_n 0, 1) := by decide +kernel
theorem d_Row_become_27 : decode prog_2_method_8_code 27 = .ok (.getfield 21, 3) := by decide +kernel
theorem d_Row_become_30 : decode prog_2_method_8_code 30 = .ok (.invokestatic 28, 3) := by decide +kernel
theorem d_Row_become_33 : decode prog_2_method_8_code 33 = .ok (.return_, 1) := by decide +kernel
theorem d_Row_checkOfFirst_0 : decode prog_2_method_9_code 0 = .ok (.iconst 1, 1) := by decide +kernel
theorem d_Row_checkOfFirst_1 : decode prog_2_method_9_code 1 = .ok (.istore_n 2, 1) := by decide +kernel
theorem d_Row_checkOfFirst_2 : decode prog_2_method_9_code 2 = .ok (.iconst 0, 1) := by decide +kernel
theorem d_Row_checkOfFirst_3 : decode prog_2_method_9_code 3 = .ok (.istore_n 3, 1) := by decide +kernel
theorem d_Row_checkOfFirst_4 : decode prog_2_method_9_code 4 = .ok (.iconst 0, 1) := by decide +kernel
theorem d_Row_checkOfFirst_5 : decode prog_2_method_9_code 5 = .ok (.istore 4, 2) := by decide +kernel
theorem d_Row_checkOfFirst_7 : decode prog_2_method_9_code 7 = .ok (.iload 4, 2) := by decide +kernel
theorem d_Row_checkOfFirst_9 : decode prog_2_method_9_code 9 = .ok (.iload_n 1, 1) := by decide +kernel
theorem d_Row_checkOfFirst_10 : decode prog_2_method_9_code 10 = .ok (.if_icmp .ge 37, 3) := by decide +kernel
theorem d_Row_checkOfFirst_13 : decode prog_2_method_9_code 13 = .ok (.iload 4, 2) := by decide +kernel
theorem d_Row_checkOfFirst_15 : decode prog_2_method_9_code 15 = .ok (.aload_n 0, 1) := by decide +kernel
theorem d_Row_checkOfFirst_16 : decode prog_2_method_9_code 16 = .ok (.getfield 21, 3) := by decide +kernel
theorem d_Row_checkOfFirst_19 : decode prog_2_method_9_code 19 = .ok (.if_icmp .ge 28, 3) := by decide +kernel
theorem d_Row_checkOfFirst_22 : decode prog_2_method_9_code 22 = .ok (.iload_n 2, 1) := by decide +kernel
theorem d_Row_checkOfFirst_23 : decode prog_2_method_9_code 23 = .ok (.aload_n 0, 1) := by decide +kernel
theorem d_Row_checkOfFirst_24 : decode prog_2_method_9_code 24 = .ok (.iload 4, 2) := by decide +kernel
theorem d_Row_checkOfFirst_26 : decode prog_2_method_9_code 26 = .ok (.invokevirtual 34, 3) := by decide +kernel
theorem d_Row_checkOfFirst_29 : decode prog_2_method_9_code 29 = .ok (.iadd, 1) := by decide +kernel
theorem d_Row_checkOfFirst_30 : decode prog_2_method_9_code 30 = .ok (.ldc 38, 2) := by decide +kernel
theorem d_Row_checkOfFirst_32 : decode prog_2_method_9_code 32 = .ok (.irem, 1) := by decide +kernel
theorem d_Row_checkOfFirst_33 : decode prog_2_method_9_code 33 = .ok (.istore_n 2, 1) := by decide +kernel
theorem d_Row_checkOfFirst_34 : decode prog_2_method_9_code 34 = .ok (.iload_n 3, 1) := by decide +kernel
theorem d_Row_checkOfFirst_35 : decode prog_2_method_9_code 35 = .ok (.iload_n 2, 1) := by decide +kernel
theorem d_Row_checkOfFirst_36 : decode prog_2_method_9_code 36 = .ok (.iadd, 1) := by decide +kernel
theorem d_Row_checkOfFirst_37 : decode prog_2_method_9_code 37 = .ok (.ldc 38, 2) := by decide +kernel
theorem d_Row_checkOfFirst_39 : decode prog_2_method_9_code 39 = .ok (.irem, 1) := by decide +kernel
theorem d_Row_checkOfFirst_40 : decode prog_2_method_9_code 40 = .ok (.istore_n 3, 1) := by decide +kernel
theorem d_Row_checkOfFirst_41 : decode prog_2_method_9_code 41 = .ok (.iinc 4 1, 3) := by decide +kernel
theorem d_Row_checkOfFirst_44 : decode prog_2_method_9_code 44 = .ok (.goto (-37), 3) := by decide +kernel
theorem d_Row_checkOfFirst_47 : decode prog_2_method_9_code 47 = .ok (.iload_n 3, 1) := by decide +kernel
theorem d_Row_checkOfFirst_48 : decode prog_2_method_9_code 48 = .ok (.bipush 16, 2) := by decide +kernel
theorem d_Row_checkOfFirst_50 : decode prog_2_method_9_code 50 = .ok (.ishl, 1) := by decide +kernel
theorem d_Row_checkOfFirst_51 : decode prog_2_method_9_code 51 = .ok (.iload_n 2, 1) := by decide +kernel
theorem d_Row_checkOfFirst_52 : decode prog_2_method_9_code 52 = .ok (.ior, 1) := by decide +kernel
theorem d_Row_checkOfFirst_53 : decode prog_2_method_9_code 53 = .ok (.ireturn, 1) := by decide +kernel
theorem d_Rd_fault_0 : decode prog_4_method_2_code 0 = .ok (.aload_n 0, 1) := by decide +kernel
theorem d_Rd_fault_1 : decode prog_4_method_2_code 1 = .ok (.getfield 15, 3) := by decide +kernel
theorem d_Rd_fault_4 : decode prog_4_method_2_code 4 = .ok (.ireturn, 1) := by decide +kernel
theorem d_Rd_faultPlace_0 : decode prog_4_method_3_code 0 = .ok (.aload_n 0, 1) := by decide +kernel
theorem d_Rd_faultPlace_1 : decode prog_4_method_3_code 1 = .ok (.getfield 19, 3) := by decide +kernel
theorem d_Rd_faultPlace_4 : decode prog_4_method_3_code 4 = .ok (.ireturn, 1) := by decide +kernel
theorem d_Rd_fail_0 : decode prog_4_method_5_code 0 = .ok (.aload_n 0, 1) := by decide +kernel
theorem d_Rd_fail_1 : decode prog_4_method_5_code 1 = .ok (.getfield 15, 3) := by decide +kernel
theorem d_Rd_fail_4 : decode prog_4_method_5_code 4 = .ok (.ifCond .ne 13, 3) := by decide +kernel
theorem d_Rd_fail_7 : decode prog_4_method_5_code 7 = .ok (.aload_n 0, 1) := by decide +kernel
theorem d_Rd_fail_8 : decode prog_4_method_5_code 8 = .ok (.iload_n 1, 1) := by decide +kernel
theorem d_Rd_fail_9 : decode prog_4_method_5_code 9 = .ok (.putfield 15, 3) := by decide +kernel
theorem d_Rd_fail_12 : decode prog_4_method_5_code 12 = .ok (.aload_n 0, 1) := by decide +kernel
theorem d_Rd_fail_13 : decode prog_4_method_5_code 13 = .ok (.iload_n 2, 1) := by decide +kernel
theorem d_Rd_fail_14 : decode prog_4_method_5_code 14 = .ok (.putfield 19, 3) := by decide +kernel
theorem d_Rd_fail_17 : decode prog_4_method_5_code 17 = .ok (.return_, 1) := by decide +kernel
theorem d_Rd_take_0 : decode prog_4_method_6_code 0 = .ok (.aload_n 0, 1) := by decide +kernel
theorem d_Rd_take_1 : decode prog_4_method_6_code 1 = .ok (.getfield 15, 3) := by decide +kernel
theorem d_Rd_take_4 : decode prog_4_method_6_code 4 = .ok (.ifCond .eq 5, 3) := by decide +kernel
theorem d_Rd_take_7 : decode prog_4_method_6_code 7 = .ok (.iconst (-1), 1) := by decide +kernel
theorem d_Rd_take_8 : decode prog_4_method_6_code 8 = .ok (.ireturn, 1) := by decide +kernel
theorem d_Rd_take_9 : decode prog_4_method_6_code 9 = .ok (.aload_n 0, 1) := by decide +kernel
theorem d_Rd_take_10 : decode prog_4_method_6_code 10 = .ok (.getfield 9, 3) := by decide +kernel
theorem d_Rd_take_13 : decode prog_4_method_6_code 13 = .ok (.aload_n 0, 1) := by decide +kernel
theorem d_Rd_take_14 : decode prog_4_method_6_code 14 = .ok (.getfield 22, 3) := by decide +kernel
theorem d_Rd_take_17 : decode prog_4_method_6_code 17 = .ok (.invokevirtual 56, 3) := by decide +kernel
end
section
theorem d_Rd_take_20 : decode prog_4_method_6_code 20 = .ok (.istore_n 2, 1) := by decide +kernel
theorem d_Rd_take_21 : decode prog_4_method_6_code 21 = .ok (.iload_n 2, 1) := by decide +kernel
theorem d_Rd_take_22 : decode prog_4_method_6_code 22 = .ok (.iconst (-1), 1) := by decide +kernel
theorem d_Rd_take_23 : decode prog_4_method_6_code 23 = .ok (.if_icmp .ne 14, 3) := by decide +kernel
theorem d_Rd_take_26 : decode prog_4_method_6_code 26 = .ok (.aload_n 0, 1) := by decide +kernel
theorem d_Rd_take_27 : decode prog_4_method_6_code 27 = .ok (.iconst 1, 1) := by decide +kernel
theorem d_Rd_take_28 : decode prog_4_method_6_code 28 = .ok (.aload_n 0, 1) := by decide +kernel
theorem d_Rd_take_29 : decode prog_4_method_6_code 29 = .ok (.getfield 22, 3) := by decide +kernel
theorem d_Rd_take_32 : decode prog_4_method_6_code 32 = .ok (.invokevirtual 52, 3) := by decide +kernel
theorem d_Rd_take_35 : decode prog_4_method_6_code 35 = .ok (.iconst (-1), 1) := by decide +kernel
theorem d_Rd_take_36 : decode prog_4_method_6_code 36 = .ok (.ireturn, 1) := by decide +kernel
theorem d_Rd_take_37 : decode prog_4_method_6_code 37 = .ok (.iload_n 2, 1) := by decide +kernel
theorem d_Rd_take_38 : decode prog_4_method_6_code 38 = .ok (.iload_n 1, 1) := by decide +kernel
theorem d_Rd_take_39 : decode prog_4_method_6_code 39 = .ok (.if_icmp .le 14, 3) := by decide +kernel
theorem d_Rd_take_42 : decode prog_4_method_6_code 42 = .ok (.aload_n 0, 1) := by decide +kernel
theorem d_Rd_take_43 : decode prog_4_method_6_code 43 = .ok (.iconst 3, 1) := by decide +kernel
theorem d_Rd_take_44 : decode prog_4_method_6_code 44 = .ok (.aload_n 0, 1) := by decide +kernel
theorem d_Rd_take_45 : decode prog_4_method_6_code 45 = .ok (.getfield 22, 3) := by decide +kernel
theorem d_Rd_take_48 : decode prog_4_method_6_code 48 = .ok (.invokevirtual 52, 3) := by decide +kernel
theorem d_Rd_take_51 : decode prog_4_method_6_code 51 = .ok (.iconst (-1), 1) := by decide +kernel
theorem d_Rd_take_52 : decode prog_4_method_6_code 52 = .ok (.ireturn, 1) := by decide +kernel
theorem d_Rd_take_53 : decode prog_4_method_6_code 53 = .ok (.aload_n 0, 1) := by decide +kernel
theorem d_Rd_take_54 : decode prog_4_method_6_code 54 = .ok (.dup, 1) := by decide +kernel
theorem d_Rd_take_55 : decode prog_4_method_6_code 55 = .ok (.getfield 22, 3) := by decide +kernel
theorem d_Rd_take_58 : decode prog_4_method_6_code 58 = .ok (.iconst 1, 1) := by decide +kernel
theorem d_Rd_take_59 : decode prog_4_method_6_code 59 = .ok (.iadd, 1) := by decide +kernel
theorem d_Rd_take_60 : decode prog_4_method_6_code 60 = .ok (.putfield 22, 3) := by decide +kernel
theorem d_Rd_take_63 : decode prog_4_method_6_code 63 = .ok (.iload_n 2, 1) := by decide +kernel
theorem d_Rd_take_64 : decode prog_4_method_6_code 64 = .ok (.ireturn, 1) := by decide +kernel
theorem d_Rd_takeOnly_0 : decode prog_4_method_7_code 0 = .ok (.aload_n 0, 1) := by decide +kernel
theorem d_Rd_takeOnly_1 : decode prog_4_method_7_code 1 = .ok (.getfield 22, 3) := by decide +kernel
theorem d_Rd_takeOnly_4 : decode prog_4_method_7_code 4 = .ok (.istore_n 3, 1) := by decide +kernel
theorem d_Rd_takeOnly_5 : decode prog_4_method_7_code 5 = .ok (.aload_n 0, 1) := by decide +kernel
theorem d_Rd_takeOnly_6 : decode prog_4_method_7_code 6 = .ok (.sipush 255, 3) := by decide +kernel
theorem d_Rd_takeOnly_9 : decode prog_4_method_7_code 9 = .ok (.invokevirtual 60, 3) := by decide +kernel
theorem d_Rd_takeOnly_12 : decode prog_4_method_7_code 12 = .ok (.iload_n 1, 1) := by decide +kernel
theorem d_Rd_takeOnly_13 : decode prog_4_method_7_code 13 = .ok (.if_icmp .eq 9, 3) := by decide +kernel
theorem d_Rd_takeOnly_16 : decode prog_4_method_7_code 16 = .ok (.aload_n 0, 1) := by decide +kernel
theorem d_Rd_takeOnly_17 : decode prog_4_method_7_code 17 = .ok (.iload_n 2, 1) := by decide +kernel
theorem d_Rd_takeOnly_18 : decode prog_4_method_7_code 18 = .ok (.iload_n 3, 1) := by decide +kernel
theorem d_Rd_takeOnly_19 : decode prog_4_method_7_code 19 = .ok (.invokevirtual 52, 3) := by decide +kernel
theorem d_Rd_takeOnly_22 : decode prog_4_method_7_code 22 = .ok (.return_, 1) := by decide +kernel
theorem d_Rd_takePlace_0 : decode prog_4_method_10_code 0 = .ok (.aload_n 0, 1) := by decide +kernel
theorem d_Rd_takePlace_1 : decode prog_4_method_10_code 1 = .ok (.sipush 255, 3) := by decide +kernel
theorem d_Rd_takePlace_4 : decode prog_4_method_10_code 4 = .ok (.invokevirtual 60, 3) := by decide +kernel
theorem d_Rd_takePlace_7 : decode prog_4_method_10_code 7 = .ok (.istore_n 1, 1) := by decide +kernel
theorem d_Rd_takePlace_8 : decode prog_4_method_10_code 8 = .ok (.aload_n 0, 1) := by decide +kernel
theorem d_Rd_takePlace_9 : decode prog_4_method_10_code 9 = .ok (.sipush 255, 3) := by decide +kernel
theorem d_Rd_takePlace_12 : decode prog_4_method_10_code 12 = .ok (.invokevirtual 60, 3) := by decide +kernel
theorem d_Rd_takePlace_15 : decode prog_4_method_10_code 15 = .ok (.istore_n 2, 1) := by decide +kernel
theorem d_Rd_takePlace_16 : decode prog_4_method_10_code 16 = .ok (.iload_n 1, 1) := by decide +kernel
theorem d_Rd_takePlace_17 : decode prog_4_method_10_code 17 = .ok (.sipush 256, 3) := by decide +kernel
theorem d_Rd_takePlace_20 : decode prog_4_method_10_code 20 = .ok (.imul, 1) := by decide +kernel
theorem d_Rd_takePlace_21 : decode prog_4_method_10_code 21 = .ok (.iload_n 2, 1) := by decide +kernel
theorem d_Rd_takePlace_22 : decode prog_4_method_10_code 22 = .ok (.iadd, 1) := by decide +kernel
theorem d_Rd_takePlace_23 : decode prog_4_method_10_code 23 = .ok (.istore_n 3, 1) := by decide +kernel
theorem d_Rd_takePlace_24 : decode prog_4_method_10_code 24 = .ok (.iload_n 3, 1) := by decide +kernel
theorem d_Rd_takePlace_25 : decode prog_4_method_10_code 25 = .ok (.sipush 32767, 3) := by decide +kernel
theorem d_Rd_takePlace_28 : decode prog_4_method_10_code 28 = .ok (.if_icmp .le 10, 3) := by decide +kernel
theorem d_Rd_takePlace_31 : decode prog_4_method_10_code 31 = .ok (.iload_n 3, 1) := by decide +kernel
theorem d_Rd_takePlace_32 : decode prog_4_method_10_code 32 = .ok (.ldc 77, 2) := by decide +kernel
theorem d_Rd_takePlace_34 : decode prog_4_method_10_code 34 = .ok (.isub, 1) := by decide +kernel
theorem d_Rd_takePlace_35 : decode prog_4_method_10_code 35 = .ok (.goto 4, 3) := by decide +kernel
theorem d_Rd_takePlace_38 : decode prog_4_method_10_code 38 = .ok (.iload_n 3, 1) := by decide +kernel
theorem d_Rd_takePlace_39 : decode prog_4_method_10_code 39 = .ok (.ireturn, 1) := by decide +kernel
theorem d_Rd_takeStart_0 : decode prog_4_method_9_code 0 = .ok (.aload_n 0, 1) := by decide +kernel
theorem d_Rd_takeStart_1 : decode prog_4_method_9_code 1 = .ok (.invokevirtual 70, 3) := by decide +kernel
theorem d_Rd_takeStart_4 : decode prog_4_method_9_code 4 = .ok (.istore_n 2, 1) := by decide +kernel
theorem d_Rd_takeStart_5 : decode prog_4_method_9_code 5 = .ok (.aload_n 0, 1) := by decide +kernel
theorem d_Rd_takeStart_6 : decode prog_4_method_9_code 6 = .ok (.invokevirtual 70, 3) := by decide +kernel
theorem d_Rd_takeStart_9 : decode prog_4_method_9_code 9 = .ok (.istore_n 3, 1) := by decide +kernel
theorem d_Rd_takeStart_10 : decode prog_4_method_9_code 10 = .ok (.aload_n 0, 1) := by decide +kernel
theorem d_Rd_takeStart_11 : decode prog_4_method_9_code 11 = .ok (.bipush 63, 2) := by decide +kernel
theorem d_Rd_takeStart_13 : decode prog_4_method_9_code 13 = .ok (.invokevirtual 60, 3) := by decide +kernel
theorem d_Rd_takeStart_16 : decode prog_4_method_9_code 16 = .ok (.istore 4, 2) := by decide +kernel
theorem d_Rd_takeStart_18 : decode prog_4_method_9_code 18 = .ok (.aload_n 0, 1) := by decide +kernel
theorem d_Rd_takeStart_19 : decode prog_4_method_9_code 19 = .ok (.sipush 255, 3) := by decide +kernel
theorem d_Rd_takeStart_22 : decode prog_4_method_9_code 22 = .ok (.invokevirtual 60, 3) := by decide +kernel
theorem d_Rd_takeStart_25 : decode prog_4_method_9_code 25 = .ok (.istore 5, 2) := by decide +kernel
theorem d_Rd_takeStart_27 : decode prog_4_method_9_code 27 = .ok (.aload_n 1, 1) := by decide +kernel
theorem d_Rd_takeStart_28 : decode prog_4_method_9_code 28 = .ok (.iload_n 2, 1) := by decide +kernel
theorem d_Rd_takeStart_29 : decode prog_4_method_9_code 29 = .ok (.iload_n 3, 1) := by decide +kernel
theorem d_Rd_takeStart_30 : decode prog_4_method_9_code 30 = .ok (.iload 4, 2) := by decide +kernel
theorem d_Rd_takeStart_32 : decode prog_4_method_9_code 32 = .ok (.iload 5, 2) := by decide +kernel
theorem d_Rd_takeStart_34 : decode prog_4_method_9_code 34 = .ok (.invokevirtual 73, 3) := by decide +kernel
theorem d_Rd_takeStart_37 : decode prog_4_method_9_code 37 = .ok (.return_, 1) := by decide +kernel
theorem d_Rd_takeCode_0 : decode prog_4_method_13_code 0 = .ok (.iload_n 1, 1) := by decide +kernel
theorem d_Rd_takeCode_1 : decode prog_4_method_13_code 1 = .ok (.bipush 64, 2) := by decide +kernel
theorem d_Rd_takeCode_3 : decode prog_4_method_13_code 3 = .ok (.iand, 1) := by decide +kernel
theorem d_Rd_takeCode_4 : decode prog_4_method_13_code 4 = .ok (.ifCond .eq 7, 3) := by decide +kernel
theorem d_Rd_takeCode_7 : decode prog_4_method_13_code 7 = .ok (.iconst 1, 1) := by decide +kernel
theorem d_Rd_takeCode_8 : decode prog_4_method_13_code 8 = .ok (.goto 4, 3) := by decide +kernel
theorem d_Rd_takeCode_11 : decode prog_4_method_13_code 11 = .ok (.iconst 0, 1) := by decide +kernel
theorem d_Rd_takeCode_12 : decode prog_4_method_13_code 12 = .ok (.istore_n 2, 1) := by decide +kernel
theorem d_Rd_takeCode_13 : decode prog_4_method_13_code 13 = .ok (.aload_n 0, 1) := by decide +kernel
theorem d_Rd_takeCode_14 : decode prog_4_method_13_code 14 = .ok (.sipush 128, 3) := by decide +kernel
theorem d_Rd_takeCode_17 : decode prog_4_method_13_code 17 = .ok (.invokevirtual 60, 3) := by decide +kernel
theorem d_Rd_takeCode_20 : decode prog_4_method_13_code 20 = .ok (.istore_n 3, 1) := by decide +kernel
theorem d_Rd_takeCode_21 : decode prog_4_method_13_code 21 = .ok (.iload_n 1, 1) := by decide +kernel
theorem d_Rd_takeCode_22 : decode prog_4_method_13_code 22 = .ok (.sipush 128, 3) := by decide +kernel
theorem d_Rd_takeCode_25 : decode prog_4_method_13_code 25 = .ok (.iand, 1) := by decide +kernel
theorem d_Rd_takeCode_26 : decode prog_4_method_13_code 26 = .ok (.ifCond .ne 13, 3) := by decide +kernel
theorem d_Rd_takeCode_29 : decode prog_4_method_13_code 29 = .ok (.iload_n 2, 1) := by decide +kernel
theorem d_Rd_takeCode_30 : decode prog_4_method_13_code 30 = .ok (.iload_n 3, 1) := by decide +kernel
theorem d_Rd_takeCode_31 : decode prog_4_method_13_code 31 = .ok (.bipush 64, 2) := by decide +kernel
theorem d_Rd_takeCode_33 : decode prog_4_method_13_code 33 = .ok (.bipush 16, 2) := by decide +kernel
theorem d_Rd_takeCode_35 : decode prog_4_method_13_code 35 = .ok (.invokestatic 97, 3) := by decide +kernel
theorem d_Rd_takeCode_38 : decode prog_4_method_13_code 38 = .ok (.ireturn, 1) := by decide +kernel
theorem d_Rd_takeCode_39 : decode prog_4_method_13_code 39 = .ok (.aload_n 0, 1) := by decide +kernel
theorem d_Rd_takeCode_40 : decode prog_4_method_13_code 40 = .ok (.sipush 128, 3) := by decide +kernel
theorem d_Rd_takeCode_43 : decode prog_4_method_13_code 43 = .ok (.invokevirtual 60, 3) := by decide +kernel
theorem d_Rd_takeCode_46 : decode prog_4_method_13_code 46 = .ok (.istore 4, 2) := by decide +kernel
theorem d_Rd_takeCode_48 : decode prog_4_method_13_code 48 = .ok (.aload_n 0, 1) := by decide +kernel
theorem d_Rd_takeCode_49 : decode prog_4_method_13_code 49 = .ok (.getfield 22, 3) := by decide +kernel
theorem d_Rd_takeCode_52 : decode prog_4_method_13_code 52 = .ok (.istore 5, 2) := by decide +kernel
theorem d_Rd_takeCode_54 : decode prog_4_method_13_code 54 = .ok (.aload_n 0, 1) := by decide +kernel
theorem d_Rd_takeCode_55 : decode prog_4_method_13_code 55 = .ok (.bipush 32, 2) := by decide +kernel
theorem d_Rd_takeCode_57 : decode prog_4_method_13_code 57 = .ok (.invokevirtual 60, 3) := by decide +kernel
theorem d_Rd_takeCode_60 : decode prog_4_method_13_code 60 = .ok (.istore 6, 2) := by decide +kernel
theorem d_Rd_takeCode_62 : decode prog_4_method_13_code 62 = .ok (.iload 4, 2) := by decide +kernel
theorem d_Rd_takeCode_64 : decode prog_4_method_13_code 64 = .ok (.bipush 64, 2) := by decide +kernel
theorem d_Rd_takeCode_66 : decode prog_4_method_13_code 66 = .ok (.if_icmp .ne 17, 3) := by decide +kernel
theorem d_Rd_takeCode_69 : decode prog_4_method_13_code 69 = .ok (.iload 6, 2) := by decide +kernel
theorem d_Rd_takeCode_71 : decode prog_4_method_13_code 71 = .ok (.bipush 16, 2) := by decide +kernel
theorem d_Rd_takeCode_73 : decode prog_4_method_13_code 73 = .ok (.if_icmp .ne 10, 3) := by decide +kernel
theorem d_Rd_takeCode_76 : decode prog_4_method_13_code 76 = .ok (.aload_n 0, 1) := by decide +kernel
theorem d_Rd_takeCode_77 : decode prog_4_method_13_code 77 = .ok (.iconst 3, 1) := by decide +kernel
theorem d_Rd_takeCode_78 : decode prog_4_method_13_code 78 = .ok (.iload 5, 2) := by decide +kernel
theorem d_Rd_takeCode_80 : decode prog_4_method_13_code 80 = .ok (.invokevirtual 52, 3) := by decide +kernel
theorem d_Rd_takeCode_83 : decode prog_4_method_13_code 83 = .ok (.iload_n 2, 1) := by decide +kernel
theorem d_Rd_takeCode_84 : decode prog_4_method_13_code 84 = .ok (.iload_n 3, 1) := by decide +kernel
theorem d_Rd_takeCode_85 : decode prog_4_method_13_code 85 = .ok (.iload 4, 2) := by decide +kernel
theorem d_Rd_takeCode_87 : decode prog_4_method_13_code 87 = .ok (.iload 6, 2) := by decide +kernel
theorem d_Rd_takeCode_89 : decode prog_4_method_13_code 89 = .ok (.invokestatic 97, 3) := by decide +kernel
theorem d_Rd_takeCode_92 : decode prog_4_method_13_code 92 = .ok (.ireturn, 1) := by decide +kernel
theorem d_Rd_takeMark_0 : decode prog_4_method_8_code 0 = .ok (.iconst 0, 1) := by decide +kernel
theorem d_Rd_takeMark_1 : decode prog_4_method_8_code 1 = .ok (.istore_n 1, 1) := by decide +kernel
theorem d_Rd_takeMark_2 : decode prog_4_method_8_code 2 = .ok (.iload_n 1, 1) := by decide +kernel
theorem d_Rd_takeMark_3 : decode prog_4_method_8_code 3 = .ok (.getstatic 63, 3) := by decide +kernel
theorem d_Rd_takeMark_6 : decode prog_4_method_8_code 6 = .ok (.arraylength, 1) := by decide +kernel
theorem d_Rd_takeMark_7 : decode prog_4_method_8_code 7 = .ok (.if_icmp .ge 19, 3) := by decide +kernel
theorem d_Rd_takeMark_10 : decode prog_4_method_8_code 10 = .ok (.aload_n 0, 1) := by decide +kernel
theorem d_Rd_takeMark_11 : decode prog_4_method_8_code 11 = .ok (.getstatic 63, 3) := by decide +kernel
theorem d_Rd_takeMark_14 : decode prog_4_method_8_code 14 = .ok (.iload_n 1, 1) := by decide +kernel
theorem d_Rd_takeMark_15 : decode prog_4_method_8_code 15 = .ok (.iaload, 1) := by decide +kernel
theorem d_Rd_takeMark_16 : decode prog_4_method_8_code 16 = .ok (.iconst 2, 1) := by decide +kernel
theorem d_Rd_takeMark_17 : decode prog_4_method_8_code 17 = .ok (.invokevirtual 67, 3) := by decide +kernel
theorem d_Rd_takeMark_20 : decode prog_4_method_8_code 20 = .ok (.iinc 1 1, 3) := by decide +kernel
theorem d_Rd_takeMark_23 : decode prog_4_method_8_code 23 = .ok (.goto (-21), 3) := by decide +kernel
theorem d_Rd_takeMark_26 : decode prog_4_method_8_code 26 = .ok (.return_, 1) := by decide +kernel
theorem d_Rd_takeCheck_0 : decode prog_4_method_14_code 0 = .ok (.aload_n 0, 1) := by decide +kernel
theorem d_Rd_takeCheck_1 : decode prog_4_method_14_code 1 = .ok (.getfield 9, 3) := by decide +kernel
theorem d_Rd_takeCheck_4 : decode prog_4_method_14_code 4 = .ok (.aload_n 0, 1) := by decide +kernel
theorem d_Rd_takeCheck_5 : decode prog_4_method_14_code 5 = .ok (.getfield 22, 3) := by decide +kernel
theorem d_Rd_takeCheck_8 : decode prog_4_method_14_code 8 = .ok (.invokevirtual 103, 3) := by decide +kernel
theorem d_Rd_takeCheck_11 : decode prog_4_method_14_code 11 = .ok (.istore_n 1, 1) := by decide +kernel
theorem d_Rd_takeCheck_12 : decode prog_4_method_14_code 12 = .ok (.iconst 3, 1) := by decide +kernel
theorem d_Rd_takeCheck_13 : decode prog_4_method_14_code 13 = .ok (.istore_n 2, 1) := by decide +kernel
theorem d_Rd_takeCheck_14 : decode prog_4_method_14_code 14 = .ok (.iload_n 2, 1) := by decide +kernel
theorem d_Rd_takeCheck_15 : decode prog_4_method_14_code 15 = .ok (.ifCond .lt 25, 3) := by decide +kernel
theorem d_Rd_takeCheck_18 : decode prog_4_method_14_code 18 = .ok (.aload_n 0, 1) := by decide +kernel
theorem d_Rd_takeCheck_19 : decode prog_4_method_14_code 19 = .ok (.iload_n 1, 1) := by decide +kernel
theorem d_Rd_takeCheck_20 : decode prog_4_method_14_code 20 = .ok (.bipush 8, 2) := by decide +kernel
theorem d_Rd_takeCheck_22 : decode prog_4_method_14_code 22 = .ok (.iload_n 2, 1) := by decide +kernel
theorem d_Rd_takeCheck_23 : decode prog_4_method_14_code 23 = .ok (.imul, 1) := by decide +kernel
theorem d_Rd_takeCheck_24 : decode prog_4_method_14_code 24 = .ok (.iushr, 1) := by decide +kernel
theorem d_Rd_takeCheck_25 : decode prog_4_method_14_code 25 = .ok (.sipush 255, 3) := by decide +kernel
theorem d_Rd_takeCheck_28 : decode prog_4_method_14_code 28 = .ok (.iand, 1) := by decide +kernel
theorem d_Rd_takeCheck_29 : decode prog_4_method_14_code 29 = .ok (.bipush 6, 2) := by decide +kernel
theorem d_Rd_takeCheck_31 : decode prog_4_method_14_code 31 = .ok (.invokevirtual 67, 3) := by decide +kernel
theorem d_Rd_takeCheck_34 : decode prog_4_method_14_code 34 = .ok (.iinc 2 (-1), 3) := by decide +kernel
theorem d_Rd_takeCheck_37 : decode prog_4_method_14_code 37 = .ok (.goto (-23), 3) := by decide +kernel
theorem d_Rd_takeCheck_40 : decode prog_4_method_14_code 40 = .ok (.return_, 1) := by decide +kernel
theorem d_Rd_takeGroup_0 : decode prog_4_method_12_code 0 = .ok (.aload_n 0, 1) := by decide +kernel
theorem d_Rd_takeGroup_1 : decode prog_4_method_12_code 1 = .ok (.getfield 22, 3) := by decide +kernel
theorem d_Rd_takeGroup_4 : decode prog_4_method_12_code 4 = .ok (.istore_n 2, 1) := by decide +kernel
theorem d_Rd_takeGroup_5 : decode prog_4_method_12_code 5 = .ok (.aload_n 0, 1) := by decide +kernel
theorem d_Rd_takeGroup_6 : decode prog_4_method_12_code 6 = .ok (.sipush 255, 3) := by decide +kernel
theorem d_Rd_takeGroup_9 : decode prog_4_method_12_code 9 = .ok (.invokevirtual 60, 3) := by decide +kernel
theorem d_Rd_takeGroup_12 : decode prog_4_method_12_code 12 = .ok (.istore_n 3, 1) := by decide +kernel
theorem d_Rd_takeGroup_13 : decode prog_4_method_12_code 13 = .ok (.iload_n 3, 1) := by decide +kernel
theorem d_Rd_takeGroup_14 : decode prog_4_method_12_code 14 = .ok (.iconst (-1), 1) := by decide +kernel
theorem d_Rd_takeGroup_15 : decode prog_4_method_12_code 15 = .ok (.if_icmp .eq 7, 3) := by decide +kernel
theorem d_Rd_takeGroup_18 : decode prog_4_method_12_code 18 = .ok (.iload_n 3, 1) := by decide +kernel
theorem d_Rd_takeGroup_19 : decode prog_4_method_12_code 19 = .ok (.ifCond .ne 5, 3) := by decide +kernel
theorem d_Rd_takeGroup_22 : decode prog_4_method_12_code 22 = .ok (.iconst 0, 1) := by decide +kernel
theorem d_Rd_takeGroup_23 : decode prog_4_method_12_code 23 = .ok (.ireturn, 1) := by decide +kernel
theorem d_Rd_takeGroup_24 : decode prog_4_method_12_code 24 = .ok (.iload_n 3, 1) := by decide +kernel
theorem d_Rd_takeGroup_25 : decode prog_4_method_12_code 25 = .ok (.bipush 63, 2) := by decide +kernel
theorem d_Rd_takeGroup_27 : decode prog_4_method_12_code 27 = .ok (.iand, 1) := by decide +kernel
theorem d_Rd_takeGroup_28 : decode prog_4_method_12_code 28 = .ok (.istore 4, 2) := by decide +kernel
theorem d_Rd_takeGroup_30 : decode prog_4_method_12_code 30 = .ok (.iload 4, 2) := by decide +kernel
theorem d_Rd_takeGroup_32 : decode prog_4_method_12_code 32 = .ok (.ifCond .ne 9, 3) := by decide +kernel
theorem d_Rd_takeGroup_35 : decode prog_4_method_12_code 35 = .ok (.aload_n 0, 1) := by decide +kernel
theorem d_Rd_takeGroup_36 : decode prog_4_method_12_code 36 = .ok (.iconst 3, 1) := by decide +kernel
theorem d_Rd_takeGroup_37 : decode prog_4_method_12_code 37 = .ok (.iload_n 2, 1) := by decide +kernel
theorem d_Rd_takeGroup_38 : decode prog_4_method_12_code 38 = .ok (.invokevirtual 52, 3) := by decide +kernel
theorem d_Rd_takeGroup_41 : decode prog_4_method_12_code 41 = .ok (.iload 4, 2) := by decide +kernel
theorem d_Rd_takeGroup_43 : decode prog_4_method_12_code 43 = .ok (.aload_n 1, 1) := by decide +kernel
theorem d_Rd_takeGroup_44 : decode prog_4_method_12_code 44 = .ok (.invokevirtual 82, 3) := by decide +kernel
theorem d_Rd_takeGroup_47 : decode prog_4_method_12_code 47 = .ok (.if_icmp .le 9, 3) := by decide +kernel
theorem d_Rd_takeGroup_50 : decode prog_4_method_12_code 50 = .ok (.aload_n 0, 1) := by decide +kernel
theorem d_Rd_takeGroup_51 : decode prog_4_method_12_code 51 = .ok (.iconst 5, 1) := by decide +kernel
theorem d_Rd_takeGroup_52 : decode prog_4_method_12_code 52 = .ok (.iload_n 2, 1) := by decide +kernel
theorem d_Rd_takeGroup_53 : decode prog_4_method_12_code 53 = .ok (.invokevirtual 52, 3) := by decide +kernel
theorem d_Rd_takeGroup_56 : decode prog_4_method_12_code 56 = .ok (.aload_n 0, 1) := by decide +kernel
theorem d_Rd_takeGroup_57 : decode prog_4_method_12_code 57 = .ok (.iload_n 3, 1) := by decide +kernel
theorem d_Rd_takeGroup_58 : decode prog_4_method_12_code 58 = .ok (.invokevirtual 85, 3) := by decide +kernel
theorem d_Rd_takeGroup_61 : decode prog_4_method_12_code 61 = .ok (.istore 5, 2) := by decide +kernel
theorem d_Rd_takeGroup_63 : decode prog_4_method_12_code 63 = .ok (.aload_n 0, 1) := by decide +kernel
theorem d_Rd_takeGroup_64 : decode prog_4_method_12_code 64 = .ok (.getfield 25, 3) := by decide +kernel
theorem d_Rd_takeGroup_67 : decode prog_4_method_12_code 67 = .ok (.bipush 63, 2) := by decide +kernel
theorem d_Rd_takeGroup_69 : decode prog_4_method_12_code 69 = .ok (.if_icmp .ge 24, 3) := by decide +kernel
theorem d_Rd_takeGroup_72 : decode prog_4_method_12_code 72 = .ok (.aload_n 1, 1) := by decide +kernel
theorem d_Rd_takeGroup_73 : decode prog_4_method_12_code 73 = .ok (.aload_n 1, 1) := by decide +kernel
theorem d_Rd_takeGroup_74 : decode prog_4_method_12_code 74 = .ok (.invokevirtual 88, 3) := by decide +kernel
theorem d_Rd_takeGroup_77 : decode prog_4_method_12_code 77 = .ok (.iconst 1, 1) := by decide +kernel
theorem d_Rd_takeGroup_78 : decode prog_4_method_12_code 78 = .ok (.isub, 1) := by decide +kernel
theorem d_Rd_takeGroup_79 : decode prog_4_method_12_code 79 = .ok (.invokevirtual 91, 3) := by decide +kernel
theorem d_Rd_takeGroup_82 : decode prog_4_method_12_code 82 = .ok (.iload 5, 2) := by decide +kernel
theorem d_Rd_takeGroup_84 : decode prog_4_method_12_code 84 = .ok (.if_icmp .ne 9, 3) := by decide +kernel
theorem d_Rd_takeGroup_87 : decode prog_4_method_12_code 87 = .ok (.aload_n 0, 1) := by decide +kernel
theorem d_Rd_takeGroup_88 : decode prog_4_method_12_code 88 = .ok (.iconst 4, 1) := by decide +kernel
theorem d_Rd_takeGroup_89 : decode prog_4_method_12_code 89 = .ok (.iload_n 2, 1) := by decide +kernel
theorem d_Rd_takeGroup_90 : decode prog_4_method_12_code 90 = .ok (.invokevirtual 52, 3) := by decide +kernel
theorem d_Rd_takeGroup_93 : decode prog_4_method_12_code 93 = .ok (.aload_n 0, 1) := by decide +kernel
theorem d_Rd_takeGroup_94 : decode prog_4_method_12_code 94 = .ok (.getfield 15, 3) := by decide +kernel
theorem d_Rd_takeGroup_97 : decode prog_4_method_12_code 97 = .ok (.ifCond .eq 5, 3) := by decide +kernel
theorem d_Rd_takeGroup_100 : decode prog_4_method_12_code 100 = .ok (.iconst 0, 1) := by decide +kernel
theorem d_Rd_takeGroup_101 : decode prog_4_method_12_code 101 = .ok (.ireturn, 1) := by decide +kernel
theorem d_Rd_takeGroup_102 : decode prog_4_method_12_code 102 = .ok (.aload_n 1, 1) := by decide +kernel
theorem d_Rd_takeGroup_103 : decode prog_4_method_12_code 103 = .ok (.iload 5, 2) := by decide +kernel
theorem d_Rd_takeGroup_105 : decode prog_4_method_12_code 105 = .ok (.iload 4, 2) := by decide +kernel
theorem d_Rd_takeGroup_107 : decode prog_4_method_12_code 107 = .ok (.invokevirtual 94, 3) := by decide +kernel
theorem d_Rd_takeGroup_110 : decode prog_4_method_12_code 110 = .ok (.aload_n 0, 1) := by decide +kernel
theorem d_Rd_takeGroup_111 : decode prog_4_method_12_code 111 = .ok (.iload 4, 2) := by decide +kernel
theorem d_Rd_takeGroup_113 : decode prog_4_method_12_code 113 = .ok (.putfield 25, 3) := by decide +kernel
theorem d_Rd_takeGroup_116 : decode prog_4_method_12_code 116 = .ok (.iconst 1, 1) := by decide +kernel
theorem d_Rd_takeGroup_117 : decode prog_4_method_12_code 117 = .ok (.ireturn, 1) := by decide +kernel
theorem d_Rd_takeGroups_0 : decode prog_4_method_11_code 0 = .ok (.iconst 1, 1) := by decide +kernel
theorem d_Rd_takeGroups_1 : decode prog_4_method_11_code 1 = .ok (.istore_n 2, 1) := by decide +kernel
theorem d_Rd_takeGroups_2 : decode prog_4_method_11_code 2 = .ok (.iconst 0, 1) := by decide +kernel
theorem d_Rd_takeGroups_3 : decode prog_4_method_11_code 3 = .ok (.istore_n 3, 1) := by decide +kernel
theorem d_Rd_takeGroups_4 : decode prog_4_method_11_code 4 = .ok (.iload_n 2, 1) := by decide +kernel
theorem d_Rd_takeGroups_5 : decode prog_4_method_11_code 5 = .ok (.ifCond .eq 22, 3) := by decide +kernel
theorem d_Rd_takeGroups_8 : decode prog_4_method_11_code 8 = .ok (.iload_n 3, 1) := by decide +kernel
theorem d_Rd_takeGroups_9 : decode prog_4_method_11_code 9 = .ok (.sipush 1024, 3) := by decide +kernel
theorem d_Rd_takeGroups_12 : decode prog_4_method_11_code 12 = .ok (.if_icmp .gt 15, 3) := by decide +kernel
theorem d_Rd_takeGroups_15 : decode prog_4_method_11_code 15 = .ok (.aload_n 0, 1) := by decide +kernel
theorem d_Rd_takeGroups_16 : decode prog_4_method_11_code 16 = .ok (.aload_n 1, 1) := by decide +kernel
theorem d_Rd_takeGroups_17 : decode prog_4_method_11_code 17 = .ok (.invokevirtual 78, 3) := by decide +kernel
theorem d_Rd_takeGroups_20 : decode prog_4_method_11_code 20 = .ok (.istore_n 2, 1) := by decide +kernel
theorem d_Rd_takeGroups_21 : decode prog_4_method_11_code 21 = .ok (.iinc 3 1, 3) := by decide +kernel
theorem d_Rd_takeGroups_24 : decode prog_4_method_11_code 24 = .ok (.goto (-20), 3) := by decide +kernel
theorem d_Rd_takeGroups_27 : decode prog_4_method_11_code 27 = .ok (.return_, 1) := by decide +kernel
theorem d_Rd_readInto_0 : decode prog_4_method_4_code 0 = .ok (.aload_n 0, 1) := by decide +kernel
theorem d_Rd_readInto_1 : decode prog_4_method_4_code 1 = .ok (.iconst 0, 1) := by decide +kernel
theorem d_Rd_readInto_2 : decode prog_4_method_4_code 2 = .ok (.putfield 22, 3) := by decide +kernel
theorem d_Rd_readInto_5 : decode prog_4_method_4_code 5 = .ok (.aload_n 0, 1) := by decide +kernel
theorem d_Rd_readInto_6 : decode prog_4_method_4_code 6 = .ok (.iconst 0, 1) := by decide +kernel
theorem d_Rd_readInto_7 : decode prog_4_method_4_code 7 = .ok (.putfield 25, 3) := by decide +kernel
theorem d_Rd_readInto_10 : decode prog_4_method_4_code 10 = .ok (.aload_n 0, 1) := by decide +kernel
theorem d_Rd_readInto_11 : decode prog_4_method_4_code 11 = .ok (.iconst 0, 1) := by decide +kernel
theorem d_Rd_readInto_12 : decode prog_4_method_4_code 12 = .ok (.putfield 15, 3) := by decide +kernel
theorem d_Rd_readInto_15 : decode prog_4_method_4_code 15 = .ok (.aload_n 0, 1) := by decide +kernel
theorem d_Rd_readInto_16 : decode prog_4_method_4_code 16 = .ok (.iconst (-1), 1) := by decide +kernel
theorem d_Rd_readInto_17 : decode prog_4_method_4_code 17 = .ok (.putfield 19, 3) := by decide +kernel
theorem d_Rd_readInto_20 : decode prog_4_method_4_code 20 = .ok (.aload_n 1, 1) := by decide +kernel
theorem d_Rd_readInto_21 : decode prog_4_method_4_code 21 = .ok (.invokevirtual 28, 3) := by decide +kernel
theorem d_Rd_readInto_24 : decode prog_4_method_4_code 24 = .ok (.aload_n 0, 1) := by decide +kernel
theorem d_Rd_readInto_25 : decode prog_4_method_4_code 25 = .ok (.invokevirtual 33, 3) := by decide +kernel
theorem d_Rd_readInto_28 : decode prog_4_method_4_code 28 = .ok (.aload_n 0, 1) := by decide +kernel
theorem d_Rd_readInto_29 : decode prog_4_method_4_code 29 = .ok (.aload_n 1, 1) := by decide +kernel
theorem d_Rd_readInto_30 : decode prog_4_method_4_code 30 = .ok (.invokevirtual 36, 3) := by decide +kernel
theorem d_Rd_readInto_33 : decode prog_4_method_4_code 33 = .ok (.aload_n 0, 1) := by decide +kernel
theorem d_Rd_readInto_34 : decode prog_4_method_4_code 34 = .ok (.aload_n 1, 1) := by decide +kernel
theorem d_Rd_readInto_35 : decode prog_4_method_4_code 35 = .ok (.invokevirtual 40, 3) := by decide +kernel
theorem d_Rd_readInto_38 : decode prog_4_method_4_code 38 = .ok (.aload_n 0, 1) := by decide +kernel
theorem d_Rd_readInto_39 : decode prog_4_method_4_code 39 = .ok (.invokevirtual 43, 3) := by decide +kernel
theorem d_Rd_readInto_42 : decode prog_4_method_4_code 42 = .ok (.aload_n 0, 1) := by decide +kernel
theorem d_Rd_readInto_43 : decode prog_4_method_4_code 43 = .ok (.getfield 22, 3) := by decide +kernel
theorem d_Rd_readInto_46 : decode prog_4_method_4_code 46 = .ok (.aload_n 0, 1) := by decide +kernel
theorem d_Rd_readInto_47 : decode prog_4_method_4_code 47 = .ok (.getfield 9, 3) := by decide +kernel
theorem d_Rd_readInto_50 : decode prog_4_method_4_code 50 = .ok (.invokevirtual 46, 3) := by decide +kernel
theorem d_Rd_readInto_53 : decode prog_4_method_4_code 53 = .ok (.if_icmp .ge 13, 3) := by decide +kernel
theorem d_Rd_readInto_56 : decode prog_4_method_4_code 56 = .ok (.aload_n 0, 1) := by decide +kernel
theorem d_Rd_readInto_57 : decode prog_4_method_4_code 57 = .ok (.bipush 7, 2) := by decide +kernel
theorem d_Rd_readInto_59 : decode prog_4_method_4_code 59 = .ok (.aload_n 0, 1) := by decide +kernel
theorem d_Rd_readInto_60 : decode prog_4_method_4_code 60 = .ok (.getfield 22, 3) := by decide +kernel
theorem d_Rd_readInto_63 : decode prog_4_method_4_code 63 = .ok (.invokevirtual 52, 3) := by decide +kernel
theorem d_Rd_readInto_66 : decode prog_4_method_4_code 66 = .ok (.return_, 1) := by decide +kernel
theorem d_Walk_putGroup_0 : decode prog_5_method_16_code 0 = .ok (.iload_n 1, 1) := by decide +kernel
theorem d_Walk_putGroup_1 : decode prog_5_method_16_code 1 = .ok (.invokestatic 83, 3) := by decide +kernel
theorem d_Walk_putGroup_4 : decode prog_5_method_16_code 4 = .ok (.istore_n 3, 1) := by decide +kernel
theorem d_Walk_putGroup_5 : decode prog_5_method_16_code 5 = .ok (.aload_n 0, 1) := by decide +kernel
theorem d_Walk_putGroup_6 : decode prog_5_method_16_code 6 = .ok (.iload_n 2, 1) := by decide +kernel
theorem d_Walk_putGroup_7 : decode prog_5_method_16_code 7 = .ok (.iload_n 1, 1) := by decide +kernel
theorem d_Walk_putGroup_8 : decode prog_5_method_16_code 8 = .ok (.invokestatic 49, 3) := by decide +kernel
theorem d_Walk_putGroup_11 : decode prog_5_method_16_code 11 = .ok (.ifCond .eq 8, 3) := by decide +kernel
theorem d_Walk_putGroup_14 : decode prog_5_method_16_code 14 = .ok (.bipush 64, 2) := by decide +kernel
theorem d_Walk_putGroup_16 : decode prog_5_method_16_code 16 = .ok (.goto 4, 3) := by decide +kernel
theorem d_Walk_putGroup_19 : decode prog_5_method_16_code 19 = .ok (.iconst 0, 1) := by decide +kernel
theorem d_Walk_putGroup_20 : decode prog_5_method_16_code 20 = .ok (.iadd, 1) := by decide +kernel
theorem d_Walk_putGroup_21 : decode prog_5_method_16_code 21 = .ok (.iload_n 3, 1) := by decide +kernel
theorem d_Walk_putGroup_22 : decode prog_5_method_16_code 22 = .ok (.ifCond .eq 9, 3) := by decide +kernel
theorem d_Walk_putGroup_25 : decode prog_5_method_16_code 25 = .ok (.sipush 128, 3) := by decide +kernel
theorem d_Walk_putGroup_28 : decode prog_5_method_16_code 28 = .ok (.goto 4, 3) := by decide +kernel
theorem d_Walk_putGroup_31 : decode prog_5_method_16_code 31 = .ok (.iconst 0, 1) := by decide +kernel
theorem d_Walk_putGroup_32 : decode prog_5_method_16_code 32 = .ok (.iadd, 1) := by decide +kernel
theorem d_Walk_putGroup_33 : decode prog_5_method_16_code 33 = .ok (.i2l, 1) := by decide +kernel
theorem d_Walk_putGroup_34 : decode prog_5_method_16_code 34 = .ok (.iconst 1, 1) := by decide +kernel
theorem d_Walk_putGroup_35 : decode prog_5_method_16_code 35 = .ok (.invokevirtual 62, 3) := by decide +kernel
theorem d_Walk_putGroup_38 : decode prog_5_method_16_code 38 = .ok (.aload_n 0, 1) := by decide +kernel
theorem d_Walk_putGroup_39 : decode prog_5_method_16_code 39 = .ok (.iload_n 1, 1) := by decide +kernel
theorem d_Walk_putGroup_40 : decode prog_5_method_16_code 40 = .ok (.invokestatic 86, 3) := by decide +kernel
theorem d_Walk_putGroup_43 : decode prog_5_method_16_code 43 = .ok (.i2l, 1) := by decide +kernel
theorem d_Walk_putGroup_44 : decode prog_5_method_16_code 44 = .ok (.iconst 1, 1) := by decide +kernel
theorem d_Walk_putGroup_45 : decode prog_5_method_16_code 45 = .ok (.invokevirtual 62, 3) := by decide +kernel
theorem d_Walk_putGroup_48 : decode prog_5_method_16_code 48 = .ok (.iload_n 3, 1) := by decide +kernel
theorem d_Walk_putGroup_49 : decode prog_5_method_16_code 49 = .ok (.ifCond .eq 23, 3) := by decide +kernel
theorem d_Walk_putGroup_52 : decode prog_5_method_16_code 52 = .ok (.aload_n 0, 1) := by decide +kernel
theorem d_Walk_putGroup_53 : decode prog_5_method_16_code 53 = .ok (.iload_n 1, 1) := by decide +kernel
theorem d_Walk_putGroup_54 : decode prog_5_method_16_code 54 = .ok (.invokestatic 89, 3) := by decide +kernel
theorem d_Walk_putGroup_57 : decode prog_5_method_16_code 57 = .ok (.i2l, 1) := by decide +kernel
theorem d_Walk_putGroup_58 : decode prog_5_method_16_code 58 = .ok (.iconst 1, 1) := by decide +kernel
theorem d_Walk_putGroup_59 : decode prog_5_method_16_code 59 = .ok (.invokevirtual 62, 3) := by decide +kernel
theorem d_Walk_putGroup_62 : decode prog_5_method_16_code 62 = .ok (.aload_n 0, 1) := by decide +kernel
theorem d_Walk_putGroup_63 : decode prog_5_method_16_code 63 = .ok (.iload_n 1, 1) := by decide +kernel
theorem d_Walk_putGroup_64 : decode prog_5_method_16_code 64 = .ok (.invokestatic 92, 3) := by decide +kernel
theorem d_Walk_putGroup_67 : decode prog_5_method_16_code 67 = .ok (.i2l, 1) := by decide +kernel
theorem d_Walk_putGroup_68 : decode prog_5_method_16_code 68 = .ok (.iconst 1, 1) := by decide +kernel
theorem d_Walk_putGroup_69 : decode prog_5_method_16_code 69 = .ok (.invokevirtual 62, 3) := by decide +kernel
theorem d_Walk_putGroup_72 : decode prog_5_method_16_code 72 = .ok (.return_, 1) := by decide +kernel
theorem d_Walk_putGroups_0 : decode prog_5_method_15_code 0 = .ok (.iconst 0, 1) := by decide +kernel
theorem d_Walk_putGroups_1 : decode prog_5_method_15_code 1 = .ok (.istore_n 2, 1) := by decide +kernel
theorem d_Walk_putGroups_2 : decode prog_5_method_15_code 2 = .ok (.iconst 0, 1) := by decide +kernel
theorem d_Walk_putGroups_3 : decode prog_5_method_15_code 3 = .ok (.istore_n 3, 1) := by decide +kernel
theorem d_Walk_putGroups_4 : decode prog_5_method_15_code 4 = .ok (.iload_n 3, 1) := by decide +kernel
theorem d_Walk_putGroups_5 : decode prog_5_method_15_code 5 = .ok (.aload_n 0, 1) := by decide +kernel
theorem d_Walk_putGroups_6 : decode prog_5_method_15_code 6 = .ok (.getfield 15, 3) := by decide +kernel
theorem d_Walk_putGroups_9 : decode prog_5_method_15_code 9 = .ok (.if_icmp .ge 33, 3) := by decide +kernel
theorem d_Walk_putGroups_12 : decode prog_5_method_15_code 12 = .ok (.iinc 2 1, 3) := by decide +kernel
theorem d_Walk_putGroups_15 : decode prog_5_method_15_code 15 = .ok (.aload_n 0, 1) := by decide +kernel
theorem d_Walk_putGroups_16 : decode prog_5_method_15_code 16 = .ok (.iload_n 3, 1) := by decide +kernel
theorem d_Walk_putGroups_17 : decode prog_5_method_15_code 17 = .ok (.iload_n 2, 1) := by decide +kernel
theorem d_Walk_putGroups_18 : decode prog_5_method_15_code 18 = .ok (.invokevirtual 55, 3) := by decide +kernel
theorem d_Walk_putGroups_21 : decode prog_5_method_15_code 21 = .ok (.ifCond .eq 15, 3) := by decide +kernel
theorem d_Walk_putGroups_24 : decode prog_5_method_15_code 24 = .ok (.aload_n 1, 1) := by decide +kernel
theorem d_Walk_putGroups_25 : decode prog_5_method_15_code 25 = .ok (.aload_n 0, 1) := by decide +kernel
theorem d_Walk_putGroups_26 : decode prog_5_method_15_code 26 = .ok (.iload_n 3, 1) := by decide +kernel
theorem d_Walk_putGroups_27 : decode prog_5_method_15_code 27 = .ok (.invokevirtual 38, 3) := by decide +kernel
theorem d_Walk_putGroups_30 : decode prog_5_method_15_code 30 = .ok (.iload_n 2, 1) := by decide +kernel
theorem d_Walk_putGroups_31 : decode prog_5_method_15_code 31 = .ok (.invokestatic 79, 3) := by decide +kernel
theorem d_Walk_putGroups_34 : decode prog_5_method_15_code 34 = .ok (.iconst 0, 1) := by decide +kernel
theorem d_Walk_putGroups_35 : decode prog_5_method_15_code 35 = .ok (.istore_n 2, 1) := by decide +kernel
theorem d_Walk_putGroups_36 : decode prog_5_method_15_code 36 = .ok (.iinc 3 1, 3) := by decide +kernel
theorem d_Walk_putGroups_39 : decode prog_5_method_15_code 39 = .ok (.goto (-35), 3) := by decide +kernel
theorem d_Walk_putGroups_42 : decode prog_5_method_15_code 42 = .ok (.return_, 1) := by decide +kernel
theorem d_Walk_putInto_0 : decode prog_5_method_14_code 0 = .ok (.iconst 0, 1) := by decide +kernel
theorem d_Walk_putInto_1 : decode prog_5_method_14_code 1 = .ok (.istore_n 2, 1) := by decide +kernel
theorem d_Walk_putInto_2 : decode prog_5_method_14_code 2 = .ok (.iload_n 2, 1) := by decide +kernel
theorem d_Walk_putInto_3 : decode prog_5_method_14_code 3 = .ok (.getstatic 59, 3) := by decide +kernel
theorem d_Walk_putInto_6 : decode prog_5_method_14_code 6 = .ok (.arraylength, 1) := by decide +kernel
theorem d_Walk_putInto_7 : decode prog_5_method_14_code 7 = .ok (.if_icmp .ge 20, 3) := by decide +kernel
theorem d_Walk_putInto_10 : decode prog_5_method_14_code 10 = .ok (.aload_n 1, 1) := by decide +kernel
theorem d_Walk_putInto_11 : decode prog_5_method_14_code 11 = .ok (.getstatic 59, 3) := by decide +kernel
theorem d_Walk_putInto_14 : decode prog_5_method_14_code 14 = .ok (.iload_n 2, 1) := by decide +kernel
theorem d_Walk_putInto_15 : decode prog_5_method_14_code 15 = .ok (.iaload, 1) := by decide +kernel
theorem d_Walk_putInto_16 : decode prog_5_method_14_code 16 = .ok (.i2l, 1) := by decide +kernel
theorem d_Walk_putInto_17 : decode prog_5_method_14_code 17 = .ok (.iconst 1, 1) := by decide +kernel
theorem d_Walk_putInto_18 : decode prog_5_method_14_code 18 = .ok (.invokevirtual 62, 3) := by decide +kernel
theorem d_Walk_putInto_21 : decode prog_5_method_14_code 21 = .ok (.iinc 2 1, 3) := by decide +kernel
theorem d_Walk_putInto_24 : decode prog_5_method_14_code 24 = .ok (.goto (-22), 3) := by decide +kernel
theorem d_Walk_putInto_27 : decode prog_5_method_14_code 27 = .ok (.aload_n 1, 1) := by decide +kernel
theorem d_Walk_putInto_28 : decode prog_5_method_14_code 28 = .ok (.aload_n 0, 1) := by decide +kernel
theorem d_Walk_putInto_29 : decode prog_5_method_14_code 29 = .ok (.getfield 19, 3) := by decide +kernel
theorem d_Walk_putInto_32 : decode prog_5_method_14_code 32 = .ok (.i2l, 1) := by decide +kernel
theorem d_Walk_putInto_33 : decode prog_5_method_14_code 33 = .ok (.iconst 2, 1) := by decide +kernel
theorem d_Walk_putInto_34 : decode prog_5_method_14_code 34 = .ok (.invokevirtual 62, 3) := by decide +kernel
theorem d_Walk_putInto_37 : decode prog_5_method_14_code 37 = .ok (.aload_n 1, 1) := by decide +kernel
theorem d_Walk_putInto_38 : decode prog_5_method_14_code 38 = .ok (.aload_n 0, 1) := by decide +kernel
theorem d_Walk_putInto_39 : decode prog_5_method_14_code 39 = .ok (.getfield 22, 3) := by decide +kernel
theorem d_Walk_putInto_42 : decode prog_5_method_14_code 42 = .ok (.i2l, 1) := by decide +kernel
theorem d_Walk_putInto_43 : decode prog_5_method_14_code 43 = .ok (.iconst 2, 1) := by decide +kernel
theorem d_Walk_putInto_44 : decode prog_5_method_14_code 44 = .ok (.invokevirtual 62, 3) := by decide +kernel
theorem d_Walk_putInto_47 : decode prog_5_method_14_code 47 = .ok (.aload_n 1, 1) := by decide +kernel
theorem d_Walk_putInto_48 : decode prog_5_method_14_code 48 = .ok (.aload_n 0, 1) := by decide +kernel
theorem d_Walk_putInto_49 : decode prog_5_method_14_code 49 = .ok (.getfield 25, 3) := by decide +kernel
theorem d_Walk_putInto_52 : decode prog_5_method_14_code 52 = .ok (.i2l, 1) := by decide +kernel
theorem d_Walk_putInto_53 : decode prog_5_method_14_code 53 = .ok (.iconst 1, 1) := by decide +kernel
theorem d_Walk_putInto_54 : decode prog_5_method_14_code 54 = .ok (.invokevirtual 62, 3) := by decide +kernel
theorem d_Walk_putInto_57 : decode prog_5_method_14_code 57 = .ok (.aload_n 1, 1) := by decide +kernel
theorem d_Walk_putInto_58 : decode prog_5_method_14_code 58 = .ok (.aload_n 0, 1) := by decide +kernel
theorem d_Walk_putInto_59 : decode prog_5_method_14_code 59 = .ok (.getfield 28, 3) := by decide +kernel
theorem d_Walk_putInto_62 : decode prog_5_method_14_code 62 = .ok (.i2l, 1) := by decide +kernel
theorem d_Walk_putInto_63 : decode prog_5_method_14_code 63 = .ok (.iconst 1, 1) := by decide +kernel
theorem d_Walk_putInto_64 : decode prog_5_method_14_code 64 = .ok (.invokevirtual 62, 3) := by decide +kernel
theorem d_Walk_putInto_67 : decode prog_5_method_14_code 67 = .ok (.aload_n 0, 1) := by decide +kernel
theorem d_Walk_putInto_68 : decode prog_5_method_14_code 68 = .ok (.aload_n 1, 1) := by decide +kernel
theorem d_Walk_putInto_69 : decode prog_5_method_14_code 69 = .ok (.invokevirtual 68, 3) := by decide +kernel
end
section
theorem d_Walk_putInto_72 : decode prog_5_method_14_code 72 = .ok (.aload_n 1, 1) := by decide +kernel
theorem d_Walk_putInto_73 : decode prog_5_method_14_code 73 = .ok (.lconst 0, 1) := by decide +kernel
theorem d_Walk_putInto_74 : decode prog_5_method_14_code 74 = .ok (.iconst 1, 1) := by decide +kernel
theorem d_Walk_putInto_75 : decode prog_5_method_14_code 75 = .ok (.invokevirtual 62, 3) := by decide +kernel
theorem d_Walk_putInto_78 : decode prog_5_method_14_code 78 = .ok (.aload_n 1, 1) := by decide +kernel
theorem d_Walk_putInto_79 : decode prog_5_method_14_code 79 = .ok (.aload_n 1, 1) := by decide +kernel
theorem d_Walk_putInto_80 : decode prog_5_method_14_code 80 = .ok (.aload_n 1, 1) := by decide +kernel
theorem d_Walk_putInto_81 : decode prog_5_method_14_code 81 = .ok (.invokevirtual 72, 3) := by decide +kernel
theorem d_Walk_putInto_84 : decode prog_5_method_14_code 84 = .ok (.invokevirtual 76, 3) := by decide +kernel
theorem d_Walk_putInto_87 : decode prog_5_method_14_code 87 = .ok (.i2l, 1) := by decide +kernel
theorem d_Walk_putInto_88 : decode prog_5_method_14_code 88 = .ok (.iconst 4, 1) := by decide +kernel
theorem d_Walk_putInto_89 : decode prog_5_method_14_code 89 = .ok (.invokevirtual 62, 3) := by decide +kernel
theorem d_Walk_putInto_92 : decode prog_5_method_14_code 92 = .ok (.return_, 1) := by decide +kernel
theorem d_Walk_init_0 : decode prog_5_method_1_code 0 = .ok (.aload_n 0, 1) := by decide +kernel
theorem d_Walk_init_1 : decode prog_5_method_1_code 1 = .ok (.invokespecial 3, 3) := by decide +kernel
theorem d_Walk_init_4 : decode prog_5_method_1_code 4 = .ok (.aload_n 0, 1) := by decide +kernel
theorem d_Walk_init_5 : decode prog_5_method_1_code 5 = .ok (.sipush 1024, 3) := by decide +kernel
theorem d_Walk_init_8 : decode prog_5_method_1_code 8 = .ok (.newarray .int, 2) := by decide +kernel
theorem d_Walk_init_10 : decode prog_5_method_1_code 10 = .ok (.putfield 9, 3) := by decide +kernel
theorem d_Walk_init_13 : decode prog_5_method_1_code 13 = .ok (.return_, 1) := by decide +kernel
theorem d_Row_init_0 : decode prog_2_method_1_code 0 = .ok (.aload_n 0, 1) := by decide +kernel
theorem d_Row_init_1 : decode prog_2_method_1_code 1 = .ok (.invokespecial 3, 3) := by decide +kernel
theorem d_Row_init_4 : decode prog_2_method_1_code 4 = .ok (.aload_n 0, 1) := by decide +kernel
theorem d_Row_init_5 : decode prog_2_method_1_code 5 = .ok (.iload_n 1, 1) := by decide +kernel
theorem d_Row_init_6 : decode prog_2_method_1_code 6 = .ok (.iconst 0, 1) := by decide +kernel
theorem d_Row_init_7 : decode prog_2_method_1_code 7 = .ok (.invokestatic 9, 3) := by decide +kernel
theorem d_Row_init_10 : decode prog_2_method_1_code 10 = .ok (.newarray .byte, 2) := by decide +kernel
theorem d_Row_init_12 : decode prog_2_method_1_code 12 = .ok (.putfield 15, 3) := by decide +kernel
theorem d_Row_init_15 : decode prog_2_method_1_code 15 = .ok (.return_, 1) := by decide +kernel
theorem d_Rd_init_0 : decode prog_4_method_1_code 0 = .ok (.aload_n 0, 1) := by decide +kernel
theorem d_Rd_init_1 : decode prog_4_method_1_code 1 = .ok (.invokespecial 3, 3) := by decide +kernel
theorem d_Rd_init_4 : decode prog_4_method_1_code 4 = .ok (.aload_n 0, 1) := by decide +kernel
theorem d_Rd_init_5 : decode prog_4_method_1_code 5 = .ok (.aload_n 1, 1) := by decide +kernel
theorem d_Rd_init_6 : decode prog_4_method_1_code 6 = .ok (.putfield 9, 3) := by decide +kernel
theorem d_Rd_init_9 : decode prog_4_method_1_code 9 = .ok (.aload_n 0, 1) := by decide +kernel
theorem d_Rd_init_10 : decode prog_4_method_1_code 10 = .ok (.iconst 0, 1) := by decide +kernel
theorem d_Rd_init_11 : decode prog_4_method_1_code 11 = .ok (.putfield 15, 3) := by decide +kernel
theorem d_Rd_init_14 : decode prog_4_method_1_code 14 = .ok (.aload_n 0, 1) := by decide +kernel
theorem d_Rd_init_15 : decode prog_4_method_1_code 15 = .ok (.iconst (-1), 1) := by decide +kernel
theorem d_Rd_init_16 : decode prog_4_method_1_code 16 = .ok (.putfield 19, 3) := by decide +kernel
theorem d_Rd_init_19 : decode prog_4_method_1_code 19 = .ok (.return_, 1) := by decide +kernel
theorem d_Tape_start_0 : decode prog_1_method_2_code 0 = .ok (.iload_n 1, 1) := by decide +kernel
theorem d_Tape_start_1 : decode prog_1_method_2_code 1 = .ok (.sipush (-32768), 3) := by decide +kernel
theorem d_Tape_start_4 : decode prog_1_method_2_code 4 = .ok (.sipush 32767, 3) := by decide +kernel
theorem d_Tape_start_7 : decode prog_1_method_2_code 7 = .ok (.invokestatic 40, 3) := by decide +kernel
theorem d_Tape_start_10 : decode prog_1_method_2_code 10 = .ok (.ifCond .eq 38, 3) := by decide +kernel
theorem d_Tape_start_13 : decode prog_1_method_2_code 13 = .ok (.iload_n 2, 1) := by decide +kernel
theorem d_Tape_start_14 : decode prog_1_method_2_code 14 = .ok (.sipush (-32768), 3) := by decide +kernel
theorem d_Tape_start_17 : decode prog_1_method_2_code 17 = .ok (.sipush 32767, 3) := by decide +kernel
theorem d_Tape_start_20 : decode prog_1_method_2_code 20 = .ok (.invokestatic 40, 3) := by decide +kernel
theorem d_Tape_start_23 : decode prog_1_method_2_code 23 = .ok (.ifCond .eq 25, 3) := by decide +kernel
theorem d_Tape_start_26 : decode prog_1_method_2_code 26 = .ok (.iload_n 3, 1) := by decide +kernel
theorem d_Tape_start_27 : decode prog_1_method_2_code 27 = .ok (.iconst 0, 1) := by decide +kernel
theorem d_Tape_start_28 : decode prog_1_method_2_code 28 = .ok (.bipush 63, 2) := by decide +kernel
theorem d_Tape_start_30 : decode prog_1_method_2_code 30 = .ok (.invokestatic 40, 3) := by decide +kernel
theorem d_Tape_start_33 : decode prog_1_method_2_code 33 = .ok (.ifCond .eq 15, 3) := by decide +kernel
theorem d_Tape_start_36 : decode prog_1_method_2_code 36 = .ok (.iload 4, 2) := by decide +kernel
theorem d_Tape_start_38 : decode prog_1_method_2_code 38 = .ok (.iconst 0, 1) := by decide +kernel
theorem d_Tape_start_39 : decode prog_1_method_2_code 39 = .ok (.sipush 255, 3) := by decide +kernel
theorem d_Tape_start_42 : decode prog_1_method_2_code 42 = .ok (.invokestatic 40, 3) := by decide +kernel
theorem d_Tape_start_45 : decode prog_1_method_2_code 45 = .ok (.ifCond .ne 5, 3) := by decide +kernel
theorem d_Tape_start_48 : decode prog_1_method_2_code 48 = .ok (.iconst 0, 1) := by decide +kernel
theorem d_Tape_start_49 : decode prog_1_method_2_code 49 = .ok (.ireturn, 1) := by decide +kernel
theorem d_Tape_start_50 : decode prog_1_method_2_code 50 = .ok (.aload_n 0, 1) := by decide +kernel
theorem d_Tape_start_51 : decode prog_1_method_2_code 51 = .ok (.getfield 12, 3) := by decide +kernel
theorem d_Tape_start_54 : decode prog_1_method_2_code 54 = .ok (.iload_n 1, 1) := by decide +kernel
theorem d_Tape_start_55 : decode prog_1_method_2_code 55 = .ok (.iload_n 2, 1) := by decide +kernel
theorem d_Tape_start_56 : decode prog_1_method_2_code 56 = .ok (.iload_n 3, 1) := by decide +kernel
theorem d_Tape_start_57 : decode prog_1_method_2_code 57 = .ok (.iload 4, 2) := by decide +kernel
theorem d_Tape_start_59 : decode prog_1_method_2_code 59 = .ok (.invokevirtual 44, 3) := by decide +kernel
theorem d_Tape_start_62 : decode prog_1_method_2_code 62 = .ok (.iconst 1, 1) := by decide +kernel
theorem d_Tape_start_63 : decode prog_1_method_2_code 63 = .ok (.ireturn, 1) := by decide +kernel
theorem d_Tape_record_0 : decode prog_1_method_3_code 0 = .ok (.iload_n 1, 1) := by decide +kernel
theorem d_Tape_record_1 : decode prog_1_method_3_code 1 = .ok (.bipush (-64), 2) := by decide +kernel
theorem d_Tape_record_3 : decode prog_1_method_3_code 3 = .ok (.bipush 64, 2) := by decide +kernel
theorem d_Tape_record_5 : decode prog_1_method_3_code 5 = .ok (.invokestatic 40, 3) := by decide +kernel
theorem d_Tape_record_8 : decode prog_1_method_3_code 8 = .ok (.ifCond .eq 41, 3) := by decide +kernel
theorem d_Tape_record_11 : decode prog_1_method_3_code 11 = .ok (.iload_n 2, 1) := by decide +kernel
theorem d_Tape_record_12 : decode prog_1_method_3_code 12 = .ok (.bipush (-64), 2) := by decide +kernel
theorem d_Tape_record_14 : decode prog_1_method_3_code 14 = .ok (.bipush 64, 2) := by decide +kernel
theorem d_Tape_record_16 : decode prog_1_method_3_code 16 = .ok (.invokestatic 40, 3) := by decide +kernel
theorem d_Tape_record_19 : decode prog_1_method_3_code 19 = .ok (.ifCond .eq 30, 3) := by decide +kernel
theorem d_Tape_record_22 : decode prog_1_method_3_code 22 = .ok (.iload_n 3, 1) := by decide +kernel
theorem d_Tape_record_23 : decode prog_1_method_3_code 23 = .ok (.bipush (-16), 2) := by decide +kernel
theorem d_Tape_record_25 : decode prog_1_method_3_code 25 = .ok (.bipush 16, 2) := by decide +kernel
theorem d_Tape_record_27 : decode prog_1_method_3_code 27 = .ok (.invokestatic 40, 3) := by decide +kernel
theorem d_Tape_record_30 : decode prog_1_method_3_code 30 = .ok (.ifCond .eq 19, 3) := by decide +kernel
theorem d_Tape_record_33 : decode prog_1_method_3_code 33 = .ok (.iload 5, 2) := by decide +kernel
theorem d_Tape_record_35 : decode prog_1_method_3_code 35 = .ok (.iconst 1, 1) := by decide +kernel
theorem d_Tape_record_36 : decode prog_1_method_3_code 36 = .ok (.aload_n 0, 1) := by decide +kernel
theorem d_Tape_record_37 : decode prog_1_method_3_code 37 = .ok (.getfield 12, 3) := by decide +kernel
theorem d_Tape_record_40 : decode prog_1_method_3_code 40 = .ok (.invokevirtual 48, 3) := by decide +kernel
theorem d_Tape_record_43 : decode prog_1_method_3_code 43 = .ok (.invokestatic 40, 3) := by decide +kernel
theorem d_Tape_record_46 : decode prog_1_method_3_code 46 = .ok (.ifCond .ne 5, 3) := by decide +kernel
theorem d_Tape_record_49 : decode prog_1_method_3_code 49 = .ok (.iconst (-1), 1) := by decide +kernel
theorem d_Tape_record_50 : decode prog_1_method_3_code 50 = .ok (.ireturn, 1) := by decide +kernel
theorem d_Tape_record_51 : decode prog_1_method_3_code 51 = .ok (.aload_n 0, 1) := by decide +kernel
theorem d_Tape_record_52 : decode prog_1_method_3_code 52 = .ok (.getfield 12, 3) := by decide +kernel
theorem d_Tape_record_55 : decode prog_1_method_3_code 55 = .ok (.iload 4, 2) := by decide +kernel
theorem d_Tape_record_57 : decode prog_1_method_3_code 57 = .ok (.iload_n 1, 1) := by decide +kernel
theorem d_Tape_record_58 : decode prog_1_method_3_code 58 = .ok (.bipush 64, 2) := by decide +kernel
theorem d_Tape_record_60 : decode prog_1_method_3_code 60 = .ok (.iadd, 1) := by decide +kernel
theorem d_Tape_record_61 : decode prog_1_method_3_code 61 = .ok (.iload_n 2, 1) := by decide +kernel
theorem d_Tape_record_62 : decode prog_1_method_3_code 62 = .ok (.bipush 64, 2) := by decide +kernel
theorem d_Tape_record_64 : decode prog_1_method_3_code 64 = .ok (.iadd, 1) := by decide +kernel
theorem d_Tape_record_65 : decode prog_1_method_3_code 65 = .ok (.iload_n 3, 1) := by decide +kernel
theorem d_Tape_record_66 : decode prog_1_method_3_code 66 = .ok (.bipush 16, 2) := by decide +kernel
theorem d_Tape_record_68 : decode prog_1_method_3_code 68 = .ok (.iadd, 1) := by decide +kernel
theorem d_Tape_record_69 : decode prog_1_method_3_code 69 = .ok (.invokestatic 52, 3) := by decide +kernel
theorem d_Tape_record_72 : decode prog_1_method_3_code 72 = .ok (.iload 5, 2) := by decide +kernel
theorem d_Tape_record_74 : decode prog_1_method_3_code 74 = .ok (.invokevirtual 58, 3) := by decide +kernel
theorem d_Tape_record_77 : decode prog_1_method_3_code 77 = .ok (.aload_n 0, 1) := by decide +kernel
theorem d_Tape_record_78 : decode prog_1_method_3_code 78 = .ok (.getfield 12, 3) := by decide +kernel
theorem d_Tape_record_81 : decode prog_1_method_3_code 81 = .ok (.invokevirtual 62, 3) := by decide +kernel
theorem d_Tape_record_84 : decode prog_1_method_3_code 84 = .ok (.ireturn, 1) := by decide +kernel
theorem d_Tape_undo_0 : decode prog_1_method_4_code 0 = .ok (.iload_n 1, 1) := by decide +kernel
theorem d_Tape_undo_1 : decode prog_1_method_4_code 1 = .ok (.iconst 0, 1) := by decide +kernel
theorem d_Tape_undo_2 : decode prog_1_method_4_code 2 = .ok (.aload_n 0, 1) := by decide +kernel
theorem d_Tape_undo_3 : decode prog_1_method_4_code 3 = .ok (.getfield 12, 3) := by decide +kernel
theorem d_Tape_undo_6 : decode prog_1_method_4_code 6 = .ok (.invokevirtual 62, 3) := by decide +kernel
theorem d_Tape_undo_9 : decode prog_1_method_4_code 9 = .ok (.invokestatic 40, 3) := by decide +kernel
theorem d_Tape_undo_12 : decode prog_1_method_4_code 12 = .ok (.ifCond .ne 5, 3) := by decide +kernel
theorem d_Tape_undo_15 : decode prog_1_method_4_code 15 = .ok (.iconst 0, 1) := by decide +kernel
theorem d_Tape_undo_16 : decode prog_1_method_4_code 16 = .ok (.ireturn, 1) := by decide +kernel
theorem d_Tape_undo_17 : decode prog_1_method_4_code 17 = .ok (.aload_n 0, 1) := by decide +kernel
theorem d_Tape_undo_18 : decode prog_1_method_4_code 18 = .ok (.getfield 12, 3) := by decide +kernel
theorem d_Tape_undo_21 : decode prog_1_method_4_code 21 = .ok (.iload_n 1, 1) := by decide +kernel
theorem d_Tape_undo_22 : decode prog_1_method_4_code 22 = .ok (.invokevirtual 65, 3) := by decide +kernel
theorem d_Tape_undo_25 : decode prog_1_method_4_code 25 = .ok (.iconst 1, 1) := by decide +kernel
theorem d_Tape_undo_26 : decode prog_1_method_4_code 26 = .ok (.ireturn, 1) := by decide +kernel
theorem d_Tape_again_0 : decode prog_1_method_5_code 0 = .ok (.iload_n 1, 1) := by decide +kernel
theorem d_Tape_again_1 : decode prog_1_method_5_code 1 = .ok (.iconst 0, 1) := by decide +kernel
theorem d_Tape_again_2 : decode prog_1_method_5_code 2 = .ok (.aload_n 0, 1) := by decide +kernel
theorem d_Tape_again_3 : decode prog_1_method_5_code 3 = .ok (.getfield 12, 3) := by decide +kernel
theorem d_Tape_again_6 : decode prog_1_method_5_code 6 = .ok (.invokevirtual 62, 3) := by decide +kernel
theorem d_Tape_again_9 : decode prog_1_method_5_code 9 = .ok (.iconst 1, 1) := by decide +kernel
theorem d_Tape_again_10 : decode prog_1_method_5_code 10 = .ok (.isub, 1) := by decide +kernel
theorem d_Tape_again_11 : decode prog_1_method_5_code 11 = .ok (.invokestatic 40, 3) := by decide +kernel
theorem d_Tape_again_14 : decode prog_1_method_5_code 14 = .ok (.ifCond .eq 31, 3) := by decide +kernel
theorem d_Tape_again_17 : decode prog_1_method_5_code 17 = .ok (.iload_n 2, 1) := by decide +kernel
theorem d_Tape_again_18 : decode prog_1_method_5_code 18 = .ok (.iconst 1, 1) := by decide +kernel
theorem d_Tape_again_19 : decode prog_1_method_5_code 19 = .ok (.aload_n 0, 1) := by decide +kernel
theorem d_Tape_again_20 : decode prog_1_method_5_code 20 = .ok (.getfield 12, 3) := by decide +kernel
theorem d_Tape_again_23 : decode prog_1_method_5_code 23 = .ok (.invokevirtual 62, 3) := by decide +kernel
theorem d_Tape_again_26 : decode prog_1_method_5_code 26 = .ok (.iload_n 1, 1) := by decide +kernel
theorem d_Tape_again_27 : decode prog_1_method_5_code 27 = .ok (.isub, 1) := by decide +kernel
theorem d_Tape_again_28 : decode prog_1_method_5_code 28 = .ok (.invokestatic 40, 3) := by decide +kernel
theorem d_Tape_again_31 : decode prog_1_method_5_code 31 = .ok (.ifCond .eq 14, 3) := by decide +kernel
theorem d_Tape_again_34 : decode prog_1_method_5_code 34 = .ok (.iload_n 2, 1) := by decide +kernel
theorem d_Tape_again_35 : decode prog_1_method_5_code 35 = .ok (.aload_n 0, 1) := by decide +kernel
theorem d_Tape_again_36 : decode prog_1_method_5_code 36 = .ok (.getfield 12, 3) := by decide +kernel
theorem d_Tape_again_39 : decode prog_1_method_5_code 39 = .ok (.invokevirtual 48, 3) := by decide +kernel
theorem d_Tape_again_42 : decode prog_1_method_5_code 42 = .ok (.if_icmp .le 5, 3) := by decide +kernel
theorem d_Tape_again_45 : decode prog_1_method_5_code 45 = .ok (.iconst (-1), 1) := by decide +kernel
theorem d_Tape_again_46 : decode prog_1_method_5_code 46 = .ok (.ireturn, 1) := by decide +kernel
theorem d_Tape_again_47 : decode prog_1_method_5_code 47 = .ok (.aload_n 0, 1) := by decide +kernel
theorem d_Tape_again_48 : decode prog_1_method_5_code 48 = .ok (.getfield 12, 3) := by decide +kernel
theorem d_Tape_again_51 : decode prog_1_method_5_code 51 = .ok (.iload_n 1, 1) := by decide +kernel
theorem d_Tape_again_52 : decode prog_1_method_5_code 52 = .ok (.iload_n 2, 1) := by decide +kernel
theorem d_Tape_again_53 : decode prog_1_method_5_code 53 = .ok (.invokevirtual 68, 3) := by decide +kernel
theorem d_Tape_again_56 : decode prog_1_method_5_code 56 = .ok (.aload_n 0, 1) := by decide +kernel
theorem d_Tape_again_57 : decode prog_1_method_5_code 57 = .ok (.getfield 12, 3) := by decide +kernel
theorem d_Tape_again_60 : decode prog_1_method_5_code 60 = .ok (.invokevirtual 62, 3) := by decide +kernel
theorem d_Tape_again_63 : decode prog_1_method_5_code 63 = .ok (.ireturn, 1) := by decide +kernel
theorem d_Tape_write_0 : decode prog_1_method_6_code 0 = .ok (.aload_n 0, 1) := by decide +kernel
theorem d_Tape_write_1 : decode prog_1_method_6_code 1 = .ok (.getfield 24, 3) := by decide +kernel
theorem d_Tape_write_4 : decode prog_1_method_6_code 4 = .ok (.iconst 0, 1) := by decide +kernel
theorem d_Tape_write_5 : decode prog_1_method_6_code 5 = .ok (.invokevirtual 71, 3) := by decide +kernel
theorem d_Tape_write_8 : decode prog_1_method_6_code 8 = .ok (.aload_n 0, 1) := by decide +kernel
theorem d_Tape_write_9 : decode prog_1_method_6_code 9 = .ok (.getfield 12, 3) := by decide +kernel
theorem d_Tape_write_12 : decode prog_1_method_6_code 12 = .ok (.aload_n 0, 1) := by decide +kernel
theorem d_Tape_write_13 : decode prog_1_method_6_code 13 = .ok (.getfield 24, 3) := by decide +kernel
theorem d_Tape_write_16 : decode prog_1_method_6_code 16 = .ok (.invokevirtual 74, 3) := by decide +kernel
theorem d_Tape_write_19 : decode prog_1_method_6_code 19 = .ok (.aload_n 0, 1) := by decide +kernel
theorem d_Tape_write_20 : decode prog_1_method_6_code 20 = .ok (.getfield 24, 3) := by decide +kernel
theorem d_Tape_write_23 : decode prog_1_method_6_code 23 = .ok (.invokevirtual 77, 3) := by decide +kernel
theorem d_Tape_write_26 : decode prog_1_method_6_code 26 = .ok (.ireturn, 1) := by decide +kernel
theorem d_Tape_give_0 : decode prog_1_method_7_code 0 = .ok (.iload_n 3, 1) := by decide +kernel
theorem d_Tape_give_1 : decode prog_1_method_7_code 1 = .ok (.iconst 1, 1) := by decide +kernel
theorem d_Tape_give_2 : decode prog_1_method_7_code 2 = .ok (.bipush 8, 2) := by decide +kernel
theorem d_Tape_give_4 : decode prog_1_method_7_code 4 = .ok (.invokestatic 40, 3) := by decide +kernel
theorem d_Tape_give_7 : decode prog_1_method_7_code 7 = .ok (.ifCond .eq 14, 3) := by decide +kernel
theorem d_Tape_give_10 : decode prog_1_method_7_code 10 = .ok (.iload_n 3, 1) := by decide +kernel
theorem d_Tape_give_11 : decode prog_1_method_7_code 11 = .ok (.aload_n 0, 1) := by decide +kernel
theorem d_Tape_give_12 : decode prog_1_method_7_code 12 = .ok (.getfield 28, 3) := by decide +kernel
theorem d_Tape_give_15 : decode prog_1_method_7_code 15 = .ok (.invokevirtual 80, 3) := by decide +kernel
theorem d_Tape_give_18 : decode prog_1_method_7_code 18 = .ok (.if_icmp .le 5, 3) := by decide +kernel
theorem d_Tape_give_21 : decode prog_1_method_7_code 21 = .ok (.iconst 0, 1) := by decide +kernel
theorem d_Tape_give_22 : decode prog_1_method_7_code 22 = .ok (.ireturn, 1) := by decide +kernel
theorem d_Tape_give_23 : decode prog_1_method_7_code 23 = .ok (.aload_n 0, 1) := by decide +kernel
theorem d_Tape_give_24 : decode prog_1_method_7_code 24 = .ok (.getfield 28, 3) := by decide +kernel
theorem d_Tape_give_27 : decode prog_1_method_7_code 27 = .ok (.lload_n 1, 1) := by decide +kernel
theorem d_Tape_give_28 : decode prog_1_method_7_code 28 = .ok (.iload_n 3, 1) := by decide +kernel
theorem d_Tape_give_29 : decode prog_1_method_7_code 29 = .ok (.invokevirtual 81, 3) := by decide +kernel
theorem d_Tape_give_32 : decode prog_1_method_7_code 32 = .ok (.iconst 1, 1) := by decide +kernel
theorem d_Tape_give_33 : decode prog_1_method_7_code 33 = .ok (.ireturn, 1) := by decide +kernel
theorem d_Tape_turnOver_0 : decode prog_1_method_8_code 0 = .ok (.aload_n 0, 1) := by decide +kernel
theorem d_Tape_turnOver_1 : decode prog_1_method_8_code 1 = .ok (.getfield 28, 3) := by decide +kernel
theorem d_Tape_turnOver_4 : decode prog_1_method_8_code 4 = .ok (.aload_n 0, 1) := by decide +kernel
theorem d_Tape_turnOver_5 : decode prog_1_method_8_code 5 = .ok (.getfield 24, 3) := by decide +kernel
theorem d_Tape_turnOver_8 : decode prog_1_method_8_code 8 = .ok (.invokevirtual 85, 3) := by decide +kernel
theorem d_Tape_turnOver_11 : decode prog_1_method_8_code 11 = .ok (.return_, 1) := by decide +kernel
theorem d_Tape_cut_0 : decode prog_1_method_9_code 0 = .ok (.iload_n 1, 1) := by decide +kernel
theorem d_Tape_cut_1 : decode prog_1_method_9_code 1 = .ok (.iconst 0, 1) := by decide +kernel
theorem d_Tape_cut_2 : decode prog_1_method_9_code 2 = .ok (.aload_n 0, 1) := by decide +kernel
theorem d_Tape_cut_3 : decode prog_1_method_9_code 3 = .ok (.getfield 28, 3) := by decide +kernel
theorem d_Tape_cut_6 : decode prog_1_method_9_code 6 = .ok (.invokevirtual 77, 3) := by decide +kernel
theorem d_Tape_cut_9 : decode prog_1_method_9_code 9 = .ok (.invokestatic 40, 3) := by decide +kernel
theorem d_Tape_cut_12 : decode prog_1_method_9_code 12 = .ok (.ifCond .ne 5, 3) := by decide +kernel
theorem d_Tape_cut_15 : decode prog_1_method_9_code 15 = .ok (.iconst 0, 1) := by decide +kernel
theorem d_Tape_cut_16 : decode prog_1_method_9_code 16 = .ok (.ireturn, 1) := by decide +kernel
theorem d_Tape_cut_17 : decode prog_1_method_9_code 17 = .ok (.aload_n 0, 1) := by decide +kernel
theorem d_Tape_cut_18 : decode prog_1_method_9_code 18 = .ok (.getfield 28, 3) := by decide +kernel
theorem d_Tape_cut_21 : decode prog_1_method_9_code 21 = .ok (.iload_n 1, 1) := by decide +kernel
theorem d_Tape_cut_22 : decode prog_1_method_9_code 22 = .ok (.invokevirtual 71, 3) := by decide +kernel
theorem d_Tape_cut_25 : decode prog_1_method_9_code 25 = .ok (.iconst 1, 1) := by decide +kernel
theorem d_Tape_cut_26 : decode prog_1_method_9_code 26 = .ok (.ireturn, 1) := by decide +kernel
theorem d_Tape_poke_0 : decode prog_1_method_10_code 0 = .ok (.iload_n 1, 1) := by decide +kernel
theorem d_Tape_poke_1 : decode prog_1_method_10_code 1 = .ok (.iconst 0, 1) := by decide +kernel
theorem d_Tape_poke_2 : decode prog_1_method_10_code 2 = .ok (.aload_n 0, 1) := by decide +kernel
theorem d_Tape_poke_3 : decode prog_1_method_10_code 3 = .ok (.getfield 28, 3) := by decide +kernel
theorem d_Tape_poke_6 : decode prog_1_method_10_code 6 = .ok (.invokevirtual 77, 3) := by decide +kernel
theorem d_Tape_poke_9 : decode prog_1_method_10_code 9 = .ok (.iconst 1, 1) := by decide +kernel
theorem d_Tape_poke_10 : decode prog_1_method_10_code 10 = .ok (.isub, 1) := by decide +kernel
theorem d_Tape_poke_11 : decode prog_1_method_10_code 11 = .ok (.invokestatic 40, 3) := by decide +kernel
theorem d_Tape_poke_14 : decode prog_1_method_10_code 14 = .ok (.ifCond .ne 5, 3) := by decide +kernel
theorem d_Tape_poke_17 : decode prog_1_method_10_code 17 = .ok (.iconst 0, 1) := by decide +kernel
theorem d_Tape_poke_18 : decode prog_1_method_10_code 18 = .ok (.ireturn, 1) := by decide +kernel
theorem d_Tape_poke_19 : decode prog_1_method_10_code 19 = .ok (.aload_n 0, 1) := by decide +kernel
theorem d_Tape_poke_20 : decode prog_1_method_10_code 20 = .ok (.getfield 28, 3) := by decide +kernel
theorem d_Tape_poke_23 : decode prog_1_method_10_code 23 = .ok (.iload_n 1, 1) := by decide +kernel
theorem d_Tape_poke_24 : decode prog_1_method_10_code 24 = .ok (.iload_n 2, 1) := by decide +kernel
theorem d_Tape_poke_25 : decode prog_1_method_10_code 25 = .ok (.invokevirtual 88, 3) := by decide +kernel
theorem d_Tape_poke_28 : decode prog_1_method_10_code 28 = .ok (.iconst 1, 1) := by decide +kernel
theorem d_Tape_poke_29 : decode prog_1_method_10_code 29 = .ok (.ireturn, 1) := by decide +kernel
theorem d_Tape_read_0 : decode prog_1_method_11_code 0 = .ok (.aload_n 0, 1) := by decide +kernel
theorem d_Tape_read_1 : decode prog_1_method_11_code 1 = .ok (.getfield 36, 3) := by decide +kernel
theorem d_Tape_read_4 : decode prog_1_method_11_code 4 = .ok (.aload_n 0, 1) := by decide +kernel
theorem d_Tape_read_5 : decode prog_1_method_11_code 5 = .ok (.getfield 16, 3) := by decide +kernel
theorem d_Tape_read_8 : decode prog_1_method_11_code 8 = .ok (.invokevirtual 91, 3) := by decide +kernel
theorem d_Tape_read_11 : decode prog_1_method_11_code 11 = .ok (.aload_n 0, 1) := by decide +kernel
theorem d_Tape_read_12 : decode prog_1_method_11_code 12 = .ok (.getfield 36, 3) := by decide +kernel
theorem d_Tape_read_15 : decode prog_1_method_11_code 15 = .ok (.invokevirtual 95, 3) := by decide +kernel
theorem d_Tape_read_18 : decode prog_1_method_11_code 18 = .ok (.ifCond .ne 21, 3) := by decide +kernel
theorem d_Tape_read_21 : decode prog_1_method_11_code 21 = .ok (.aload_n 0, 1) := by decide +kernel
theorem d_Tape_read_22 : decode prog_1_method_11_code 22 = .ok (.getfield 12, 3) := by decide +kernel
theorem d_Tape_read_25 : decode prog_1_method_11_code 25 = .ok (.astore_n 1, 1) := by decide +kernel
theorem d_Tape_read_26 : decode prog_1_method_11_code 26 = .ok (.aload_n 0, 1) := by decide +kernel
theorem d_Tape_read_27 : decode prog_1_method_11_code 27 = .ok (.aload_n 0, 1) := by decide +kernel
theorem d_Tape_read_28 : decode prog_1_method_11_code 28 = .ok (.getfield 16, 3) := by decide +kernel
theorem d_Tape_read_31 : decode prog_1_method_11_code 31 = .ok (.putfield 12, 3) := by decide +kernel
theorem d_Tape_read_34 : decode prog_1_method_11_code 34 = .ok (.aload_n 0, 1) := by decide +kernel
theorem d_Tape_read_35 : decode prog_1_method_11_code 35 = .ok (.aload_n 1, 1) := by decide +kernel
theorem d_Tape_read_36 : decode prog_1_method_11_code 36 = .ok (.putfield 16, 3) := by decide +kernel
theorem d_Tape_read_39 : decode prog_1_method_11_code 39 = .ok (.aload_n 0, 1) := by decide +kernel
theorem d_Tape_read_40 : decode prog_1_method_11_code 40 = .ok (.getfield 36, 3) := by decide +kernel
theorem d_Tape_read_43 : decode prog_1_method_11_code 43 = .ok (.invokevirtual 95, 3) := by decide +kernel
theorem d_Tape_read_46 : decode prog_1_method_11_code 46 = .ok (.ireturn, 1) := by decide +kernel
theorem d_Tape_input_0 : decode prog_1_method_12_code 0 = .ok (.aload_n 0, 1) := by decide +kernel
theorem d_Tape_input_1 : decode prog_1_method_12_code 1 = .ok (.getfield 12, 3) := by decide +kernel
theorem d_Tape_input_4 : decode prog_1_method_12_code 4 = .ok (.iload_n 1, 1) := by decide +kernel
theorem d_Tape_input_5 : decode prog_1_method_12_code 5 = .ok (.invokevirtual 98, 3) := by decide +kernel
theorem d_Tape_input_8 : decode prog_1_method_12_code 8 = .ok (.istore_n 3, 1) := by decide +kernel
theorem d_Tape_input_9 : decode prog_1_method_12_code 9 = .ok (.iload_n 3, 1) := by decide +kernel
theorem d_Tape_input_10 : decode prog_1_method_12_code 10 = .ok (.iconst (-1), 1) := by decide +kernel
theorem d_Tape_input_11 : decode prog_1_method_12_code 11 = .ok (.if_icmp .ne 6, 3) := by decide +kernel
theorem d_Tape_input_14 : decode prog_1_method_12_code 14 = .ok (.ldc 102, 2) := by decide +kernel
theorem d_Tape_input_16 : decode prog_1_method_12_code 16 = .ok (.ireturn, 1) := by decide +kernel
theorem d_Tape_input_17 : decode prog_1_method_12_code 17 = .ok (.iload_n 2, 1) := by decide +kernel
theorem d_Tape_input_18 : decode prog_1_method_12_code 18 = .ok (.tableswitch 67 0 3 #[30, 38, 46, 54], 30) := by decide +kernel
theorem d_Tape_input_48 : decode prog_1_method_12_code 48 = .ok (.iload_n 3, 1) := by decide +kernel
theorem d_Tape_input_49 : decode prog_1_method_12_code 49 = .ok (.invokestatic 103, 3) := by decide +kernel
theorem d_Tape_input_52 : decode prog_1_method_12_code 52 = .ok (.bipush 64, 2) := by decide +kernel
theorem d_Tape_input_54 : decode prog_1_method_12_code 54 = .ok (.isub, 1) := by decide +kernel
theorem d_Tape_input_55 : decode prog_1_method_12_code 55 = .ok (.ireturn, 1) := by decide +kernel
theorem d_Tape_input_56 : decode prog_1_method_12_code 56 = .ok (.iload_n 3, 1) := by decide +kernel
theorem d_Tape_input_57 : decode prog_1_method_12_code 57 = .ok (.invokestatic 106, 3) := by decide +kernel
theorem d_Tape_input_60 : decode prog_1_method_12_code 60 = .ok (.bipush 64, 2) := by decide +kernel
theorem d_Tape_input_62 : decode prog_1_method_12_code 62 = .ok (.isub, 1) := by decide +kernel
theorem d_Tape_input_63 : decode prog_1_method_12_code 63 = .ok (.ireturn, 1) := by decide +kernel
theorem d_Tape_input_64 : decode prog_1_method_12_code 64 = .ok (.iload_n 3, 1) := by decide +kernel
theorem d_Tape_input_65 : decode prog_1_method_12_code 65 = .ok (.invokestatic 109, 3) := by decide +kernel
theorem d_Tape_input_68 : decode prog_1_method_12_code 68 = .ok (.bipush 16, 2) := by decide +kernel
theorem d_Tape_input_70 : decode prog_1_method_12_code 70 = .ok (.isub, 1) := by decide +kernel
theorem d_Tape_input_71 : decode prog_1_method_12_code 71 = .ok (.ireturn, 1) := by decide +kernel
theorem d_Tape_input_72 : decode prog_1_method_12_code 72 = .ok (.iload_n 3, 1) := by decide +kernel
theorem d_Tape_input_73 : decode prog_1_method_12_code 73 = .ok (.invokestatic 112, 3) := by decide +kernel
theorem d_Tape_input_76 : decode prog_1_method_12_code 76 = .ok (.ifCond .eq 7, 3) := by decide +kernel
theorem d_Tape_input_79 : decode prog_1_method_12_code 79 = .ok (.iconst 1, 1) := by decide +kernel
theorem d_Tape_input_80 : decode prog_1_method_12_code 80 = .ok (.goto 4, 3) := by decide +kernel
theorem d_Tape_input_83 : decode prog_1_method_12_code 83 = .ok (.iconst 0, 1) := by decide +kernel
theorem d_Tape_input_84 : decode prog_1_method_12_code 84 = .ok (.ireturn, 1) := by decide +kernel
theorem d_Tape_input_85 : decode prog_1_method_12_code 85 = .ok (.ldc 102, 2) := by decide +kernel
theorem d_Tape_input_87 : decode prog_1_method_12_code 87 = .ok (.ireturn, 1) := by decide +kernel
theorem d_Tape_begin_0 : decode prog_1_method_13_code 0 = .ok (.aload_n 0, 1) := by decide +kernel
theorem d_Tape_begin_1 : decode prog_1_method_13_code 1 = .ok (.getfield 12, 3) := by decide +kernel
theorem d_Tape_begin_4 : decode prog_1_method_13_code 4 = .ok (.iload_n 1, 1) := by decide +kernel
theorem d_Tape_begin_5 : decode prog_1_method_13_code 5 = .ok (.invokevirtual 116, 3) := by decide +kernel
theorem d_Tape_begin_8 : decode prog_1_method_13_code 8 = .ok (.ireturn, 1) := by decide +kernel
theorem d_Tape_byteAt_0 : decode prog_1_method_14_code 0 = .ok (.iload_n 2, 1) := by decide +kernel
theorem d_Tape_byteAt_1 : decode prog_1_method_14_code 1 = .ok (.ifCond .eq 14, 3) := by decide +kernel
theorem d_Tape_byteAt_4 : decode prog_1_method_14_code 4 = .ok (.aload_n 0, 1) := by decide +kernel
theorem d_Tape_byteAt_5 : decode prog_1_method_14_code 5 = .ok (.getfield 28, 3) := by decide +kernel
theorem d_Tape_byteAt_8 : decode prog_1_method_14_code 8 = .ok (.iload_n 1, 1) := by decide +kernel
theorem d_Tape_byteAt_9 : decode prog_1_method_14_code 9 = .ok (.invokevirtual 119, 3) := by decide +kernel
theorem d_Tape_byteAt_12 : decode prog_1_method_14_code 12 = .ok (.goto 11, 3) := by decide +kernel
theorem d_Tape_byteAt_15 : decode prog_1_method_14_code 15 = .ok (.aload_n 0, 1) := by decide +kernel
theorem d_Tape_byteAt_16 : decode prog_1_method_14_code 16 = .ok (.getfield 24, 3) := by decide +kernel
theorem d_Tape_byteAt_19 : decode prog_1_method_14_code 19 = .ok (.iload_n 1, 1) := by decide +kernel
theorem d_Tape_byteAt_20 : decode prog_1_method_14_code 20 = .ok (.invokevirtual 119, 3) := by decide +kernel
theorem d_Tape_byteAt_23 : decode prog_1_method_14_code 23 = .ok (.ireturn, 1) := by decide +kernel
theorem d_Tape_look_0 : decode prog_1_method_15_code 0 = .ok (.iload_n 1, 1) := by decide +kernel
theorem d_Tape_look_1 : decode prog_1_method_15_code 1 = .ok (.tableswitch 99 0 6 #[43, 51, 59, 67, 75, 83, 91], 43) := by decide +kernel
theorem d_Tape_look_44 : decode prog_1_method_15_code 44 = .ok (.aload_n 0, 1) := by decide +kernel
theorem d_Tape_look_45 : decode prog_1_method_15_code 45 = .ok (.getfield 12, 3) := by decide +kernel
theorem d_Tape_look_48 : decode prog_1_method_15_code 48 = .ok (.invokevirtual 62, 3) := by decide +kernel
theorem d_Tape_look_51 : decode prog_1_method_15_code 51 = .ok (.ireturn, 1) := by decide +kernel
theorem d_Tape_look_52 : decode prog_1_method_15_code 52 = .ok (.aload_n 0, 1) := by decide +kernel
theorem d_Tape_look_53 : decode prog_1_method_15_code 53 = .ok (.getfield 12, 3) := by decide +kernel
theorem d_Tape_look_56 : decode prog_1_method_15_code 56 = .ok (.invokevirtual 122, 3) := by decide +kernel
theorem d_Tape_look_59 : decode prog_1_method_15_code 59 = .ok (.ireturn, 1) := by decide +kernel
theorem d_Tape_look_60 : decode prog_1_method_15_code 60 = .ok (.aload_n 0, 1) := by decide +kernel
theorem d_Tape_look_61 : decode prog_1_method_15_code 61 = .ok (.getfield 24, 3) := by decide +kernel
theorem d_Tape_look_64 : decode prog_1_method_15_code 64 = .ok (.invokevirtual 77, 3) := by decide +kernel
theorem d_Tape_look_67 : decode prog_1_method_15_code 67 = .ok (.ireturn, 1) := by decide +kernel
theorem d_Tape_look_68 : decode prog_1_method_15_code 68 = .ok (.aload_n 0, 1) := by decide +kernel
theorem d_Tape_look_69 : decode prog_1_method_15_code 69 = .ok (.getfield 28, 3) := by decide +kernel
theorem d_Tape_look_72 : decode prog_1_method_15_code 72 = .ok (.invokevirtual 77, 3) := by decide +kernel
theorem d_Tape_look_75 : decode prog_1_method_15_code 75 = .ok (.ireturn, 1) := by decide +kernel
theorem d_Tape_look_76 : decode prog_1_method_15_code 76 = .ok (.aload_n 0, 1) := by decide +kernel
theorem d_Tape_look_77 : decode prog_1_method_15_code 77 = .ok (.getfield 36, 3) := by decide +kernel
theorem d_Tape_look_80 : decode prog_1_method_15_code 80 = .ok (.invokevirtual 95, 3) := by decide +kernel
theorem d_Tape_look_83 : decode prog_1_method_15_code 83 = .ok (.ireturn, 1) := by decide +kernel
theorem d_Tape_look_84 : decode prog_1_method_15_code 84 = .ok (.aload_n 0, 1) := by decide +kernel
theorem d_Tape_look_85 : decode prog_1_method_15_code 85 = .ok (.getfield 36, 3) := by decide +kernel
theorem d_Tape_look_88 : decode prog_1_method_15_code 88 = .ok (.invokevirtual 125, 3) := by decide +kernel
theorem d_Tape_look_91 : decode prog_1_method_15_code 91 = .ok (.ireturn, 1) := by decide +kernel
theorem d_Tape_look_92 : decode prog_1_method_15_code 92 = .ok (.aload_n 0, 1) := by decide +kernel
theorem d_Tape_look_93 : decode prog_1_method_15_code 93 = .ok (.getfield 12, 3) := by decide +kernel
theorem d_Tape_look_96 : decode prog_1_method_15_code 96 = .ok (.invokevirtual 128, 3) := by decide +kernel
theorem d_Tape_look_99 : decode prog_1_method_15_code 99 = .ok (.ireturn, 1) := by decide +kernel
theorem d_Tape_look_100 : decode prog_1_method_15_code 100 = .ok (.iconst (-1), 1) := by decide +kernel
theorem d_Tape_look_101 : decode prog_1_method_15_code 101 = .ok (.ireturn, 1) := by decide +kernel
theorem d_Tape_init_0 : decode prog_1_method_1_code 0 = .ok (.aload_n 0, 1) := by decide +kernel
theorem d_Tape_init_1 : decode prog_1_method_1_code 1 = .ok (.invokespecial 3, 3) := by decide +kernel
theorem d_Tape_init_4 : decode prog_1_method_1_code 4 = .ok (.aload_n 0, 1) := by decide +kernel
theorem d_Tape_init_5 : decode prog_1_method_1_code 5 = .ok (.new 9, 3) := by decide +kernel
theorem d_Tape_init_8 : decode prog_1_method_1_code 8 = .ok (.dup, 1) := by decide +kernel
theorem d_Tape_init_9 : decode prog_1_method_1_code 9 = .ok (.invokespecial 11, 3) := by decide +kernel
theorem d_Tape_init_12 : decode prog_1_method_1_code 12 = .ok (.putfield 12, 3) := by decide +kernel
theorem d_Tape_init_15 : decode prog_1_method_1_code 15 = .ok (.aload_n 0, 1) := by decide +kernel
theorem d_Tape_init_16 : decode prog_1_method_1_code 16 = .ok (.new 9, 3) := by decide +kernel
theorem d_Tape_init_19 : decode prog_1_method_1_code 19 = .ok (.dup, 1) := by decide +kernel
theorem d_Tape_init_20 : decode prog_1_method_1_code 20 = .ok (.invokespecial 11, 3) := by decide +kernel
theorem d_Tape_init_23 : decode prog_1_method_1_code 23 = .ok (.putfield 16, 3) := by decide +kernel
theorem d_Tape_init_26 : decode prog_1_method_1_code 26 = .ok (.aload_n 0, 1) := by decide +kernel
theorem d_Tape_init_27 : decode prog_1_method_1_code 27 = .ok (.new 19, 3) := by decide +kernel
theorem d_Tape_init_30 : decode prog_1_method_1_code 30 = .ok (.dup, 1) := by decide +kernel
theorem d_Tape_init_31 : decode prog_1_method_1_code 31 = .ok (.sipush 4110, 3) := by decide +kernel
theorem d_Tape_init_34 : decode prog_1_method_1_code 34 = .ok (.invokespecial 21, 3) := by decide +kernel
theorem d_Tape_init_37 : decode prog_1_method_1_code 37 = .ok (.putfield 24, 3) := by decide +kernel
theorem d_Tape_init_40 : decode prog_1_method_1_code 40 = .ok (.aload_n 0, 1) := by decide +kernel
theorem d_Tape_init_41 : decode prog_1_method_1_code 41 = .ok (.new 19, 3) := by decide +kernel
theorem d_Tape_init_44 : decode prog_1_method_1_code 44 = .ok (.dup, 1) := by decide +kernel
theorem d_Tape_init_45 : decode prog_1_method_1_code 45 = .ok (.sipush 8192, 3) := by decide +kernel
theorem d_Tape_init_48 : decode prog_1_method_1_code 48 = .ok (.invokespecial 21, 3) := by decide +kernel
theorem d_Tape_init_51 : decode prog_1_method_1_code 51 = .ok (.putfield 28, 3) := by decide +kernel
theorem d_Tape_init_54 : decode prog_1_method_1_code 54 = .ok (.aload_n 0, 1) := by decide +kernel
theorem d_Tape_init_55 : decode prog_1_method_1_code 55 = .ok (.new 31, 3) := by decide +kernel
theorem d_Tape_init_58 : decode prog_1_method_1_code 58 = .ok (.dup, 1) := by decide +kernel
theorem d_Tape_init_59 : decode prog_1_method_1_code 59 = .ok (.aload_n 0, 1) := by decide +kernel
theorem d_Tape_init_60 : decode prog_1_method_1_code 60 = .ok (.getfield 28, 3) := by decide +kernel
theorem d_Tape_init_63 : decode prog_1_method_1_code 63 = .ok (.invokespecial 33, 3) := by decide +kernel
theorem d_Tape_init_66 : decode prog_1_method_1_code 66 = .ok (.putfield 36, 3) := by decide +kernel
theorem d_Tape_init_69 : decode prog_1_method_1_code 69 = .ok (.return_, 1) := by decide +kernel
end
section
-- rows of the kit's laws/BITS.to-paste, pasted (bits of an Int32; a byte read unsigned; Int64 as an unsigned number)
/-! ===== Int32 by its bits: bt x i ===== -/
def bt (x : Int32) (i : Nat) : Bool := x.toBitVec.getLsbD i
theorem b_ext {x y : Int32} (h : ∀ i, i < 32 → bt x i = bt y i) : x = y := Int32.toBitVec_inj.mp (BitVec.eq_of_getLsbD_eq (fun i hi => h i hi))
theorem b_or (x y : Int32) (i : Nat) : bt (x ||| y) i = (bt x i || bt y i) := by unfold bt; rw [Int32.toBitVec_or, BitVec.getLsbD_or]
theorem b_and (x y : Int32) (i : Nat) : bt (x &&& y) i = (bt x i && bt y i) := by unfold bt; rw [Int32.toBitVec_and, BitVec.getLsbD_and]
theorem b_xor (x y : Int32) (i : Nat) : bt (x ^^^ y) i = (bt x i ^^ bt y i) := by unfold bt; rw [Int32.toBitVec_xor, BitVec.getLsbD_xor]
theorem b_big {x : Int32} {i : Nat} (h : 32 ≤ i) : bt x i = false := BitVec.getLsbD_of_ge _ _ h
theorem b_255 (i : Nat) : bt 255 i = decide (i < 8) := by
  rcases Nat.lt_or_ge i 32 with h | h
  · exact (by decide +kernel : ∀ i, i < 32 → bt 255 i = decide (i < 8)) i h
  · rw [b_big h, decide_eq_false (by omega)]
theorem b_65535 (i : Nat) : bt 65535 i = decide (i < 16) := by
  rcases Nat.lt_or_ge i 32 with h | h
  · exact (by decide +kernel : ∀ i, i < 32 → bt 65535 i = decide (i < 16)) i h
  · rw [b_big h, decide_eq_false (by omega)]
theorem b_m1 : ∀ i, i < 32 → bt (-1) i = true := by decide +kernel
theorem b_0 (i : Nat) : bt 0 i = false := BitVec.getLsbD_zero
theorem s_l : ∀ n, n < 32 → ((nI n &&& 31).toBitVec.smod 32).toNat = n := by decide +kernel
theorem s_u : ∀ n, n < 32 → (((nI n).toUInt32 &&& Int32.toUInt32 31).toBitVec % 32).toNat = n := by decide +kernel
theorem b_shl (n : Nat) (hn : n < 32) (x : Int32) {i : Nat} (hi : i < 32) : bt (x <<< (nI n &&& 31)) i = (decide (n ≤ i) && bt x (i - n)) := by
  unfold bt
  rw [Int32.toBitVec_shiftLeft]
  show (x.toBitVec <<< ((nI n &&& 31).toBitVec.smod 32).toNat).getLsbD i = _
  rw [s_l n hn, BitVec.getLsbD_shiftLeft]
  rcases Nat.lt_or_ge i n with h | h
  · simp [h, Nat.not_le.mpr h]
  · simp [hi, h, Nat.not_lt.mpr h]
theorem b_ushr (n : Nat) (hn : n < 32) (x : Int32) (i : Nat) : bt ((x.toUInt32 >>> ((nI n).toUInt32 &&& Int32.toUInt32 31)).toInt32) i = bt x (n + i) := by
  show (x.toUInt32 >>> ((nI n).toUInt32 &&& Int32.toUInt32 31)).toBitVec.getLsbD i = x.toUInt32.toBitVec.getLsbD (n + i)
  rw [UInt32.toBitVec_shiftRight]
  show (x.toUInt32.toBitVec >>> (((nI n).toUInt32 &&& Int32.toUInt32 31).toBitVec % 32).toNat).getLsbD i = _
  rw [s_u n hn, BitVec.getLsbD_ushiftRight]
theorem b_sshr (n : Nat) (hn : n < 32) (x : Int32) {i : Nat} (hi : i < 32) : bt (x >>> (nI n &&& 31)) i = if n + i < 32 then bt x (n + i) else bt x 31 := by
  unfold bt
  rw [Int32.toBitVec_shiftRight]
  show (x.toBitVec.sshiftRight ((nI n &&& 31).toBitVec.smod 32).toNat).getLsbD i = _
  rw [s_l n hn, BitVec.getLsbD_sshiftRight, BitVec.msb_eq_getLsbD_last]
  simp [hi]
theorem b_shl8 (x : Int32) {i : Nat} (hi : i < 32) : bt (x <<< ((8 : Int32) &&& 31)) i = (decide (8 ≤ i) && bt x (i - 8)) := b_shl 8 (by omega) x hi
theorem b_shl16 (x : Int32) {i : Nat} (hi : i < 32) : bt (x <<< ((16 : Int32) &&& 31)) i = (decide (16 ≤ i) && bt x (i - 16)) := b_shl 16 (by omega) x hi
theorem b_shl24 (x : Int32) {i : Nat} (hi : i < 32) : bt (x <<< ((24 : Int32) &&& 31)) i = (decide (24 ≤ i) && bt x (i - 24)) := b_shl 24 (by omega) x hi
theorem b_sshr8 (x : Int32) {i : Nat} (hi : i < 32) : bt (x >>> ((8 : Int32) &&& 31)) i = if 8 + i < 32 then bt x (8 + i) else bt x 31 := b_sshr 8 (by omega) x hi
/-! ===== a byte read unsigned ===== -/
theorem bp_b (x : Int32) : x.toInt8.toInt32 &&& 255 = x &&& 255 := by
  apply Int32.toBitVec_inj.mp
  rw [Int32.toBitVec_and, Int32.toBitVec_and, Int8.toBitVec_toInt32, Int32.toBitVec_toInt8]
  apply BitVec.eq_of_getLsbD_eq
  intro i hi
  rw [BitVec.getLsbD_and, BitVec.getLsbD_and]
  have hm : ∀ i < 32, 8 ≤ i → (255 : Int32).toBitVec.getLsbD i = false := by decide
  rcases Nat.lt_or_ge i 8 with z | z
  · rw [BitVec.getLsbD_signExtend, BitVec.getLsbD_signExtend, if_pos z, if_pos hi]
    simp only [z, hi, decide_true, Bool.true_and]
  · rw [hm i hi z]; simp
/-! ===== Int64 as an unsigned number: uN x ===== -/
def uN (x : Int64) : Nat := x.toUInt64.toNat
theorem uN_lt (x : Int64) : uN x < 18446744073709551616 := x.toUInt64.toNat_lt
theorem uN_inj {x y : Int64} (h : uN x = uN y) : x = y := congrArg UInt64.toInt64 (UInt64.toNat_inj.mp h)
theorem uN_shr (x : Int64) (s : UInt64) : uN (x.toUInt64 >>> s).toInt64 = uN x / 2 ^ (s.toNat % 64) := by
  show (x.toUInt64 >>> s).toNat = _
  rw [UInt64.toNat_shiftRight, Nat.shiftRight_eq_div_pow]
  rfl
theorem uN_sk (x : Int64) {k : Nat} (hk : k < 64) : uN (x.toUInt64 >>> ((nI k).toInt64.toUInt64 &&& Int64.toUInt64 63)).toInt64 = uN x / 2 ^ k := by
  have h : ((nI k).toInt64.toUInt64 &&& Int64.toUInt64 63).toNat % 64 = k := by
    rw [nI_l (by omega), UInt64.toNat_and]
    have e : (lN k).toUInt64.toNat = k % 2 ^ 64 := rfl
    have e2 : (Int64.toUInt64 63).toNat = 2 ^ 6 - 1 := by decide
    rw [e, e2, Nat.and_two_pow_sub_one_eq_mod]
    omega
  rw [uN_shr, h]
end
section
/-! Tools: the shapes of all contracts, calls joined with the frame, ends, numbers. -/
section KT
variable {p : Program} {l : Launch} {e : Env} {R : Room} {s : State} {m : MethodId} {args : Array Value} {below : List Frame} {meth : Method} {c : Code} {H H0 : Heap} {locs : List Loc} {cells slots pc : Nat} {Q : State → Prop} {ls : Array Slot} {rest st0 : List Value} {cc : ByteArray} {D : va_G} {cl : List vw_C} {tys : List (ClassId × FieldType)} {ws wc wr : va_W} {A : Nat → Prop} {mc ms : Nat} {a : Array Value}
/-- a contract's start: the cells ws, apart, the heap's size -/
def kp (D : va_G) (cl : List vw_C) (tys : List (ClassId × FieldType)) (ws : va_W) (sz : Nat) : State → Prop := fun U => U.heap.size = sz ∧ va_P D cl ws U.heap ∧ va_K D cl tys U ∧ va_D (fun _ => True) ws
/-- a contract's end: the cells w1 u -/
def ka {S : Type} (D : va_G) (cl : List vw_C) (tys : List (ClassId × FieldType)) (w1 : S → va_W) (A : Nat → Prop) : S → State → Prop := fun u t => va_P D cl (w1 u) t.heap ∧ va_K D cl tys t ∧ va_D A (w1 u)
theorem kp_blind {As : List Value} {sz : Nat} : FrameBlind (va_Pc As (kp D cl tys ws sz)) := by
  intro a U g mk q
  obtain ⟨q0, q1, qP, qK, qD⟩ := q
  exact ⟨q0, q1, qP, va_K.moved (u := U) (U := U.calling g mk a) (Vm.Alike.refl U.vm) qK, qD⟩
theorem kp_of {As : List Value} (hK : va_K D cl tys s) (hP : va_P D cl ws H) (hD : va_D A ws) : ∀ U : State, U.heap = H → s.WarmedH U.vm → va_Pc As (kp D cl tys ws H.size) As.toArray U := by
  intro U hU hW
  exact ⟨rfl, by rw [hU], by rw [hU]; exact hP, va_K.moved hW.alike hK, hD.weaken (fun _ _ _ _ => trivial)⟩
theorem kpS {As : List Value} (hK : va_K D cl tys s) (hP : va_P D cl ws H) (hD : va_D A ws) (isC : List Nat) (h1 : isC.filterMap (fun i => ws[i]?) = wc) (hn : va_nd isC = true) (h2 : isC.map (fun i => ws[i]?) = wc.map some) : PreS s H (va_Pc As (kp D cl tys wc H.size)) As :=
  ⟨kp_blind, kp_of hK (hP.sub isC h1) (hD.sub isC hn h2)⟩
theorem kpV {As : List Value} {b q0 ci : Nat} {q : vw_C} {fs : List Value} (hK : va_K D cl tys s) (hP : va_P D cl ws H) (hD : va_D A ws) (isC : List Nat) (h1 : isC.filterMap (fun i => ws[i]?) = wc) (hn : va_nd isC = true) (h2 : isC.map (fun i => ws[i]?) = wc.map some) (hc : cl[ci]? = some q) (he : ws[q0]? = some (b, .inr (ci, fs))) : PreV s H q.1 b (va_Pc (.ref b :: As) (kp D cl tys wc H.size)) As :=
  ⟨kp_blind, va_recv hK hP hc he, kp_of hK (hP.sub isC h1) (hD.sub isC hn h2)⟩
/-- behind a call that answers an int -/
theorem kc_i {S : Type} {post : Int32 → S → Prop} {w1 w2 : S → va_W} (hr : va_Run p l e R s m args below meth c H locs cells slots mc ms (F0 m pc ls st0) rest (va_Qi post (ka D cl tys w1 (va_A wc H.size)) (va_A wc H.size) a) (va_A wc H.size)) (hP : va_P D cl ws H) (hD : va_D A ws) (hS : va_S A H0 H locs) (hA : ∀ q, H0.size ≤ q → A q) (isC isR perm : List Nat) (hC : isC.map (fun i => ws[i]?) = wc.map some) (hR : isR.map (fun i => ws[i]?) = wr.map some) (hn : va_nd isR = true) (hdis : ∀ i ∈ isR, i ∉ isC) (hp1 : ∀ u, perm.filterMap (fun i => (wr ++ w1 u)[i]?) = w2 u) (hp2 : va_nd perm = true) (hp3 : ∀ u, perm.map (fun i => (wr ++ w1 u)[i]?) = (w2 u).map some)
    (kk : ∀ (r : Int32) (u : S) (H1 : Heap) (locs1 : List Loc), post r u → va_P D cl (w2 u) H1 → va_D A (w2 u) → va_S A H0 H1 locs1 → W p l e R s m args below meth c H1 locs1 (cells + mc) (slots + ms) Q (F0 m (pc + 3) ls (.int r :: rest))) : W p l e R s m args below meth c H locs cells slots Q (F0 m pc ls st0) := by
  have hFc := va_free hD hS hA isC hC
  refine va_calli hr hS (fun q _ h => hFc q h) hFc (fun r u t H1 locs1 ht hvm hw hB hz1 hk1 hS1 => ?_)
  obtain ⟨hP1, -, hD1⟩ := hB
  rw [ht] at hP1
  obtain ⟨hP2, hD2⟩ := va_join hP hD isC isR hC hR hn hdis hk1 hFc hP1 hD1
  exact kk r u H1 locs1 hw (hP2.sub perm (hp1 u)) (hD2.sub perm hp2 (hp3 u)) hS1
theorem kc_v {S : Type} {post : S → Prop} {w1 w2 : S → va_W} (hr : va_Run p l e R s m args below meth c H locs cells slots mc ms (F0 m pc ls st0) rest (va_Qv post (ka D cl tys w1 (va_A wc H.size)) (va_A wc H.size) a) (va_A wc H.size)) (hP : va_P D cl ws H) (hD : va_D A ws) (hS : va_S A H0 H locs) (hA : ∀ q, H0.size ≤ q → A q) (isC isR perm : List Nat) (hC : isC.map (fun i => ws[i]?) = wc.map some) (hR : isR.map (fun i => ws[i]?) = wr.map some) (hn : va_nd isR = true) (hdis : ∀ i ∈ isR, i ∉ isC) (hp1 : ∀ u, perm.filterMap (fun i => (wr ++ w1 u)[i]?) = w2 u) (hp2 : va_nd perm = true) (hp3 : ∀ u, perm.map (fun i => (wr ++ w1 u)[i]?) = (w2 u).map some)
    (kk : ∀ (u : S) (H1 : Heap) (locs1 : List Loc), post u → va_P D cl (w2 u) H1 → va_D A (w2 u) → va_S A H0 H1 locs1 → W p l e R s m args below meth c H1 locs1 (cells + mc) (slots + ms) Q (F0 m (pc + 3) ls rest)) : W p l e R s m args below meth c H locs cells slots Q (F0 m pc ls st0) := by
  have hFc := va_free hD hS hA isC hC
  refine va_callv hr hS (fun q _ h => hFc q h) hFc (fun u t H1 locs1 ht hvm hw hB hz1 hk1 hS1 => ?_)
  obtain ⟨hP1, -, hD1⟩ := hB
  rw [ht] at hP1
  obtain ⟨hP2, hD2⟩ := va_join hP hD isC isR hC hR hn hdis hk1 hFc hP1 hD1
  exact kk u H1 locs1 hw (hP2.sub perm (hp1 u)) (hD2.sub perm hp2 (hp3 u)) hS1
/-- a call that answers an int and changes nothing that the caller sees: its cells come back as they were -/
theorem kq_i {post : Int32 → Unit → Prop} (hr : va_Run p l e R s m args below meth c H locs cells slots 0 0 (F0 m pc ls st0) rest (va_Qi post (ka D cl tys (fun _ => wc) (va_A wc H.size)) (va_A wc H.size) a) (va_A wc H.size)) (hP : va_P D cl ws H) (hD : va_D A ws) (hS : va_S A H0 H locs) (hA : ∀ q, H0.size ≤ q → A q) (isC isR perm : List Nat) (hC : isC.map (fun i => ws[i]?) = wc.map some) (hR : isR.map (fun i => ws[i]?) = wr.map some) (hn : va_nd isR = true) (hdis : ∀ i ∈ isR, i ∉ isC) (hp1 : perm.filterMap (fun i => (wr ++ wc)[i]?) = ws)
    (kk : ∀ (r : Int32) (H1 : Heap) (locs1 : List Loc), post r () → va_P D cl ws H1 → va_S A H0 H1 locs1 → W p l e R s m args below meth c H1 locs1 cells slots Q (F0 m (pc + 3) ls (.int r :: rest))) : W p l e R s m args below meth c H locs cells slots Q (F0 m pc ls st0) := by
  have hFc := va_free hD hS hA isC hC
  refine va_calli hr hS (fun q _ h => hFc q h) hFc (fun r u t H1 locs1 ht hvm hw hB hz1 hk1 hS1 => ?_)
  obtain ⟨hP1, -, hD1⟩ := hB
  rw [ht] at hP1
  obtain ⟨hP2, hD2⟩ := va_join hP hD isC isR hC hR hn hdis hk1 hFc hP1 hD1
  exact kk r H1 locs1 hw (hP2.sub perm hp1) hS1
/-- ends -/
theorem kr_i {S : Type} {post : Int32 → S → Prop} {w1 : S → va_W} {v : Int32} {rt : FieldType} (u : S) (hexec : p.tables.exec = Jvm.exec) (hb : c.code = cc) (hr : meth.sig.returnType = some rt) (hn : narrow rt (.int v) = .int v) (hK : va_K D cl tys s) (hP : va_P D cl (w1 u) H) (hD : va_D A (w1 u)) (hS : va_S A s.heap H locs) (hpost : post v u) (hdg : decode cc pc = .ok (.ireturn, 1)) (hlocks : meth.locks = false) : W p l e R s m args below meth c H locs cells slots (MQ below (va_Qi post (ka D cl tys w1 A) A) args s cells slots A) (F0 m pc ls [.int v]) :=
  W.zret hexec hb hr hn (fun t ht hW => ⟨⟨v, u, rfl, hpost, by rw [ht]; exact hP, va_K.moved hW.alike hK, hD⟩, hS.F ht⟩) hS.2.2 hdg hlocks
theorem kr_v {S : Type} {post : S → Prop} {w1 : S → va_W} (u : S) (hexec : p.tables.exec = Jvm.exec) (hb : c.code = cc) (hr : meth.sig.returnType = none) (hK : va_K D cl tys s) (hP : va_P D cl (w1 u) H) (hD : va_D A (w1 u)) (hS : va_S A s.heap H locs) (hpost : post u) (hdg : decode cc pc = .ok (.return_, 1)) (hlocks : meth.locks = false) : W p l e R s m args below meth c H locs cells slots (MQ below (va_Qv post (ka D cl tys w1 A) A) args s cells slots A) (F0 m pc ls []) :=
  W.vret hexec hb hr (fun t ht hW => ⟨⟨u, rfl, hpost, by rw [ht]; exact hP, va_K.moved hW.alike hK, hD⟩, hS.F ht⟩) hS.2.2 hdg hlocks
theorem kt_i {x y : Int32} (h : x = y) (k : W p l e R s m args below meth c H locs cells slots Q (F0 m pc ls (.int y :: rest))) : W p l e R s m args below meth c H locs cells slots Q (F0 m pc ls (.int x :: rest)) := by rw [h]; exact k
theorem kt_l {x y : Int64} (h : x = y) (k : W p l e R s m args below meth c H locs cells slots Q (F0 m pc ls (.long y :: rest))) : W p l e R s m args below meth c H locs cells slots Q (F0 m pc ls (.long x :: rest)) := by rw [h]; exact k
/-- arrays at a place that is known as a number -/
theorem kt_iald {ad : Nat} (hexec : p.tables.exec = Jvm.exec) (hb : c.code = cc) (hK : va_K D cl tys s) (hP : va_P D cl ws H) (q0 t0 : Nat) {cA : ClassId} {n : Nat} {f : Nat → Int32} (ha : ws[q0]? = some (ad, .inl (cA, n, .inl f))) (ht : tys[t0]? = some (cA, .int)) {j : Nat} (hj : j < n) (hn : n < 2 ^ 31) (hdg : decode cc pc = .ok (.iaload, 1))
    (kk : W p l e R s m args below meth c H locs cells slots Q (F0 m (pc + 1) ls (.int (f j) :: rest))) : W p l e R s m args below meth c H locs cells slots Q (F0 m pc ls (.int (nI j) :: .ref ad :: rest)) :=
  va_iald hexec hb hK hP q0 t0 ha ht (vp_in_nI hj hn) hdg (by rw [nI_clamp (by omega)]; exact kk)
theorem kt_bald {ad : Nat} (hexec : p.tables.exec = Jvm.exec) (hb : c.code = cc) (hK : va_K D cl tys s) (hP : va_P D cl ws H) (q0 t0 : Nat) {cA : ClassId} {n : Nat} {f : Nat → Int32} (ha : ws[q0]? = some (ad, .inl (cA, n, .inl f))) (ht : tys[t0]? = some (cA, .byte)) {j : Nat} (hj : j < n) (hn : n < 2 ^ 31) (hdg : decode cc pc = .ok (.baload, 1))
    (kk : W p l e R s m args below meth c H locs cells slots Q (F0 m (pc + 1) ls (.int (f j) :: rest))) : W p l e R s m args below meth c H locs cells slots Q (F0 m pc ls (.int (nI j) :: .ref ad :: rest)) :=
  va_bald hexec hb hK hP q0 t0 ha ht (vp_in_nI hj hn) hdg (by rw [nI_clamp (by omega)]; exact kk)
theorem kt_iast {ad : Nat} (hexec : p.tables.exec = Jvm.exec) (hb : c.code = cc) (hK : va_K D cl tys s) (hP : va_P D cl ws H) (hD : va_D A ws) (hS : va_S A H0 H locs) (q0 t0 : Nat) {cA : ClassId} {n : Nat} {f : Nat → Int32} (ha : ws[q0]? = some (ad, .inl (cA, n, .inl f))) (ht : tys[t0]? = some (cA, .int)) {j : Nat} {x : Int32} (hj : j < n) (hn : n < 2 ^ 31) (hdg : decode cc pc = .ok (.iastore, 1))
    (kk : ∀ (H1 : Heap) (locs1 : List Loc), va_P D cl (ws.set q0 (ad, .inl (cA, n, .inl (upd f j x)))) H1 → va_D A (ws.set q0 (ad, .inl (cA, n, .inl (upd f j x)))) → va_S A H0 H1 locs1 → W p l e R s m args below meth c H1 locs1 cells slots Q (F0 m (pc + 1) ls rest)) : W p l e R s m args below meth c H locs cells slots Q (F0 m pc ls (.int x :: .int (nI j) :: .ref ad :: rest)) :=
  va_iast hexec hb hK hP hD hS q0 t0 ha ht (vp_in_nI hj hn) hdg (by rw [nI_clamp (by omega)]; exact kk)
theorem kt_bast {ad : Nat} (hexec : p.tables.exec = Jvm.exec) (hb : c.code = cc) (hK : va_K D cl tys s) (hP : va_P D cl ws H) (hD : va_D A ws) (hS : va_S A H0 H locs) (q0 t0 : Nat) {cA : ClassId} {n : Nat} {f : Nat → Int32} (ha : ws[q0]? = some (ad, .inl (cA, n, .inl f))) (ht : tys[t0]? = some (cA, .byte)) {j : Nat} {x : Int32} (hj : j < n) (hn : n < 2 ^ 31) (hdg : decode cc pc = .ok (.bastore, 1))
    (kk : ∀ (H1 : Heap) (locs1 : List Loc), va_P D cl (ws.set q0 (ad, .inl (cA, n, .inl (upd f j x.toInt8.toInt32)))) H1 → va_D A (ws.set q0 (ad, .inl (cA, n, .inl (upd f j x.toInt8.toInt32)))) → va_S A H0 H1 locs1 → W p l e R s m args below meth c H1 locs1 cells slots Q (F0 m (pc + 1) ls rest)) : W p l e R s m args below meth c H locs cells slots Q (F0 m pc ls (.int x :: .int (nI j) :: .ref ad :: rest)) :=
  va_bast hexec hb hK hP hD hS q0 t0 ha ht (vp_in_nI hj hn) hdg (by rw [nI_clamp (by omega), vp_nar_byte]; exact kk)
end KT
/-! compares of numbers -/
theorem kn_le {a b : Nat} {x y : Int32} (h : x ≤ y) (hx : x = nI a) (hy : y = nI b) (ha : a < 2 ^ 31) (hb : b < 2 ^ 31) : a ≤ b := by subst hx hy; exact (nI_leI ha hb).mp h
theorem kn_nle {a b : Nat} {x y : Int32} (h : ¬ x ≤ y) (hx : x = nI a) (hy : y = nI b) (ha : a < 2 ^ 31) (hb : b < 2 ^ 31) : b < a := by subst hx hy; exact Nat.lt_of_not_le (fun q => h ((nI_leI ha hb).mpr q))
theorem kn_lt {a b : Nat} {x y : Int32} (h : x < y) (hx : x = nI a) (hy : y = nI b) (ha : a < 2 ^ 31) (hb : b < 2 ^ 31) : a < b := by subst hx hy; exact (nI_ltI ha hb).mp h
theorem kn_nlt {a b : Nat} {x y : Int32} (h : ¬ x < y) (hx : x = nI a) (hy : y = nI b) (ha : a < 2 ^ 31) (hb : b < 2 ^ 31) : b ≤ a := by subst hx hy; exact Nat.le_of_not_lt (fun q => h ((nI_ltI ha hb).mpr q))
theorem kn_eq {a b : Nat} {x y : Int32} (h : x = y) (hx : x = nI a) (hy : y = nI b) (ha : a < 2 ^ 31) (hb : b < 2 ^ 31) : a = b := by subst hx hy; exact (nI_eq ha hb).mp h
theorem kn_ne {a b : Nat} {x y : Int32} (h : ¬ x = y) (hx : x = nI a) (hy : y = nI b) (ha : a < 2 ^ 31) (hb : b < 2 ^ 31) : a ≠ b := by subst hx hy; exact fun q => h ((nI_eq ha hb).mpr q)
theorem k32_le (x y : Int32) : x ≤ y ↔ x.toInt ≤ y.toInt := Int32.le_iff_toInt_le
theorem k32_lt (x y : Int32) : x < y ↔ x.toInt < y.toInt := Int32.lt_iff_toInt_lt
theorem ks_int {D : va_G} {cl : List vw_C} {cI cB cZ cA : ClassId} {s : State} (h : va_K D cl ([(cI, .int), (cB, .byte), (cZ, .boolean)] ++ [(cA, .int)]) s) : cI = cA := by
  have h0 := (h.2 0 _ rfl).2
  have h2 := (h.2 3 _ rfl).2
  exact Option.some.inj (h0.symm.trans h2)
theorem ks_byte {D : va_G} {cl : List vw_C} {cI cB cZ cA : ClassId} {s : State} (h : va_K D cl ([(cI, .int), (cB, .byte), (cZ, .boolean)] ++ [(cA, .byte)]) s) : cB = cA := by
  have h0 := (h.2 1 _ rfl).2
  have h2 := (h.2 3 _ rfl).2
  exact Option.some.inj (h0.symm.trans h2)
theorem ks_bool {D : va_G} {cl : List vw_C} {cI cB cZ cA : ClassId} {s : State} (h : va_K D cl ([(cI, .int), (cB, .byte), (cZ, .boolean)] ++ [(cA, .boolean)]) s) : cZ = cA := by
  have h0 := (h.2 2 _ rfl).2
  have h2 := (h.2 3 _ rfl).2
  exact Option.some.inj (h0.symm.trans h2)
/-! the static row MARK -/
def kMk : Nat → Value := fun j => match j with
  | 0 => .int 77
  | 1 => .int 68
  | _ => .int 1
def kM (tM : Nat) (A : Nat → Prop) (U : State) (H : Heap) : Prop := va_Z "DemoTape" "MARK" "[I" (.ref tM) A U H ∧ va_T .int tM 3 kMk A U H ∧ va_Nw nwW U ∧ va_Nw nwR U ∧ va_Nw nwI U
def kps (D : va_G) (cl : List vw_C) (tys : List (ClassId × FieldType)) (ws : va_W) (sz tM : Nat) : State → Prop := fun U => kp D cl tys ws sz U ∧ kM tM (va_A ws sz) U U.heap
section KS
variable {s : State} {H : Heap} {locs : List Loc} {D : va_G} {cl : List vw_C} {tys : List (ClassId × FieldType)} {ws wc : va_W} {A : Nat → Prop} {tM : Nat}
theorem kps_blind {As : List Value} {sz : Nat} : FrameBlind (va_Pc As (kps D cl tys ws sz tM)) := by
  intro a U g mk q
  obtain ⟨q0, ⟨q1, qP, qK, qD⟩, qZ, qT, q1n, q2n, q3n⟩ := q
  exact ⟨q0, ⟨q1, qP, va_K.moved (u := U) (U := U.calling g mk a) (Vm.Alike.refl U.vm) qK, qD⟩, va_Z.moved (u := U) (U := U.calling g mk a) (Vm.Alike.refl U.vm) qZ, va_T.moved (u := U) (U := U.calling g mk a) (Vm.Alike.refl U.vm) qT, va_Nw.same rfl (U := U.calling g mk a) rfl q1n, va_Nw.same rfl (U := U.calling g mk a) rfl q2n, va_Nw.same rfl (U := U.calling g mk a) rfl q3n⟩
theorem kM.pass {U : State} (h : kM tM A s s.heap) (hS : va_S A s.heap H locs) (hF : ∀ q, va_A wc H.size q → A q) (hW : s.WarmedH U.vm) (hU : U.heap = H) : kM tM (va_A wc H.size) U U.heap := by
  rw [hU]
  exact ⟨((h.1.kept (fun a ha hn => hS.2.1 a ha hn)).narrow hF).moved hW.alike, ((h.2.1.kept (fun a ha hn => hS.2.1 a ha hn)).narrow hF).moved hW.alike, va_Nw.warmF hW h.2.2.1, va_Nw.warmF hW h.2.2.2.1, va_Nw.warmM hW h.2.2.2.2⟩
theorem kps_of {As : List Value} (hK : va_K D cl tys s) (hP : va_P D cl wc H) (hD : va_D A wc) (hMk : kM tM A s s.heap) (hS : va_S A s.heap H locs) (hF : ∀ q, va_A wc H.size q → A q) : ∀ U : State, U.heap = H → s.WarmedH U.vm → va_Pc As (kps D cl tys wc H.size tM) As.toArray U := by
  intro U hU hW
  exact ⟨rfl, (kp_of (As := As) hK hP hD U hU hW).2, hMk.pass hS hF hW hU⟩
theorem kpsS {As : List Value} (hK : va_K D cl tys s) (hP : va_P D cl ws H) (hD : va_D A ws) (hMk : kM tM A s s.heap) (hS : va_S A s.heap H locs) (hA : ∀ q, s.heap.size ≤ q → A q) (isC : List Nat) (h1 : isC.filterMap (fun i => ws[i]?) = wc) (hn : va_nd isC = true) (h2 : isC.map (fun i => ws[i]?) = wc.map some) : PreS s H (va_Pc As (kps D cl tys wc H.size tM)) As :=
  ⟨kps_blind, kps_of hK (hP.sub isC h1) (hD.sub isC hn h2) hMk hS (va_free hD hS hA isC h2)⟩
theorem kpsV {As : List Value} {b q0 ci : Nat} {q : vw_C} {fs : List Value} (hK : va_K D cl tys s) (hP : va_P D cl ws H) (hD : va_D A ws) (hMk : kM tM A s s.heap) (hS : va_S A s.heap H locs) (hA : ∀ q, s.heap.size ≤ q → A q) (isC : List Nat) (h1 : isC.filterMap (fun i => ws[i]?) = wc) (hn : va_nd isC = true) (h2 : isC.map (fun i => ws[i]?) = wc.map some) (hc : cl[ci]? = some q) (he : ws[q0]? = some (b, .inr (ci, fs))) : PreV s H q.1 b (va_Pc (.ref b :: As) (kps D cl tys wc H.size tM)) As :=
  ⟨kps_blind, va_recv hK hP hc he, kps_of hK (hP.sub isC h1) (hD.sub isC hn h2) hMk hS (va_free hD hS hA isC h2)⟩
end KS
end
section
/-! Pure words: rows of ints and of bytes as lists, an INPUT's code, groups, check. -/
def Hold (f : Nat → Int32) (L : List Int32) : Prop := ∀ (i : Nat) (h : i < L.length), f i = L[i]
theorem Hold.nil {f : Nat → Int32} : Hold f [] := fun i h => absurd h (Nat.not_lt_zero i)
theorem Hold.push {f : Nat → Int32} {L : List Int32} (h : Hold f L) (c : Int32) : Hold (upd f L.length c) (L ++ [c]) := by
  intro i hi
  simp only [List.length_append, List.length_cons, List.length_nil] at hi
  by_cases hc : i = L.length
  · subst hc; simp [upd]
  · have h2 : i < L.length := by omega
    rw [List.getElem_append_left h2]
    simp only [upd, if_neg hc]
    exact h i h2
theorem Hold.take {f : Nat → Int32} {L : List Int32} (h : Hold f L) (n : Nat) : Hold f (L.take n) := by
  intro i hi
  rw [List.getElem_take]
  exact h i _
theorem Hold.at {f : Nat → Int32} {L : List Int32} (h : Hold f L) {j : Nat} (hj : j < L.length) : f j = (L[j]?).getD (-1) := by
  rw [List.getElem?_eq_getElem hj]; exact h j hj
/-- the row's place i, -1 where there is none -/
def kGet (L : List Int32) (i : Int32) : Int32 := if i < 0 then -1 else (L[i.toNatClampNeg]?).getD (-1)
theorem kGet_nI {L : List Int32} {j : Nat} (hj : j < 2 ^ 31) : kGet L (nI j) = (L[j]?).getD (-1) := by
  unfold kGet; rw [if_neg (nI_pos hj), nI_clamp hj]
theorem kGet_neg {L : List Int32} {i : Int32} (h : i < 0) : kGet L i = -1 := by unfold kGet; rw [if_pos h]
/-- bytes -/
def HoldB (f : Nat → Int32) (L : List Nat) : Prop := ∀ (i : Nat) (h : i < L.length), f i = sb_b L[i]
def Byt (L : List Nat) : Prop := ∀ b ∈ L, b < 256
theorem HoldB.nil {f : Nat → Int32} : HoldB f [] := fun i h => absurd h (Nat.not_lt_zero i)
theorem HoldB.push {f : Nat → Int32} {L : List Nat} (h : HoldB f L) {b : Nat} {x : Int32} (hx : x = sb_b b) : HoldB (upd f L.length x) (L ++ [b]) := by
  intro i hi
  simp only [List.length_append, List.length_cons, List.length_nil] at hi
  by_cases hc : i = L.length
  · subst hc; simp [upd, hx]
  · have h2 : i < L.length := by omega
    rw [List.getElem_append_left h2]
    simp only [upd, if_neg hc]
    exact h i h2
theorem HoldB.take {f : Nat → Int32} {L : List Nat} (h : HoldB f L) (n : Nat) : HoldB f (L.take n) := by
  intro i hi
  rw [List.getElem_take]
  exact h i _
theorem HoldB.set {f : Nat → Int32} {L : List Nat} (h : HoldB f L) {k b : Nat} {x : Int32} (hx : x = sb_b b) : HoldB (upd f k x) (L.set k b) := by
  intro i hi
  simp only [List.length_set] at hi
  rw [List.getElem_set]
  by_cases hc : i = k
  · subst hc; simp [upd, hx]
  · rw [if_neg (fun q => hc q.symm)]
    simp only [upd, if_neg hc]
    exact h i hi
theorem HoldB.cpy {f g : Nat → Int32} {L : List Nat} (h : HoldB f L) : HoldB (va_cpy f g 0 0 L.length) L := by
  intro i hi
  rw [sb_cpy0 hi]
  exact h i hi
theorem Byt.nil : Byt [] := fun b h => absurd h List.not_mem_nil
theorem Byt.app {L M : List Nat} (h : Byt L) (h2 : Byt M) : Byt (L ++ M) := by
  intro b hb
  rcases List.mem_append.mp hb with q | q
  · exact h b q
  · exact h2 b q
theorem Byt.take {L : List Nat} (h : Byt L) (n : Nat) : Byt (L.take n) := fun b hb => h b (List.mem_of_mem_take hb)
theorem Byt.set {L : List Nat} (h : Byt L) {k b : Nat} (hb : b < 256) : Byt (L.set k b) := by
  intro x hx
  rcases List.mem_or_eq_of_mem_set hx with q | q
  · exact h x q
  · rw [q]; exact hb
def kGetB (L : List Nat) (i : Int32) : Int32 := if i < 0 then -1 else ((L[i.toNatClampNeg]?).map nI).getD (-1)
theorem kGetB_nI {L : List Nat} {j : Nat} (hj : j < 2 ^ 31) : kGetB L (nI j) = ((L[j]?).map nI).getD (-1) := by
  unfold kGetB; rw [if_neg (nI_pos hj), nI_clamp hj]
theorem kGetB_neg {L : List Nat} {i : Int32} (h : i < 0) : kGetB L i = -1 := by unfold kGetB; rw [if_pos h]
theorem HoldB.at {f : Nat → Int32} {L : List Nat} (h : HoldB f L) (hb : Byt L) {j : Nat} (hj : j < L.length) : f j &&& 255 = ((L[j]?).map nI).getD (-1) := by
  rw [List.getElem?_eq_getElem hj, h j hj]
  exact (sb_byte _ (hb _ (List.getElem_mem hj))).1
/-- the lowest n bytes of V, the highest of them first -/
def lowB (V : Nat) : Nat → List Nat
  | 0 => []
  | k + 1 => (V / 2 ^ (8 * k) % 256) :: lowB V k
theorem lowB_len (V n : Nat) : (lowB V n).length = n := by
  induction n with
  | zero => rfl
  | succ n ih => simp [lowB, ih]
theorem lowB_byt (V n : Nat) : Byt (lowB V n) := by
  induction n with
  | zero => exact Byt.nil
  | succ n ih =>
    intro b hb
    rcases List.mem_cons.mp hb with q | q
    · rw [q]; exact Nat.mod_lt _ (by decide)
    · exact ih b q
def lNat (v : Int64) : Nat := uN v
/-- codes -/
def kCode (u a b t : Int32) : Int32 := (((if u = 0 then 0 else 16777216) ||| a <<< ((16 : Int32) &&& 31)) ||| b <<< ((8 : Int32) &&& 31)) ||| t
def kUse (c : Int32) : Int32 := if c &&& 16777216 = 0 then 0 else 1
def kAhead (c : Int32) : Int32 := c >>> ((16 : Int32) &&& 31) &&& 255
def kAside (c : Int32) : Int32 := c >>> ((8 : Int32) &&& 31) &&& 255
def kTurn (c : Int32) : Int32 := c &&& 255
def kSide (c : Int32) : Int32 := if kAside c = 64 ∧ kTurn c = 16 then 0 else 1
def kStart (x y g t w : Int32) : Int32 := if w = 0 then x else if w = 1 then y else if w = 2 then g else if w = 3 then t else 100000
/-- how many of them use -/
def kUses (L : List Int32) : Nat := L.countP (fun c => decide (kUse c ≠ 0))
/-- the groups, from a run of n of the first one's like on -/
def kGr : Nat → List Int32 → List (Int32 × Nat)
  | _, [] => []
  | n, c :: cs => if n + 1 = 63 ∨ (cs[0]?).getD (-1) ≠ c then (c, n + 1) :: kGr 0 cs else kGr (n + 1) cs
/-- a group's bytes -/
def kGB (q : Int32 × Nat) : List Nat := lowB (lNat ((nI q.2 + (if kUse q.1 = 0 then 0 else 64)) + (if kSide q.1 = 0 then 0 else 128)).toInt64) 1 ++ lowB (lNat (kAhead q.1).toInt64) 1 ++ (if kSide q.1 = 0 then [] else lowB (lNat (kAside q.1).toInt64) 1 ++ lowB (lNat (kTurn q.1).toInt64) 1)
/-- the check's two numbers -/
def kCk : List Nat → Nat × Nat → Nat × Nat
  | [], q => q
  | b :: bs, q => kCk bs ((q.1 + b) % 65521, (q.2 + (q.1 + b) % 65521) % 65521)
def kChk (L : List Nat) : Int32 := nI (kCk L (1, 0)).2 <<< ((16 : Int32) &&& 31) ||| nI (kCk L (1, 0)).1
theorem kCk_snoc (L : List Nat) (b : Nat) : ∀ q, kCk (L ++ [b]) q = (((kCk L q).1 + b) % 65521, ((kCk L q).2 + ((kCk L q).1 + b) % 65521) % 65521) := by
  induction L with
  | nil => intro q; rfl
  | cons x xs ih => intro q; simp only [List.cons_append, kCk]; exact ih _
theorem kCk_lt (L : List Nat) : ∀ q : Nat × Nat, q.1 < 65521 → q.2 < 65521 → (kCk L q).1 < 65521 ∧ (kCk L q).2 < 65521 := by
  induction L with
  | nil => intro q h1 h2; exact ⟨h1, h2⟩
  | cons x xs ih => intro q h1 h2; exact ih _ (Nat.mod_lt _ (by decide)) (Nat.mod_lt _ (by decide))
def kIn (v lo hi : Int32) : Int32 := if lo ≤ v ∧ v ≤ hi then 1 else 0
def WRow (f : Nat → Int32) (L : List Int32) : Prop := Hold f L ∧ L.length ≤ 1024
def BRow (cap : Nat) (f : Nat → Int32) (L : List Nat) : Prop := HoldB f L ∧ Byt L ∧ L.length ≤ cap ∧ cap ≤ 8192
theorem BRow.push {cap : Nat} {f : Nat → Int32} {L : List Nat} (h : BRow cap f L) {b : Nat} {x : Int32} (hx : x = sb_b b) (hb : b < 256) (hl : L.length + 1 ≤ cap) : BRow cap (upd f L.length x) (L ++ [b]) :=
  ⟨h.1.push hx, h.2.1.app (fun z hz => by rw [List.mem_singleton.mp hz]; exact hb), by rw [List.length_append]; exact hl, h.2.2.2⟩
theorem kStart_out {x y g t w : Int32} (h : w.toInt < 0 ∨ 3 < w.toInt) : kStart x y g t w = 100000 := by
  unfold kStart
  have k : ∀ n : Int32, 0 ≤ n.toInt → n.toInt ≤ 3 → w ≠ n := fun n h1 h2 q => by rw [q] at h; omega
  rw [if_neg (k 0 (by decide) (by decide)), if_neg (k 1 (by decide) (by decide)), if_neg (k 2 (by decide) (by decide)), if_neg (k 3 (by decide) (by decide))]
theorem kTake_succ {L : List Int32} {ia j : Nat} (h : ia + j < L.length) : (L ++ (L.drop ia).take j) ++ List.replicate 1 ((L[ia + j]?).getD (-1)) = (L ++ (L.drop ia).take (j + 1)) := by
  rw [List.append_assoc]
  congr 1
  have h2 : j < (L.drop ia).length := by rw [List.length_drop]; omega
  rw [List.take_succ_eq_append_getElem h2, List.getElem?_eq_getElem h]
  simp
theorem drop_cons {L : List Int32} {j : Nat} (h : j < L.length) : L.drop j = (L[j]?).getD (-1) :: L.drop (j + 1) := by
  rw [List.getElem?_eq_getElem h]; exact List.drop_eq_getElem_cons h
theorem take_snoc {L : List Int32} {j : Nat} (h : j < L.length) : L.take (j + 1) = L.take j ++ [(L[j]?).getD (-1)] := by
  rw [List.getElem?_eq_getElem h]; exact List.take_succ_eq_append_getElem h
theorem kUses_n {L : List Int32} {j : Nat} (h : j < L.length) (h0 : kUse ((L[j]?).getD (-1)) = 0) : kUses (L.take (j + 1)) = kUses (L.take j) := by
  rw [take_snoc h]; unfold kUses; rw [List.countP_append]; simp [List.countP_cons, h0]
theorem kUses_y {L : List Int32} {j : Nat} (h : j < L.length) (h0 : ¬ kUse ((L[j]?).getD (-1)) = 0) : kUses (L.take (j + 1)) = kUses (L.take j) + 1 := by
  rw [take_snoc h]; unfold kUses; rw [List.countP_append]; simp [List.countP_cons, h0]
def kEnd (L : List Int32) (j k : Nat) : Int32 := if k = 63 ∨ (L[j + 1]?).getD (-1) ≠ (L[j]?).getD (-1) then 1 else 0
theorem kGr_n {L : List Int32} {j n : Nat} (h : j < L.length) (h0 : kEnd L j (n + 1) = 0) : kGr n (L.drop j) = kGr (n + 1) (L.drop (j + 1)) := by
  rw [drop_cons h]
  unfold kEnd at h0
  have hc : ¬ (n + 1 = 63 ∨ (L[j + 1]?).getD (-1) ≠ (L[j]?).getD (-1)) := fun q => by rw [if_pos q] at h0; exact absurd h0 (by decide)
  rw [kGr]
  rw [if_neg]
  rw [List.getElem?_drop]
  exact hc
theorem kGr_y {L : List Int32} {j n : Nat} (h : j < L.length) (h0 : ¬ kEnd L j (n + 1) = 0) : kGr n (L.drop j) = ((L[j]?).getD (-1), n + 1) :: kGr 0 (L.drop (j + 1)) := by
  rw [drop_cons h]
  unfold kEnd at h0
  have hc : (n + 1 = 63 ∨ (L[j + 1]?).getD (-1) ≠ (L[j]?).getD (-1)) := Decidable.byContradiction (fun q => h0 (if_neg q))
  rw [kGr]
  rw [if_pos]
  rw [List.getElem?_drop]
  exact hc
def iByte (b : Int32) : Nat := b.toBitVec.toNat % 256
theorem sb8 (n : Nat) : (sb_b n).toInt8.toInt32 = sb_b n := by
  have := pk_vb (nI n); rw [vp_nar_byte] at this; exact this
theorem i8_mod (x : Int32) : x.toInt8.toInt32 = sb_b (iByte x) :=
  (sc_eq (by have := pk_vb x; rwa [vp_nar_byte] at this) (Nat.mod_lt _ (by decide))).mpr ((bp_b x).trans (pk_and x 8 (by decide)))
theorem l2i_mod (y : Int64) : y.toInt32.toBitVec.toNat = uN y % 2 ^ 32 := by
  rw [Int64.toBitVec_toInt32]
  rw [BitVec.signExtend_eq_setWidth_of_le _ (by decide), BitVec.toNat_setWidth]
  rfl
theorem lNat_byte (v : Int64) (k : Nat) (hk : k < 8) : (v.toUInt64 >>> ((nI (8 * k)).toInt64.toUInt64 &&& Int64.toUInt64 63)).toInt64.toInt32.toInt8.toInt32 = sb_b (lNat v / 2 ^ (8 * k) % 256) := by
  rw [i8_mod]
  congr 1
  unfold iByte
  rw [l2i_mod, uN_sk v (by omega)]
  unfold lNat
  omega
theorem iByte_sb (v : Int32) : v.toInt8.toInt32.toInt8.toInt32 = sb_b (iByte v) := by rw [i8_mod v, sb8]
theorem kq0 {q : Nat} (h : nI q - 1 < 0) (hq : q < 2 ^ 31) : q = 0 := by
  rcases Nat.eq_zero_or_pos q with h0 | h0
  · exact h0
  · exfalso
    obtain ⟨z, rfl⟩ : ∃ z, q = z + 1 := ⟨q - 1, by omega⟩
    rw [nI_pred] at h
    exact nI_pos (by omega) h
theorem kq1 {q : Nat} (h : ¬ nI q - 1 < 0) : ∃ z, q = z + 1 := by
  rcases Nat.eq_zero_or_pos q with h0 | h0
  · subst h0; exact absurd (by decide) h
  · exact ⟨q - 1, by omega⟩
theorem kGetB_at {L : List Nat} {j : Nat} (h : j < L.length) (hj : j < 2 ^ 31) : kGetB L (nI j) = nI (L.getD j 0) := by
  rw [kGetB_nI hj, List.getElem?_eq_getElem h, List.getD_eq_getElem?_getD, List.getElem?_eq_getElem h]; rfl
theorem Byt.getD {L : List Nat} (h : Byt L) (j : Nat) : L.getD j 0 < 256 := by
  rw [List.getD_eq_getElem?_getD]
  by_cases hj : j < L.length
  · rw [List.getElem?_eq_getElem hj]; exact h _ (List.getElem_mem hj)
  · rw [List.getElem?_eq_none (by omega)]; exact (by decide : (0 : Nat) < 256)
theorem kCk_step {L : List Nat} {j a b : Nat} (he : kCk (L.take j) (1, 0) = (a, b)) (hj : j < L.length) : kCk (L.take (j + 1)) (1, 0) = ((a + L.getD j 0) % 65521, (b + (a + L.getD j 0) % 65521) % 65521) := by
  rw [List.take_succ_eq_append_getElem hj, kCk_snoc, he, List.getD_eq_getElem?_getD, List.getElem?_eq_getElem hj]; rfl
/-! READING, as the class does it: (next, n of the group ahead, fault, place) -/
abbrev RS : Type := Nat × Nat × Int32 × Int32
def rNx (q : RS) : Nat := q.1
def rAn (q : RS) : Nat := q.2.1
def rFt (q : RS) : Int32 := q.2.2.1
def rPl (q : RS) : Int32 := q.2.2.2
def rFail (nf p0 : Int32) (q : RS) : RS := if rFt q = 0 then (rNx q, rAn q, nf, p0) else q
theorem rFail_y {nf p0 : Int32} {q : RS} (h : rFt q = 0) : rFail nf p0 q = (rNx q, rAn q, nf, p0) := if_pos h
theorem rFail_n {nf p0 : Int32} {q : RS} (h : ¬ rFt q = 0) : rFail nf p0 q = q := if_neg h
theorem rFail_nx (nf p0 : Int32) (q : RS) : rNx (rFail nf p0 q) = rNx q := by unfold rFail; split <;> rfl
theorem rFail_an (nf p0 : Int32) (q : RS) : rAn (rFail nf p0 q) = rAn q := by unfold rFail; split <;> rfl
def tTake (L : List Nat) (mo : Int32) (q : RS) : Int32 × RS := if rFt q = 0 then (if kGetB L (nI (rNx q)) = -1 then (-1, rFail 1 (nI (rNx q)) q) else if kGetB L (nI (rNx q)) ≤ mo then (kGetB L (nI (rNx q)), (rNx q + 1, rAn q, rFt q, rPl q)) else (-1, rFail 3 (nI (rNx q)) q)) else (-1, q)
theorem tTake_f {L : List Nat} {mo : Int32} {q : RS} (h : ¬ rFt q = 0) : tTake L mo q = (-1, q) := if_neg h
theorem tTake_e {L : List Nat} {mo : Int32} {q : RS} (h : rFt q = 0) (h1 : kGetB L (nI (rNx q)) = -1) : tTake L mo q = (-1, rFail 1 (nI (rNx q)) q) := by unfold tTake; rw [if_pos h, if_pos h1]
theorem tTake_b {L : List Nat} {mo : Int32} {q : RS} (h : rFt q = 0) (h1 : ¬ kGetB L (nI (rNx q)) = -1) (h2 : ¬ kGetB L (nI (rNx q)) ≤ mo) : tTake L mo q = (-1, rFail 3 (nI (rNx q)) q) := by unfold tTake; rw [if_pos h, if_neg h1, if_neg h2]
theorem tTake_k {L : List Nat} {mo : Int32} {q : RS} (h : rFt q = 0) (h1 : ¬ kGetB L (nI (rNx q)) = -1) (h2 : kGetB L (nI (rNx q)) ≤ mo) : tTake L mo q = (kGetB L (nI (rNx q)), (rNx q + 1, rAn q, rFt q, rPl q)) := by unfold tTake; rw [if_pos h, if_neg h1, if_pos h2]
theorem tTake_nx {L : List Nat} {q : RS} (mo : Int32) (hq : rNx q ≤ L.length) (hL : L.length ≤ 8192) : rNx (tTake L mo q).2 ≤ L.length := by
  by_cases h : rFt q = 0
  · by_cases h1 : kGetB L (nI (rNx q)) = -1
    · rw [tTake_e h h1]; show rNx (rFail 1 _ q) ≤ _; rw [rFail_nx]; exact hq
    · by_cases h2 : kGetB L (nI (rNx q)) ≤ mo
      · rw [tTake_k h h1 h2]
        show rNx q + 1 ≤ _
        rcases Nat.lt_or_ge (rNx q) L.length with q2 | q2
        · exact q2
        · exact absurd (by rw [kGetB_nI (by omega), List.getElem?_eq_none q2]; rfl) h1
      · rw [tTake_b h h1 h2]; show rNx (rFail 3 _ q) ≤ _; rw [rFail_nx]; exact hq
  · rw [tTake_f h]; exact hq
theorem tTake_an (L : List Nat) (mo : Int32) (q : RS) : rAn (tTake L mo q).2 = rAn q := by
  by_cases h : rFt q = 0
  · by_cases h1 : kGetB L (nI (rNx q)) = -1
    · rw [tTake_e h h1]; exact rFail_an _ _ _
    · by_cases h2 : kGetB L (nI (rNx q)) ≤ mo
      · rw [tTake_k h h1 h2]; rfl
      · rw [tTake_b h h1 h2]; exact rFail_an _ _ _
  · rw [tTake_f h]
def tOnly (L : List Nat) (due nf : Int32) (q : RS) : RS := if (tTake L 255 q).1 = due then (tTake L 255 q).2 else rFail nf (nI (rNx q)) (tTake L 255 q).2
theorem tOnly_y {L : List Nat} {due nf : Int32} {q : RS} (h : (tTake L 255 q).1 = due) : tOnly L due nf q = (tTake L 255 q).2 := if_pos h
theorem tOnly_n {L : List Nat} {due nf : Int32} {q : RS} (h : ¬ (tTake L 255 q).1 = due) : tOnly L due nf q = rFail nf (nI (rNx q)) (tTake L 255 q).2 := if_neg h
theorem tOnly_nx {L : List Nat} {q : RS} (due nf : Int32) (hq : rNx q ≤ L.length) (hL : L.length ≤ 8192) : rNx (tOnly L due nf q) ≤ L.length := by
  unfold tOnly; split
  · exact tTake_nx _ hq hL
  · rw [rFail_nx]; exact tTake_nx _ hq hL
def tMark (L : List Nat) (q : RS) : RS := tOnly L 1 2 (tOnly L 68 2 (tOnly L 77 2 q))
theorem tMark_nx {L : List Nat} {q : RS} (hq : rNx q ≤ L.length) (hL : L.length ≤ 8192) : rNx (tMark L q) ≤ L.length := tOnly_nx _ _ (tOnly_nx _ _ (tOnly_nx _ _ hq hL) hL) hL
def kPlace (h l0 : Int32) : Int32 := if h * 256 + l0 ≤ 32767 then h * 256 + l0 else h * 256 + l0 - 65536
def tPlace (L : List Nat) (q : RS) : Int32 × RS := (kPlace (tTake L 255 q).1 (tTake L 255 (tTake L 255 q).2).1, (tTake L 255 (tTake L 255 q).2).2)
theorem tPlace_nx {L : List Nat} {q : RS} (hq : rNx q ≤ L.length) (hL : L.length ≤ 8192) : rNx (tPlace L q).2 ≤ L.length := tTake_nx _ (tTake_nx _ hq hL) hL
/-- the start's four, then the state -/
def tS1 (L : List Nat) (q : RS) : RS := (tPlace L q).2
def tS2 (L : List Nat) (q : RS) : RS := (tPlace L (tS1 L q)).2
def tS3 (L : List Nat) (q : RS) : RS := (tTake L 63 (tS2 L q)).2
def tS4 (L : List Nat) (q : RS) : RS := (tTake L 255 (tS3 L q)).2
theorem tS4_nx {L : List Nat} {q : RS} (hq : rNx q ≤ L.length) (hL : L.length ≤ 8192) : rNx (tS4 L q) ≤ L.length := tTake_nx _ (tTake_nx _ (tPlace_nx (tPlace_nx hq hL) hL) hL) hL
def tCode (L : List Nat) (fi : Int32) (q : RS) : Int32 × RS :=
  let q1 := (tTake L 128 q).2
  if fi &&& 128 = 0 then (kCode (if fi &&& 64 = 0 then 0 else 1) (tTake L 128 q).1 64 16, q1)
  else
    let q2 := (tTake L 128 q1).2
    let q3 := (tTake L 32 q2).2
    (kCode (if fi &&& 64 = 0 then 0 else 1) (tTake L 128 q).1 (tTake L 128 q1).1 (tTake L 32 q2).1,
      if (tTake L 128 q1).1 = 64 ∧ (tTake L 32 q2).1 = 16 then rFail 3 (nI (rNx q2)) q3 else q3)
theorem tCode_nx {L : List Nat} {fi : Int32} {q : RS} (hq : rNx q ≤ L.length) (hL : L.length ≤ 8192) : rNx (tCode L fi q).2 ≤ L.length := by
  unfold tCode
  dsimp only
  split
  · exact tTake_nx _ hq hL
  · dsimp only
    have h3 := tTake_nx 32 (tTake_nx 128 (tTake_nx 128 hq hL) hL) hL
    split
    · rw [rFail_nx]; exact h3
    · exact h3
def kN (b : Int32) : Nat := (b &&& 63).toNatClampNeg
theorem kN_ex (b : Int32) : kN b < 64 ∧ b &&& 63 = nI (kN b) := by
  obtain ⟨j, hj, e⟩ := pk_andE b (m := 63) 6 (by decide)
  have h2 : kN b = j := by unfold kN; rw [e]; exact nI_clamp (by omega)
  rw [h2]; exact ⟨by omega, e⟩
theorem kN_eq (b : Int32) : b &&& 63 = nI (kN b) := (kN_ex b).2
theorem kN_le (b : Int32) : kN b ≤ 63 := Nat.le_of_lt_succ (kN_ex b).1
/-- a group: 1 if it goes on; the codes; the state -/
def tG2 (L : List Nat) (q : RS) : RS := if kN (tTake L 255 q).1 = 0 then rFail 3 (nI (rNx q)) (tTake L 255 q).2 else (tTake L 255 q).2
def tG3 (L : List Nat) (M : List Int32) (q : RS) : RS := if kN (tTake L 255 q).1 ≤ 1024 - M.length then tG2 L q else rFail 5 (nI (rNx q)) (tG2 L q)
def tG4 (L : List Nat) (M : List Int32) (q : RS) : Int32 × RS := tCode L (tTake L 255 q).1 (tG3 L M q)
def tG5 (L : List Nat) (M : List Int32) (q : RS) : RS := if rAn (tG4 L M q).2 < 63 ∧ kGet M (nI M.length - 1) = (tG4 L M q).1 then rFail 4 (nI (rNx q)) (tG4 L M q).2 else (tG4 L M q).2
def tGroup (L : List Nat) (M : List Int32) (q : RS) : Int32 × List Int32 × RS :=
  if (tTake L 255 q).1 = -1 ∨ (tTake L 255 q).1 = 0 then (0, M, (tTake L 255 q).2)
  else if rFt (tG5 L M q) = 0 then (1, M ++ List.replicate (kN (tTake L 255 q).1) (tG4 L M q).1, (rNx (tG5 L M q), kN (tTake L 255 q).1, rFt (tG5 L M q), rPl (tG5 L M q))) else (0, M, tG5 L M q)
def tGroups (L : List Nat) : Nat → List Int32 → RS → List Int32 × RS
  | 0, M, q => (M, q)
  | n + 1, M, q => if (tGroup L M q).1 = 0 then ((tGroup L M q).2.1, (tGroup L M q).2.2) else tGroups L n (tGroup L M q).2.1 (tGroup L M q).2.2
def kByteOf (x : Int32) (k : Nat) : Int32 := ((x.toUInt32 >>> ((nI (8 * k)).toUInt32 &&& Int32.toUInt32 31)).toInt32) &&& 255
def tCheck (L : List Nat) (q : RS) : RS :=
  let x := kChk (L.take (rNx q))
  tOnly L (kByteOf x 0) 6 (tOnly L (kByteOf x 1) 6 (tOnly L (kByteOf x 2) 6 (tOnly L (kByteOf x 3) 6 q)))
theorem tCheck_nx {L : List Nat} {q : RS} (hq : rNx q ≤ L.length) (hL : L.length ≤ 8192) : rNx (tCheck L q) ≤ L.length := tOnly_nx _ _ (tOnly_nx _ _ (tOnly_nx _ _ (tOnly_nx _ _ hq hL) hL) hL) hL
def tEnd (L : List Nat) (q : RS) : RS := if rNx q < L.length then rFail 7 (nI (rNx q)) q else q
theorem tCode_s {L : List Nat} {fi : Int32} {q : RS} (h : fi &&& 128 = 0) : tCode L fi q = (kCode (if fi &&& 64 = 0 then 0 else 1) (tTake L 128 q).1 64 16, (tTake L 128 q).2) := if_pos h
theorem tCode_v {L : List Nat} {fi : Int32} {q : RS} (h : ¬ fi &&& 128 = 0) : (tCode L fi q).1 = kCode (if fi &&& 64 = 0 then 0 else 1) (tTake L 128 q).1 (tTake L 128 (tTake L 128 q).2).1 (tTake L 32 (tTake L 128 (tTake L 128 q).2).2).1 := by unfold tCode; dsimp only; rw [if_neg h]
theorem tCode_w {L : List Nat} {fi : Int32} {q : RS} (h : ¬ fi &&& 128 = 0) : (tCode L fi q).2 = if (tTake L 128 (tTake L 128 q).2).1 = 64 ∧ (tTake L 32 (tTake L 128 (tTake L 128 q).2).2).1 = 16 then rFail 3 (nI (rNx (tTake L 128 (tTake L 128 q).2).2)) (tTake L 32 (tTake L 128 (tTake L 128 q).2).2).2 else (tTake L 32 (tTake L 128 (tTake L 128 q).2).2).2 := by unfold tCode; dsimp only; rw [if_neg h]
theorem tCode_f {L : List Nat} {fi : Int32} {q : RS} (h : ¬ fi &&& 128 = 0) (h2 : (tTake L 128 (tTake L 128 q).2).1 = 64 ∧ (tTake L 32 (tTake L 128 (tTake L 128 q).2).2).1 = 16) : (tCode L fi q).2 = rFail 3 (nI (rNx (tTake L 128 (tTake L 128 q).2).2)) (tTake L 32 (tTake L 128 (tTake L 128 q).2).2).2 := by rw [tCode_w h, if_pos h2]
theorem tCode_g {L : List Nat} {fi : Int32} {q : RS} (h : ¬ fi &&& 128 = 0) (h2 : ¬ ((tTake L 128 (tTake L 128 q).2).1 = 64 ∧ (tTake L 32 (tTake L 128 (tTake L 128 q).2).2).1 = 16)) : (tCode L fi q).2 = (tTake L 32 (tTake L 128 (tTake L 128 q).2).2).2 := by rw [tCode_w h, if_neg h2]

theorem tG2_y {L : List Nat} {q : RS} (h : kN (tTake L 255 q).1 = 0) : tG2 L q = rFail 3 (nI (rNx q)) (tTake L 255 q).2 := if_pos h
theorem tG2_n {L : List Nat} {q : RS} (h : kN (tTake L 255 q).1 ≠ 0) : tG2 L q = (tTake L 255 q).2 := if_neg h
theorem tG3_y {L : List Nat} {M : List Int32} {q : RS} (h : kN (tTake L 255 q).1 ≤ 1024 - M.length) : tG3 L M q = tG2 L q := if_pos h
theorem tG3_n {L : List Nat} {M : List Int32} {q : RS} (h : 1024 - M.length < kN (tTake L 255 q).1) : tG3 L M q = rFail 5 (nI (rNx q)) (tG2 L q) := if_neg (Nat.not_le.mpr h)
theorem tG5_y {L : List Nat} {M : List Int32} {q : RS} (h : rAn (tG4 L M q).2 < 63 ∧ kGet M (nI M.length - 1) = (tG4 L M q).1) : tG5 L M q = rFail 4 (nI (rNx q)) (tG4 L M q).2 := if_pos h
theorem tG5_n {L : List Nat} {M : List Int32} {q : RS} (h : ¬ (rAn (tG4 L M q).2 < 63 ∧ kGet M (nI M.length - 1) = (tG4 L M q).1)) : tG5 L M q = (tG4 L M q).2 := if_neg h
theorem tG2_nx {L : List Nat} {q : RS} (hq : rNx q ≤ L.length) (hL : L.length ≤ 8192) : rNx (tG2 L q) ≤ L.length := by
  unfold tG2; split
  · rw [rFail_nx]; exact tTake_nx _ hq hL
  · exact tTake_nx _ hq hL
theorem tG3_nx {L : List Nat} {M : List Int32} {q : RS} (hq : rNx q ≤ L.length) (hL : L.length ≤ 8192) : rNx (tG3 L M q) ≤ L.length := by
  unfold tG3; split
  · exact tG2_nx hq hL
  · rw [rFail_nx]; exact tG2_nx hq hL
theorem tCode_an (L : List Nat) (fi : Int32) (q : RS) : rAn (tCode L fi q).2 = rAn q := by
  by_cases h : fi &&& 128 = 0
  · rw [tCode_s h]; exact tTake_an _ _ _
  · rw [tCode_w h]
    split
    · rw [rFail_an, tTake_an, tTake_an, tTake_an]
    · rw [tTake_an, tTake_an, tTake_an]
theorem tG3_an (L : List Nat) (M : List Int32) (q : RS) : rAn (tG3 L M q) = rAn q := by
  have h2 : rAn (tG2 L q) = rAn q := by
    unfold tG2; split
    · rw [rFail_an, tTake_an]
    · rw [tTake_an]
  unfold tG3; split
  · exact h2
  · rw [rFail_an, h2]
theorem tG4_an (L : List Nat) (M : List Int32) (q : RS) : rAn (tCode L (tTake L 255 q).1 (tG3 L M q)).2 = rAn q := by rw [tCode_an, tG3_an]
theorem tGroup_0 {L : List Nat} {M : List Int32} {q : RS} (h : (tTake L 255 q).1 = -1 ∨ (tTake L 255 q).1 = 0) : tGroup L M q = (0, M, (tTake L 255 q).2) := if_pos h
theorem tGroup_f {L : List Nat} {M : List Int32} {q : RS} (h : ¬ ((tTake L 255 q).1 = -1 ∨ (tTake L 255 q).1 = 0)) (h5 : ¬ rFt (tG5 L M q) = 0) : tGroup L M q = (0, M, tG5 L M q) := by unfold tGroup; rw [if_neg h, if_neg h5]
theorem tGroup_k {L : List Nat} {M : List Int32} {q : RS} (h : ¬ ((tTake L 255 q).1 = -1 ∨ (tTake L 255 q).1 = 0)) (h5 : rFt (tG5 L M q) = 0) : tGroup L M q = (1, M ++ List.replicate (kN (tTake L 255 q).1) (tG4 L M q).1, (rNx (tG5 L M q), kN (tTake L 255 q).1, rFt (tG5 L M q), rPl (tG5 L M q))) := by unfold tGroup; rw [if_neg h, if_pos h5]
theorem rFail_ft {nf p0 : Int32} {q : RS} (hn : nf ≠ 0) : ¬ rFt (rFail nf p0 q) = 0 := by
  by_cases h : rFt q = 0
  · rw [rFail_y h]; exact hn
  · rw [rFail_n h]; exact h
theorem tTake_ft {L : List Nat} {mo : Int32} {q : RS} (h : ¬ rFt q = 0) : ¬ rFt (tTake L mo q).2 = 0 := by rw [tTake_f h]; exact h
theorem tCode_ft {L : List Nat} {fi : Int32} {q : RS} (h : ¬ rFt q = 0) : ¬ rFt (tCode L fi q).2 = 0 := by
  by_cases h8 : fi &&& 128 = 0
  · rw [tCode_s h8]; exact tTake_ft h
  · rw [tCode_w h8]
    split
    · exact rFail_ft (by decide)
    · exact tTake_ft (tTake_ft (tTake_ft h))
theorem tG5_ft {L : List Nat} {M : List Int32} {q : RS} (h : ¬ rFt (tG3 L M q) = 0) : ¬ rFt (tG5 L M q) = 0 := by
  unfold tG5; split
  · exact rFail_ft (by decide)
  · exact tCode_ft h
theorem tG5_room {L : List Nat} {M : List Int32} {q : RS} (_ : ¬ ((tTake L 255 q).1 = -1 ∨ (tTake L 255 q).1 = 0)) (h5 : rFt (tG5 L M q) = 0) : kN (tTake L 255 q).1 ≤ 1024 - M.length := by
  rcases Nat.lt_or_ge (1024 - M.length) (kN (tTake L 255 q).1) with h | h
  · exact absurd h5 (tG5_ft (by rw [tG3_n h]; exact rFail_ft (by decide)))
  · exact h
theorem tG5_nx {L : List Nat} {M : List Int32} {q : RS} (hq : rNx q ≤ L.length) (hL : L.length ≤ 8192) : rNx (tG5 L M q) ≤ L.length := by
  have h4 : rNx (tG4 L M q).2 ≤ L.length := tCode_nx (tG3_nx hq hL) hL
  unfold tG5; split
  · rw [rFail_nx]; exact h4
  · exact h4
theorem tG5_an (L : List Nat) (M : List Int32) (q : RS) : rAn (tG5 L M q) = rAn q := by
  unfold tG5; split
  · rw [rFail_an]; exact tG4_an _ _ _
  · exact tG4_an _ _ _
theorem tGroup_nx {L : List Nat} {M : List Int32} {q : RS} (hq : rNx q ≤ L.length) (hL : L.length ≤ 8192) : rNx (tGroup L M q).2.2 ≤ L.length := by
  unfold tGroup; split
  · exact tTake_nx _ hq hL
  · split
    · exact tG5_nx hq hL
    · exact tG5_nx hq hL
theorem tGroup_an {L : List Nat} {M : List Int32} {q : RS} (hq : rAn q ≤ 63) : rAn (tGroup L M q).2.2 ≤ 63 := by
  unfold tGroup; split
  · show rAn (tTake L 255 q).2 ≤ 63; rw [tTake_an]; exact hq
  · split
    · exact kN_le _
    · show rAn (tG5 L M q) ≤ 63; rw [tG5_an]; exact hq
theorem tGroups_step {L : List Nat} {M : List Int32} {q : RS} {n : Nat} (h : n < 1025) : tGroups L (1025 - n) M q = if (tGroup L M q).1 = 0 then ((tGroup L M q).2.1, (tGroup L M q).2.2) else tGroups L (1025 - (n + 1)) (tGroup L M q).2.1 (tGroup L M q).2.2 := by
  rw [show 1025 - n = (1025 - (n + 1)) + 1 by omega]; rfl
theorem tGroups_nx {L : List Nat} (hL : L.length ≤ 8192) : ∀ (n : Nat) (M : List Int32) (q : RS), rNx q ≤ L.length → rNx (tGroups L n M q).2 ≤ L.length := by
  intro n
  induction n with
  | zero => intro M q hq; exact hq
  | succ n ih =>
    intro M q hq
    rw [tGroups]; split
    · exact tGroup_nx hq hL
    · exact ih _ _ (tGroup_nx hq hL)
def q00 : RS := (0, 0, 0, -1)
def tQ1 (L : List Nat) : RS := tMark L q00
def tQ2 (L : List Nat) : RS := tS4 L (tQ1 L)
def tQ3 (L : List Nat) : List Int32 × RS := tGroups L 1025 [] (tQ2 L)
def tQ4 (L : List Nat) : RS := tCheck L (tQ3 L).2
def tRead (L : List Nat) : List Int32 × RS := ((tQ3 L).1, tEnd L (tQ4 L))
def tRX (L : List Nat) : Int32 := (tPlace L (tQ1 L)).1
def tRY (L : List Nat) : Int32 := (tPlace L (tS1 L (tQ1 L))).1
def tRG (L : List Nat) : Int32 := (tTake L 63 (tS2 L (tQ1 L))).1
def tRT (L : List Nat) : Int32 := (tTake L 255 (tS3 L (tQ1 L))).1
theorem tOnly_an (L : List Nat) (du nf : Int32) (q : RS) : rAn (tOnly L du nf q) = rAn q := by
  unfold tOnly; split
  · exact tTake_an _ _ _
  · rw [rFail_an, tTake_an]
theorem tQ2_an (L : List Nat) : rAn (tS4 L (tMark L q00)) = 0 := by
  unfold tS4 tS3 tS2 tS1 tPlace tMark
  simp only [tTake_an, tOnly_an]
  rfl
theorem tQ4_nx {L : List Nat} (hL : L.length ≤ 8192) : rNx (tQ4 L) ≤ L.length := tCheck_nx (tGroups_nx hL _ _ _ (tS4_nx (tMark_nx (Nat.zero_le _) hL) hL)) hL
theorem tRead_y {L : List Nat} (h : rNx (tQ4 L) < L.length) : tRead L = ((tQ3 L).1, rFail 7 (nI (rNx (tQ4 L))) (tQ4 L)) := by unfold tRead tEnd; rw [if_pos h]
theorem tRead_n {L : List Nat} (h : L.length ≤ rNx (tQ4 L)) : tRead L = ((tQ3 L).1, tQ4 L) := by unfold tRead tEnd; rw [if_neg (Nat.not_lt.mpr h)]

theorem kGB_n {L : List Nat} {cd : Int32} {k : Nat} (h : kSide cd = 0) : L ++ kGB (cd, k) = (L ++ lowB (lNat (nI k + (if kUse cd = 0 then 0 else 64) + (if kSide cd = 0 then 0 else 128)).toInt64) 1) ++ lowB (lNat (kAhead cd).toInt64) 1 := by
  unfold kGB; dsimp only; rw [if_pos (p := kSide cd = 0) (a := ([] : List Nat)) h, List.append_nil, List.append_assoc]
theorem kGB_y {L : List Nat} {cd : Int32} {k : Nat} (h : ¬ kSide cd = 0) : L ++ kGB (cd, k) = (((L ++ lowB (lNat (nI k + (if kUse cd = 0 then 0 else 64) + (if kSide cd = 0 then 0 else 128)).toInt64) 1) ++ lowB (lNat (kAhead cd).toInt64) 1) ++ lowB (lNat (kAside cd).toInt64) 1) ++ lowB (lNat (kTurn cd).toInt64) 1 := by
  unfold kGB; dsimp only; rw [if_neg (p := kSide cd = 0) (a := ([] : List Nat)) h]; simp only [List.append_assoc]
theorem kGB_len (q : Int32 × Nat) : (kGB q).length ≤ 4 := by
  unfold kGB; split <;> simp [lowB_len]
theorem kEnd_n {M : List Int32} {j n : Nat} (h : kEnd M j (n + 1) = 0) (hn : n ≤ 62) : n + 1 ≤ 62 := by
  unfold kEnd at h
  rcases Nat.lt_or_ge n 62 with q | q
  · omega
  · rw [if_pos (Or.inl (by omega))] at h; exact absurd h (by decide)
theorem kGr_len' : ∀ (M : List Int32) (n : Nat), ((kGr n M).flatMap kGB).length ≤ 4 * M.length := by
  intro M
  induction M with
  | nil => intro n; exact Nat.zero_le _
  | cons c cs ih =>
    intro n
    rw [kGr]; split
    · rw [List.flatMap_cons, List.length_append, List.length_cons]
      have := kGB_len (c, n + 1); have := ih 0; omega
    · rw [List.length_cons]; have := ih (n + 1); omega
theorem kGr_len (M : List Int32) : ((kGr 0 M).flatMap kGB).length ≤ 4 * M.length := kGr_len' M 0
def kPre (M : List Int32) (x y g t : Int32) : List Nat := (((((((([] ++ lowB (lNat (77 : Int32).toInt64) 1) ++ lowB (lNat (68 : Int32).toInt64) 1) ++ lowB (lNat (1 : Int32).toInt64) 1) ++ lowB (lNat x.toInt64) 2) ++ lowB (lNat y.toInt64) 2) ++ lowB (lNat g.toInt64) 1) ++ lowB (lNat t.toInt64) 1) ++ (kGr 0 M).flatMap kGB) ++ lowB (lNat 0) 1
def kOut (M : List Int32) (x y g t : Int32) : List Nat := kPre M x y g t ++ lowB (lNat (kChk ((kPre M x y g t).take (kPre M x y g t).length)).toInt64) 4

theorem kIn_01 (v lo hi : Int32) : (¬ kIn v lo hi = 0) ↔ (lo ≤ v ∧ v ≤ hi) := by
  unfold kIn; split
  · rename_i h; exact ⟨fun _ => h, fun _ => by decide⟩
  · rename_i h; exact ⟨fun q => absurd rfl q, fun q => absurd q h⟩
theorem kIn_nI0 {v : Int32} {n : Nat} (h : ¬ kIn v 0 (nI n) = 0) (hn : n < 2 ^ 31) : ∃ k, k ≤ n ∧ v = nI k := by
  obtain ⟨h1, h2⟩ := (kIn_01 _ _ _).mp h
  obtain ⟨k, hk, rfl⟩ := nI_of (Int32.not_lt.mpr h1)
  exact ⟨k, (nI_leI hk hn).mp h2, rfl⟩
theorem kIn_nI {v : Int32} {n : Nat} (h : ¬ kIn v 1 (nI n) = 0) (hn : n < 2 ^ 31) : ∃ k, (1 ≤ k ∧ k ≤ n) ∧ v = nI k := by
  obtain ⟨h1, h2⟩ := (kIn_01 _ _ _).mp h
  have h0 : ¬ v < 0 := by
    rw [k32_lt]; rw [k32_le] at h1
    have e1 : (1 : Int32).toInt = 1 := by decide
    have e0 : (0 : Int32).toInt = 0 := by decide
    omega
  obtain ⟨k, hk, rfl⟩ := nI_of h0
  exact ⟨k, ⟨(nI_leI (a := 1) (by decide) hk).mp h1, (nI_leI hk hn).mp h2⟩, rfl⟩
theorem kIn_ix {v : Int32} {n : Nat} (h : ¬ kIn v 0 (nI n - 1) = 0) (hn : n < 2 ^ 31) : ∃ k, k < n ∧ v = nI k := by
  rcases Nat.eq_zero_or_pos n with h0 | h0
  · subst h0
    obtain ⟨h1, h2⟩ := (kIn_01 _ _ _).mp h
    have e : nI 0 - 1 = -1 := by decide
    rw [e] at h2
    exact absurd (Int32.le_trans h1 h2) (by decide)
  · obtain ⟨z, rfl⟩ : ∃ z, n = z + 1 := ⟨n - 1, by omega⟩
    rw [nI_pred] at h
    obtain ⟨k, hk, e⟩ := kIn_nI0 h (by omega)
    exact ⟨k, by omega, e⟩
abbrev kStOk (px py pg pt : Int32) : Prop := ¬ kIn px (-32768) 32767 = 0 ∧ ¬ kIn py (-32768) 32767 = 0 ∧ ¬ kIn pg 0 63 = 0 ∧ ¬ kIn pt 0 255 = 0
abbrev kRcOk (M : List Int32) (pa ps pt pn : Int32) : Prop := ¬ kIn pa (-64) 64 = 0 ∧ ¬ kIn ps (-64) 64 = 0 ∧ ¬ kIn pt (-16) 16 = 0 ∧ ¬ kIn pn 1 (nI (1024 - M.length)) = 0
abbrev kAgOk (M : List Int32) (pi pn : Int32) : Prop := ¬ kIn pi 0 (nI M.length - 1) = 0 ∧ ¬ kIn pn 1 (nI M.length - pi) = 0 ∧ pn ≤ nI (1024 - M.length)
abbrev kGvOk (I : List Nat) (pn : Int32) : Prop := ¬ kIn pn 1 8 = 0 ∧ pn ≤ nI (8192 - I.length)
def kInW (c w : Int32) : Int32 := if w = 0 then kAhead c - 64 else if w = 1 then kAside c - 64 else if w = 2 then kTurn c - 16 else if w = 3 then (if kUse c = 0 then 0 else 1) else 100000
theorem kInW_out {c w : Int32} (h : w.toInt < 0 ∨ 3 < w.toInt) : kInW c w = 100000 := by
  unfold kInW
  have k : ∀ n : Int32, 0 ≤ n.toInt → n.toInt ≤ 3 → w ≠ n := fun n h1 h2 q => by rw [q] at h; omega
  rw [if_neg (k 0 (by decide) (by decide)), if_neg (k 1 (by decide) (by decide)), if_neg (k 2 (by decide) (by decide)), if_neg (k 3 (by decide) (by decide))]
def kInput (M : List Int32) (i w : Int32) : Int32 := if kGet M i = -1 then 100000 else kInW (kGet M i) w
theorem kInput_n {M : List Int32} {i w : Int32} (h : kGet M i = -1) : kInput M i w = 100000 := if_pos h
theorem kInput_y {M : List Int32} {i w : Int32} (h : ¬ kGet M i = -1) : kInput M i w = kInW (kGet M i) w := if_neg h
def kLook (M : List Int32) (O I : List Nat) (q : RS) (w : Int32) : Int32 := if w = 0 then nI M.length else if w = 1 then nI (kGr 0 M).length else if w = 2 then nI O.length else if w = 3 then nI I.length else if w = 4 then rFt q else if w = 5 then rPl q else if w = 6 then nI (kUses M) else -1
theorem kLook_out {M : List Int32} {O I : List Nat} {q : RS} {w : Int32} (h : w.toInt < 0 ∨ 6 < w.toInt) : kLook M O I q w = -1 := by
  unfold kLook
  have k : ∀ n : Int32, 0 ≤ n.toInt → n.toInt ≤ 6 → w ≠ n := fun n h1 h2 q => by rw [q] at h; omega
  rw [if_neg (k 0 (by decide) (by decide)), if_neg (k 1 (by decide) (by decide)), if_neg (k 2 (by decide) (by decide)), if_neg (k 3 (by decide) (by decide)), if_neg (k 4 (by decide) (by decide)), if_neg (k 5 (by decide) (by decide)), if_neg (k 6 (by decide) (by decide))]
end
