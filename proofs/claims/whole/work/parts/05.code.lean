abbrev Qc_D_isWithin (dC : Nat → ClassId) (dI : Nat → Nat → Nat) (cI cB cZ : ClassId) (v : Int32) (lo : Int32) (hi : Int32) (A : Nat → Prop) := va_Qi (fun (r9 : Int32) (_ : Unit) => (r9 = kIn v lo hi)) (ka (dC, dI) classes [(cI, .int), (cB, .byte), (cZ, .boolean)] (fun (_ : Unit) => []) A) A
set_option maxHeartbeats 1000000 in
set_option maxRecDepth 100000 in
/-- isWithin -/
theorem c_D_isWithin (l : Launch) (dC : Nat → ClassId) (dI : Nat → Nat → Nat) (cI cB cZ : ClassId) (sz : Nat) (v : Int32) (lo : Int32) (hi : Int32)  : Met l y_Tape_isWithin w_Tape_isWithin ({ frames := 0, cells := 0, slots := 0, locals := 0 }) (va_Pc [.int v, .int lo, .int hi] (kp (dC, dI) classes [(cI, .int), (cB, .byte), (cZ, .boolean)] [] sz)) (Qc_D_isWithin dC dI cI cB cZ v lo hi (va_A [] sz)) 0 0 (va_A [] sz) := by
  refine Met.ofW (cc := prog_1_method_16_code) (maxL := 3) (ret := (some .boolean)) (by decide) rfl ?_
  intro p e s m args below meth c s₁ B hml hv
  obtain ⟨rfl, hsz, hP, hK, hD0⟩ := hv
  have hx := B.exec
  have hb := B.bytes
  have hr := B.returns
  have hts := fun w h => atoms_spec (ws := w_Tape_isWithin) B.pre w (List.mem_cons_of_mem _ h)
  have hown : s.vm.findClass "DemoTape" = some m.cls := findClass_of_methodNamed B.named
  have hlocks := B.notSynchronized
  subst hsz
  have hD := hD0.self (sz := s.heap.size)
  generalize hAe : va_A ([] : va_W) s.heap.size = A at hD ⊢
  have hA : ∀ q : Nat, s.heap.size ≤ q → A q := fun q h => by rw [← hAe]; exact Or.inr h
  have hS : va_S A s.heap s.heap [] := va_S.rf
  have hP : va_P (dC, dI) classes [] s.heap := hP
  have hl := lv_entry ([.int v, .int lo, .int hi]) (n := 3) (Nat.le_of_ble_eq_true rfl)
  rw [lg_entry_eq]
  generalize (lg_sl ([.int v, .int lo, .int hi]) ++ List.replicate (3 - (lg_sl ([.int v, .int lo, .int hi])).length) Slot.unset).toArray = ls at hl ⊢
  have hl : lv_has ls 3 [(0, .int v), (1, .int lo), (2, .int hi)] := hl
  refine lv_iload_n hx hb d_Tape_isWithin_0 rfl (lv_at hl 0 rfl) ?_
  refine lv_iload_n hx hb d_Tape_isWithin_1 rfl (lv_at hl 1 rfl) ?_
  refine lv_icmp_lt (tgt := 14) hx hb d_Tape_isWithin_2 (by decide) (fun c_2 => ?_) (fun c_2 => ?_)
  · refine lv_iconst (v := 0) hx hb d_Tape_isWithin_14 (by decide) ?_
    exact kr_i (v := 0) () hx hb hr (by decide) hK (hP.sub [] (rfl)) (hD.sub [] (by decide) (rfl)) hS (by unfold kIn; rw [if_neg (fun q => by first | exact c_2 q.1 | exact absurd q.1 (Int32.not_le.mpr c_2))]) d_Tape_isWithin_15 hlocks
  · refine lv_iload_n hx hb d_Tape_isWithin_5 rfl (lv_at hl 0 rfl) ?_
    refine lv_iload_n hx hb d_Tape_isWithin_6 rfl (lv_at hl 2 rfl) ?_
    refine lv_icmp_gt (tgt := 14) hx hb d_Tape_isWithin_7 (by decide) (fun c_7 => ?_) (fun c_7 => ?_)
    · refine lv_iconst (v := 0) hx hb d_Tape_isWithin_14 (by decide) ?_
      exact kr_i (v := 0) () hx hb hr (by decide) hK (hP.sub [] (rfl)) (hD.sub [] (by decide) (rfl)) hS (by unfold kIn; rw [if_neg (fun q => by first | exact c_7 q.2 | exact absurd q.2 (Int32.not_le.mpr c_7))]) d_Tape_isWithin_15 hlocks
    · refine lv_iconst (v := 1) hx hb d_Tape_isWithin_10 (by decide) ?_
      refine lv_goto (tgt := 15) hx hb d_Tape_isWithin_11 (by decide) ?_
      exact kr_i (v := 1) () hx hb hr (by decide) hK (hP.sub [] (rfl)) (hD.sub [] (by decide) (rfl)) hS (by unfold kIn; rw [if_pos ⟨by first | exact c_2 | exact Int32.not_lt.mp c_2, by first | exact c_7 | exact Int32.not_lt.mp c_7⟩]) d_Tape_isWithin_15 hlocks
abbrev Qc_Code_of (dC : Nat → ClassId) (dI : Nat → Nat → Nat) (cI cB cZ : ClassId) (us : Int32) (ah : Int32) (sd : Int32) (tu : Int32) (A : Nat → Prop) := va_Qi (fun (r9 : Int32) (_ : Unit) => (r9 = kCode us ah sd tu)) (ka (dC, dI) classes [(cI, .int), (cB, .byte), (cZ, .boolean)] (fun (_ : Unit) => []) A) A
set_option maxHeartbeats 1000000 in
set_option maxRecDepth 100000 in
/-- Code.of -/
theorem c_Code_of (l : Launch) (dC : Nat → ClassId) (dI : Nat → Nat → Nat) (cI cB cZ : ClassId) (sz : Nat) (us : Int32) (ah : Int32) (sd : Int32) (tu : Int32)  : Met l y_Code_of w_Code_of ({ frames := 0, cells := 0, slots := 0, locals := 0 }) (va_Pc [.int us, .int ah, .int sd, .int tu] (kp (dC, dI) classes [(cI, .int), (cB, .byte), (cZ, .boolean)] [] sz)) (Qc_Code_of dC dI cI cB cZ us ah sd tu (va_A [] sz)) 0 0 (va_A [] sz) := by
  refine Met.ofW (cc := prog_3_method_2_code) (maxL := 4) (ret := (some .int)) (by decide) rfl ?_
  intro p e s m args below meth c s₁ B hml hv
  obtain ⟨rfl, hsz, hP, hK, hD0⟩ := hv
  have hx := B.exec
  have hb := B.bytes
  have hr := B.returns
  have hts := fun w h => atoms_spec (ws := w_Code_of) B.pre w (List.mem_cons_of_mem _ h)
  have hown : s.vm.findClass "DemoTape$Code" = some m.cls := findClass_of_methodNamed B.named
  have hlocks := B.notSynchronized
  subst hsz
  have hD := hD0.self (sz := s.heap.size)
  generalize hAe : va_A ([] : va_W) s.heap.size = A at hD ⊢
  have hA : ∀ q : Nat, s.heap.size ≤ q → A q := fun q h => by rw [← hAe]; exact Or.inr h
  have hS : va_S A s.heap s.heap [] := va_S.rf
  have hP : va_P (dC, dI) classes [] s.heap := hP
  have hl := lv_entry ([.int us, .int ah, .int sd, .int tu]) (n := 4) (Nat.le_of_ble_eq_true rfl)
  rw [lg_entry_eq]
  generalize (lg_sl ([.int us, .int ah, .int sd, .int tu]) ++ List.replicate (4 - (lg_sl ([.int us, .int ah, .int sd, .int tu])).length) Slot.unset).toArray = ls at hl ⊢
  have hl : lv_has ls 4 [(0, .int us), (1, .int ah), (2, .int sd), (3, .int tu)] := hl
  refine lv_iload_n hx hb d_Code_of_0 rfl (lv_at hl 0 rfl) ?_
  refine lv_if_eq (tgt := 9) hx hb d_Code_of_1 (by decide) (fun c_1 => ?_) (fun c_1 => ?_)
  · refine lv_iconst (v := 0) hx hb d_Code_of_9 (by decide) ?_
    refine lv_iload_n hx hb d_Code_of_10 rfl (lv_at hl 1 rfl) ?_
    refine lv_bipush (v := 16) hx hb d_Code_of_11 (by decide) ?_
    refine lv_ishl hx hb d_Code_of_13 ?_
    refine lv_ior hx hb d_Code_of_14 ?_
    refine lv_iload_n hx hb d_Code_of_15 rfl (lv_at hl 2 rfl) ?_
    refine lv_bipush (v := 8) hx hb d_Code_of_16 (by decide) ?_
    refine lv_ishl hx hb d_Code_of_18 ?_
    refine lv_ior hx hb d_Code_of_19 ?_
    refine lv_iload_n hx hb d_Code_of_20 rfl (lv_at hl 3 rfl) ?_
    refine lv_ior hx hb d_Code_of_21 ?_
    exact kr_i (v := ((0 ||| (ah <<< ((16 : Int32) &&& 31))) ||| (sd <<< ((8 : Int32) &&& 31))) ||| tu) () hx hb hr rfl hK (hP.sub [] (rfl)) (hD.sub [] (by decide) (rfl)) hS (by unfold kCode; rw [if_pos c_1]) d_Code_of_22 hlocks
  · refine lv_ldc (v := 16777216) hx hb hown (hts _ mw144) d_Code_of_4 ?_
    refine lv_goto (tgt := 10) hx hb d_Code_of_6 (by decide) ?_
    refine lv_iload_n hx hb d_Code_of_10 rfl (lv_at hl 1 rfl) ?_
    refine lv_bipush (v := 16) hx hb d_Code_of_11 (by decide) ?_
    refine lv_ishl hx hb d_Code_of_13 ?_
    refine lv_ior hx hb d_Code_of_14 ?_
    refine lv_iload_n hx hb d_Code_of_15 rfl (lv_at hl 2 rfl) ?_
    refine lv_bipush (v := 8) hx hb d_Code_of_16 (by decide) ?_
    refine lv_ishl hx hb d_Code_of_18 ?_
    refine lv_ior hx hb d_Code_of_19 ?_
    refine lv_iload_n hx hb d_Code_of_20 rfl (lv_at hl 3 rfl) ?_
    refine lv_ior hx hb d_Code_of_21 ?_
    exact kr_i (v := ((16777216 ||| (ah <<< ((16 : Int32) &&& 31))) ||| (sd <<< ((8 : Int32) &&& 31))) ||| tu) () hx hb hr rfl hK (hP.sub [] (rfl)) (hD.sub [] (by decide) (rfl)) hS (by unfold kCode; rw [if_neg c_1]) d_Code_of_22 hlocks
abbrev Qc_Code_uses (dC : Nat → ClassId) (dI : Nat → Nat → Nat) (cI cB cZ : ClassId) (cd : Int32) (A : Nat → Prop) := va_Qi (fun (r9 : Int32) (_ : Unit) => (r9 = kUse cd)) (ka (dC, dI) classes [(cI, .int), (cB, .byte), (cZ, .boolean)] (fun (_ : Unit) => []) A) A
set_option maxHeartbeats 1000000 in
set_option maxRecDepth 100000 in
/-- Code.uses -/
theorem c_Code_uses (l : Launch) (dC : Nat → ClassId) (dI : Nat → Nat → Nat) (cI cB cZ : ClassId) (sz : Nat) (cd : Int32)  : Met l y_Code_uses w_Code_uses ({ frames := 0, cells := 0, slots := 0, locals := 0 }) (va_Pc [.int cd] (kp (dC, dI) classes [(cI, .int), (cB, .byte), (cZ, .boolean)] [] sz)) (Qc_Code_uses dC dI cI cB cZ cd (va_A [] sz)) 0 0 (va_A [] sz) := by
  refine Met.ofW (cc := prog_3_method_3_code) (maxL := 1) (ret := (some .boolean)) (by decide) rfl ?_
  intro p e s m args below meth c s₁ B hml hv
  obtain ⟨rfl, hsz, hP, hK, hD0⟩ := hv
  have hx := B.exec
  have hb := B.bytes
  have hr := B.returns
  have hts := fun w h => atoms_spec (ws := w_Code_uses) B.pre w (List.mem_cons_of_mem _ h)
  have hown : s.vm.findClass "DemoTape$Code" = some m.cls := findClass_of_methodNamed B.named
  have hlocks := B.notSynchronized
  subst hsz
  have hD := hD0.self (sz := s.heap.size)
  generalize hAe : va_A ([] : va_W) s.heap.size = A at hD ⊢
  have hA : ∀ q : Nat, s.heap.size ≤ q → A q := fun q h => by rw [← hAe]; exact Or.inr h
  have hS : va_S A s.heap s.heap [] := va_S.rf
  have hP : va_P (dC, dI) classes [] s.heap := hP
  have hl := lv_entry ([.int cd]) (n := 1) (Nat.le_of_ble_eq_true rfl)
  rw [lg_entry_eq]
  generalize (lg_sl ([.int cd]) ++ List.replicate (1 - (lg_sl ([.int cd])).length) Slot.unset).toArray = ls at hl ⊢
  have hl : lv_has ls 1 [(0, .int cd)] := hl
  refine lv_iload_n hx hb d_Code_uses_0 rfl (lv_at hl 0 rfl) ?_
  refine lv_ldc (v := 16777216) hx hb hown (hts _ mw144) d_Code_uses_1 ?_
  refine lv_iand hx hb d_Code_uses_3 ?_
  refine lv_if_eq (tgt := 11) hx hb d_Code_uses_4 (by decide) (fun c_4 => ?_) (fun c_4 => ?_)
  · refine lv_iconst (v := 0) hx hb d_Code_uses_11 (by decide) ?_
    exact kr_i (v := 0) () hx hb hr (by decide) hK (hP.sub [] (rfl)) (hD.sub [] (by decide) (rfl)) hS (by unfold kUse; rw [if_pos c_4]) d_Code_uses_12 hlocks
  · refine lv_iconst (v := 1) hx hb d_Code_uses_7 (by decide) ?_
    refine lv_goto (tgt := 12) hx hb d_Code_uses_8 (by decide) ?_
    exact kr_i (v := 1) () hx hb hr (by decide) hK (hP.sub [] (rfl)) (hD.sub [] (by decide) (rfl)) hS (by unfold kUse; rw [if_neg c_4]) d_Code_uses_12 hlocks
abbrev Qc_Code_aheadByte (dC : Nat → ClassId) (dI : Nat → Nat → Nat) (cI cB cZ : ClassId) (cd : Int32) (A : Nat → Prop) := va_Qi (fun (r9 : Int32) (_ : Unit) => (r9 = kAhead cd)) (ka (dC, dI) classes [(cI, .int), (cB, .byte), (cZ, .boolean)] (fun (_ : Unit) => []) A) A
set_option maxHeartbeats 1000000 in
set_option maxRecDepth 100000 in
/-- Code.aheadByte -/
theorem c_Code_aheadByte (l : Launch) (dC : Nat → ClassId) (dI : Nat → Nat → Nat) (cI cB cZ : ClassId) (sz : Nat) (cd : Int32)  : Met l y_Code_aheadByte w_Code_aheadByte ({ frames := 0, cells := 0, slots := 0, locals := 0 }) (va_Pc [.int cd] (kp (dC, dI) classes [(cI, .int), (cB, .byte), (cZ, .boolean)] [] sz)) (Qc_Code_aheadByte dC dI cI cB cZ cd (va_A [] sz)) 0 0 (va_A [] sz) := by
  refine Met.ofW (cc := prog_3_method_4_code) (maxL := 1) (ret := (some .int)) (by decide) rfl ?_
  intro p e s m args below meth c s₁ B hml hv
  obtain ⟨rfl, hsz, hP, hK, hD0⟩ := hv
  have hx := B.exec
  have hb := B.bytes
  have hr := B.returns
  have hts := fun w h => atoms_spec (ws := w_Code_aheadByte) B.pre w (List.mem_cons_of_mem _ h)
  have hown : s.vm.findClass "DemoTape$Code" = some m.cls := findClass_of_methodNamed B.named
  have hlocks := B.notSynchronized
  subst hsz
  have hD := hD0.self (sz := s.heap.size)
  generalize hAe : va_A ([] : va_W) s.heap.size = A at hD ⊢
  have hA : ∀ q : Nat, s.heap.size ≤ q → A q := fun q h => by rw [← hAe]; exact Or.inr h
  have hS : va_S A s.heap s.heap [] := va_S.rf
  have hP : va_P (dC, dI) classes [] s.heap := hP
  have hl := lv_entry ([.int cd]) (n := 1) (Nat.le_of_ble_eq_true rfl)
  rw [lg_entry_eq]
  generalize (lg_sl ([.int cd]) ++ List.replicate (1 - (lg_sl ([.int cd])).length) Slot.unset).toArray = ls at hl ⊢
  have hl : lv_has ls 1 [(0, .int cd)] := hl
  refine lv_iload_n hx hb d_Code_aheadByte_0 rfl (lv_at hl 0 rfl) ?_
  refine lv_bipush (v := 16) hx hb d_Code_aheadByte_1 (by decide) ?_
  refine lv_ishr hx hb d_Code_aheadByte_3 ?_
  refine lv_sipush (v := 255) hx hb d_Code_aheadByte_4 (by decide) ?_
  refine lv_iand hx hb d_Code_aheadByte_7 ?_
  exact kr_i (v := (cd >>> ((16 : Int32) &&& 31)) &&& 255) () hx hb hr rfl hK (hP.sub [] (rfl)) (hD.sub [] (by decide) (rfl)) hS (by first | with_reducible rfl | with_reducible assumption | rfl | omega) d_Code_aheadByte_8 hlocks
abbrev Qc_Code_asideByte (dC : Nat → ClassId) (dI : Nat → Nat → Nat) (cI cB cZ : ClassId) (cd : Int32) (A : Nat → Prop) := va_Qi (fun (r9 : Int32) (_ : Unit) => (r9 = kAside cd)) (ka (dC, dI) classes [(cI, .int), (cB, .byte), (cZ, .boolean)] (fun (_ : Unit) => []) A) A
set_option maxHeartbeats 1000000 in
set_option maxRecDepth 100000 in
/-- Code.asideByte -/
theorem c_Code_asideByte (l : Launch) (dC : Nat → ClassId) (dI : Nat → Nat → Nat) (cI cB cZ : ClassId) (sz : Nat) (cd : Int32)  : Met l y_Code_asideByte w_Code_asideByte ({ frames := 0, cells := 0, slots := 0, locals := 0 }) (va_Pc [.int cd] (kp (dC, dI) classes [(cI, .int), (cB, .byte), (cZ, .boolean)] [] sz)) (Qc_Code_asideByte dC dI cI cB cZ cd (va_A [] sz)) 0 0 (va_A [] sz) := by
  refine Met.ofW (cc := prog_3_method_5_code) (maxL := 1) (ret := (some .int)) (by decide) rfl ?_
  intro p e s m args below meth c s₁ B hml hv
  obtain ⟨rfl, hsz, hP, hK, hD0⟩ := hv
  have hx := B.exec
  have hb := B.bytes
  have hr := B.returns
  have hts := fun w h => atoms_spec (ws := w_Code_asideByte) B.pre w (List.mem_cons_of_mem _ h)
  have hown : s.vm.findClass "DemoTape$Code" = some m.cls := findClass_of_methodNamed B.named
  have hlocks := B.notSynchronized
  subst hsz
  have hD := hD0.self (sz := s.heap.size)
  generalize hAe : va_A ([] : va_W) s.heap.size = A at hD ⊢
  have hA : ∀ q : Nat, s.heap.size ≤ q → A q := fun q h => by rw [← hAe]; exact Or.inr h
  have hS : va_S A s.heap s.heap [] := va_S.rf
  have hP : va_P (dC, dI) classes [] s.heap := hP
  have hl := lv_entry ([.int cd]) (n := 1) (Nat.le_of_ble_eq_true rfl)
  rw [lg_entry_eq]
  generalize (lg_sl ([.int cd]) ++ List.replicate (1 - (lg_sl ([.int cd])).length) Slot.unset).toArray = ls at hl ⊢
  have hl : lv_has ls 1 [(0, .int cd)] := hl
  refine lv_iload_n hx hb d_Code_asideByte_0 rfl (lv_at hl 0 rfl) ?_
  refine lv_bipush (v := 8) hx hb d_Code_asideByte_1 (by decide) ?_
  refine lv_ishr hx hb d_Code_asideByte_3 ?_
  refine lv_sipush (v := 255) hx hb d_Code_asideByte_4 (by decide) ?_
  refine lv_iand hx hb d_Code_asideByte_7 ?_
  exact kr_i (v := (cd >>> ((8 : Int32) &&& 31)) &&& 255) () hx hb hr rfl hK (hP.sub [] (rfl)) (hD.sub [] (by decide) (rfl)) hS (by first | with_reducible rfl | with_reducible assumption | rfl | omega) d_Code_asideByte_8 hlocks
abbrev Qc_Code_turnByte (dC : Nat → ClassId) (dI : Nat → Nat → Nat) (cI cB cZ : ClassId) (cd : Int32) (A : Nat → Prop) := va_Qi (fun (r9 : Int32) (_ : Unit) => (r9 = kTurn cd)) (ka (dC, dI) classes [(cI, .int), (cB, .byte), (cZ, .boolean)] (fun (_ : Unit) => []) A) A
set_option maxHeartbeats 1000000 in
set_option maxRecDepth 100000 in
/-- Code.turnByte -/
theorem c_Code_turnByte (l : Launch) (dC : Nat → ClassId) (dI : Nat → Nat → Nat) (cI cB cZ : ClassId) (sz : Nat) (cd : Int32)  : Met l y_Code_turnByte w_Code_turnByte ({ frames := 0, cells := 0, slots := 0, locals := 0 }) (va_Pc [.int cd] (kp (dC, dI) classes [(cI, .int), (cB, .byte), (cZ, .boolean)] [] sz)) (Qc_Code_turnByte dC dI cI cB cZ cd (va_A [] sz)) 0 0 (va_A [] sz) := by
  refine Met.ofW (cc := prog_3_method_6_code) (maxL := 1) (ret := (some .int)) (by decide) rfl ?_
  intro p e s m args below meth c s₁ B hml hv
  obtain ⟨rfl, hsz, hP, hK, hD0⟩ := hv
  have hx := B.exec
  have hb := B.bytes
  have hr := B.returns
  have hts := fun w h => atoms_spec (ws := w_Code_turnByte) B.pre w (List.mem_cons_of_mem _ h)
  have hown : s.vm.findClass "DemoTape$Code" = some m.cls := findClass_of_methodNamed B.named
  have hlocks := B.notSynchronized
  subst hsz
  have hD := hD0.self (sz := s.heap.size)
  generalize hAe : va_A ([] : va_W) s.heap.size = A at hD ⊢
  have hA : ∀ q : Nat, s.heap.size ≤ q → A q := fun q h => by rw [← hAe]; exact Or.inr h
  have hS : va_S A s.heap s.heap [] := va_S.rf
  have hP : va_P (dC, dI) classes [] s.heap := hP
  have hl := lv_entry ([.int cd]) (n := 1) (Nat.le_of_ble_eq_true rfl)
  rw [lg_entry_eq]
  generalize (lg_sl ([.int cd]) ++ List.replicate (1 - (lg_sl ([.int cd])).length) Slot.unset).toArray = ls at hl ⊢
  have hl : lv_has ls 1 [(0, .int cd)] := hl
  refine lv_iload_n hx hb d_Code_turnByte_0 rfl (lv_at hl 0 rfl) ?_
  refine lv_sipush (v := 255) hx hb d_Code_turnByte_1 (by decide) ?_
  refine lv_iand hx hb d_Code_turnByte_4 ?_
  exact kr_i (v := cd &&& 255) () hx hb hr rfl hK (hP.sub [] (rfl)) (hD.sub [] (by decide) (rfl)) hS (by first | with_reducible rfl | with_reducible assumption | rfl | omega) d_Code_turnByte_5 hlocks
abbrev Qc_Code_hasSide (dC : Nat → ClassId) (dI : Nat → Nat → Nat) (cI cB cZ : ClassId) (cd : Int32) (A : Nat → Prop) := va_Qi (fun (r9 : Int32) (_ : Unit) => (r9 = kSide cd)) (ka (dC, dI) classes [(cI, .int), (cB, .byte), (cZ, .boolean)] (fun (_ : Unit) => []) A) A
set_option maxHeartbeats 1000000 in
set_option maxRecDepth 100000 in
/-- Code.hasSide -/
theorem c_Code_hasSide (l : Launch) (dC : Nat → ClassId) (dI : Nat → Nat → Nat) (cI cB cZ : ClassId) (sz : Nat) (cd : Int32)  : Met l y_Code_hasSide w_Code_hasSide ({ frames := 1, cells := 0, slots := 0, locals := 20 }) (va_Pc [.int cd] (kp (dC, dI) classes [(cI, .int), (cB, .byte), (cZ, .boolean)] [] sz)) (Qc_Code_hasSide dC dI cI cB cZ cd (va_A [] sz)) 0 0 (va_A [] sz) := by
  refine Met.ofW (cc := prog_3_method_7_code) (maxL := 1) (ret := (some .boolean)) (by decide) rfl ?_
  intro p e s m args below meth c s₁ B hml hv
  obtain ⟨rfl, hsz, hP, hK, hD0⟩ := hv
  have hx := B.exec
  have hb := B.bytes
  have hr := B.returns
  have hts := fun w h => atoms_spec (ws := w_Code_hasSide) B.pre w (List.mem_cons_of_mem _ h)
  have hown : s.vm.findClass "DemoTape$Code" = some m.cls := findClass_of_methodNamed B.named
  have hlocks := B.notSynchronized
  subst hsz
  have hD := hD0.self (sz := s.heap.size)
  generalize hAe : va_A ([] : va_W) s.heap.size = A at hD ⊢
  have hA : ∀ q : Nat, s.heap.size ≤ q → A q := fun q h => by rw [← hAe]; exact Or.inr h
  have hS : va_S A s.heap s.heap [] := va_S.rf
  have hP : va_P (dC, dI) classes [] s.heap := hP
  have hl := lv_entry ([.int cd]) (n := 1) (Nat.le_of_ble_eq_true rfl)
  rw [lg_entry_eq]
  generalize (lg_sl ([.int cd]) ++ List.replicate (1 - (lg_sl ([.int cd])).length) Slot.unset).toArray = ls at hl ⊢
  have hl : lv_has ls 1 [(0, .int cd)] := hl
  refine lv_iload_n hx hb d_Code_hasSide_0 rfl (lv_at hl 0 rfl) ?_
  refine kq_i (wr := []) (va_runS (As := [.int cd]) (rest := []) ⟨hx, hb, hml, hown, hts⟩ (c_Code_asideByte l dC dI cI cB cZ _ cd ) (va_cwS 1 hts (gS mw211 mw212 mw31 mw213) rfl rfl rfl (by decide +kernel) ⟨Nat.le_of_ble_eq_true rfl, Nat.le_of_ble_eq_true rfl⟩) (kpS (wc := []) hK hP hD [] rfl (by decide) rfl) rfl rfl hl.1 rfl (lv_room (Nat.le_of_ble_eq_true rfl)) d_Code_hasSide_1 ⟨Nat.le_of_ble_eq_true rfl, Nat.le_of_ble_eq_true rfl⟩) hP hD hS hA [] [] [] rfl rfl (by decide) (by decide) rfl (fun r_1 H locs hw hP hS => ?_)
  have e_1 := hw
  refine kt_i e_1 ?_
  refine lv_bipush (v := 64) hx hb d_Code_hasSide_4 (by decide) ?_
  refine lv_icmp_ne (tgt := 18) hx hb d_Code_hasSide_6 (by decide) (fun c_6 => ?_) (fun c_6 => ?_)
  · refine lv_iconst (v := 1) hx hb d_Code_hasSide_18 (by decide) ?_
    refine lv_goto (tgt := 23) hx hb d_Code_hasSide_19 (by decide) ?_
    exact kr_i (v := 1) () hx hb hr (by decide) hK (hP.sub [] (rfl)) (hD.sub [] (by decide) (rfl)) hS (by unfold kSide; rw [if_neg (fun q => c_6 q.1)]) d_Code_hasSide_23 hlocks
  · refine lv_iload_n hx hb d_Code_hasSide_9 rfl (lv_at hl 0 rfl) ?_
    refine kq_i (wr := []) (va_runS (As := [.int cd]) (rest := []) ⟨hx, hb, hml, hown, hts⟩ (c_Code_turnByte l dC dI cI cB cZ _ cd ) (va_cwS 1 hts (gS mw214 mw215 mw31 mw216) rfl rfl rfl (by decide +kernel) ⟨Nat.le_of_ble_eq_true rfl, Nat.le_of_ble_eq_true rfl⟩) (kpS (wc := []) hK hP hD [] rfl (by decide) rfl) rfl rfl hl.1 rfl (lv_room (Nat.le_of_ble_eq_true rfl)) d_Code_hasSide_10 ⟨Nat.le_of_ble_eq_true rfl, Nat.le_of_ble_eq_true rfl⟩) hP hD hS hA [] [] [] rfl rfl (by decide) (by decide) rfl (fun r_10 H locs hw hP hS => ?_)
    have e_10 := hw
    refine kt_i e_10 ?_
    refine lv_bipush (v := 16) hx hb d_Code_hasSide_13 (by decide) ?_
    refine lv_icmp_eq (tgt := 22) hx hb d_Code_hasSide_15 (by decide) (fun c_15 => ?_) (fun c_15 => ?_)
    · refine lv_iconst (v := 0) hx hb d_Code_hasSide_22 (by decide) ?_
      exact kr_i (v := 0) () hx hb hr (by decide) hK (hP.sub [] (rfl)) (hD.sub [] (by decide) (rfl)) hS (by unfold kSide; rw [if_pos ⟨by first | exact c_6 | exact Decidable.not_not.mp c_6, c_15⟩]) d_Code_hasSide_23 hlocks
    · refine lv_iconst (v := 1) hx hb d_Code_hasSide_18 (by decide) ?_
      refine lv_goto (tgt := 23) hx hb d_Code_hasSide_19 (by decide) ?_
      exact kr_i (v := 1) () hx hb hr (by decide) hK (hP.sub [] (rfl)) (hD.sub [] (by decide) (rfl)) hS (by unfold kSide; rw [if_neg (fun q => c_15 q.2)]) d_Code_hasSide_23 hlocks
