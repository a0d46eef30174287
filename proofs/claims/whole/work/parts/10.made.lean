abbrev Qc_Walk_init (dC : Nat → ClassId) (dI : Nat → Nat → Nat) (cI cB cZ : ClassId) (w : Nat) (A : Nat → Prop) := va_Qv (fun (u9 : Nat) => True) (ka (dC, dI) classes [(cI, .int), (cB, .byte), (cZ, .boolean)] (fun (u9 : Nat) => [(w, .inr (1, [.ref u9, .int 0, .int 0, .int 0, .int 0, .int 0])), (u9, .inl (cI, 1024, .inl (fun _ => 0)))]) A) A
set_option maxHeartbeats 1000000 in
set_option maxRecDepth 100000 in
/-- Walk() -/
theorem c_Walk_init (l : Launch) (dC : Nat → ClassId) (dI : Nat → Nat → Nat) (cI cB cZ : ClassId) (sz : Nat) (w : Nat)  : Met l y_Walk_init w_Walk_init ({ frames := 1, cells := 1, slots := 1024, locals := 12 }) (va_Pc [.ref w] (kp (dC, dI) classes [(cI, .int), (cB, .byte), (cZ, .boolean)] [(w, .inr (1, [.null, .int 0, .int 0, .int 0, .int 0, .int 0]))] sz)) (Qc_Walk_init dC dI cI cB cZ w (va_A [(w, .inr (1, [.null, .int 0, .int 0, .int 0, .int 0, .int 0]))] sz)) 1 1024 (va_A [(w, .inr (1, [.null, .int 0, .int 0, .int 0, .int 0, .int 0]))] sz) := by
  refine Met.ofW (cc := prog_5_method_1_code) (maxL := 1) (ret := none) (by decide) rfl ?_
  intro p e s m args below meth c s₁ B hml hv
  obtain ⟨rfl, hsz, hP, hK, hD0⟩ := hv
  have hx := B.exec
  have hb := B.bytes
  have hr := B.returns
  have hts := fun w h => atoms_spec (ws := w_Walk_init) B.pre w (List.mem_cons_of_mem _ h)
  have hown : s.vm.findClass "DemoTape$Walk" = some m.cls := findClass_of_methodNamed B.named
  have hlocks := B.notSynchronized
  have hin : meth.name = "<init>" := (name_of_methodNamed B.named B.method).1
  subst hsz
  have hD := hD0.self (sz := s.heap.size)
  generalize hAe : va_A ([(w, .inr (1, [.null, .int 0, .int 0, .int 0, .int 0, .int 0]))] : va_W) s.heap.size = A at hD ⊢
  have hA : ∀ q : Nat, s.heap.size ≤ q → A q := fun q h => by rw [← hAe]; exact Or.inr h
  have hS : va_S A s.heap s.heap [] := va_S.rf
  have hP : va_P (dC, dI) classes [(w, .inr (1, [.null, .int 0, .int 0, .int 0, .int 0, .int 0]))] s.heap := hP
  have hl := lv_entry ([.ref w]) (n := 1) (Nat.le_of_ble_eq_true rfl)
  rw [lg_entry_eq]
  generalize (lg_sl ([.ref w]) ++ List.replicate (1 - (lg_sl ([.ref w])).length) Slot.unset).toArray = ls at hl ⊢
  have hl : lv_has ls 1 [(0, .ref w)] := hl
  refine lv_aload_n hx hb d_Walk_init_0 rfl (lv_at hl 0 rfl) ?_
  refine W.objInit hx hb hown (hts _ mw46) (hts _ mw39) (hts _ mw40) rfl (by rw [hml]; exact hl.1) rfl d_Walk_init_1 (Nat.le_of_ble_eq_true rfl) (Nat.le_of_ble_eq_true rfl) ?_
  refine W.eq (g2 := F0 m 4 ls []) rfl ?_
  refine lv_aload_n hx hb d_Walk_init_4 rfl (lv_at hl 0 rfl) ?_
  refine lv_sipush (v := 1024) hx hb d_Walk_init_5 (by decide) ?_
  refine va_newa (atype := .int) (ty := .int) (a0 := (1024, .inl (fun _ => 0))) hx hb (hts _ mw66) rfl hK hP hD hS hA (fun _ => rfl) (by decide) (by decide) (by decide) (Nat.le_of_ble_eq_true rfl) (Nat.le_of_ble_eq_true rfl) d_Walk_init_8 (fun q8 cA9 H hK9 hP hD hS => ?_)
  obtain rfl : cI = cA9 := ks_int hK9
  refine W.widen (k := 1) (n := 1024) (by decide) (by decide) ?_
  have hP : va_P (dC, dI) classes [(w, .inr (1, [.null, .int 0, .int 0, .int 0, .int 0, .int 0])), (q8, .inl (cI, 1024, .inl (fun _ => 0)))] H := hP
  have hD : va_D A [(w, .inr (1, [.null, .int 0, .int 0, .int 0, .int 0, .int 0])), (q8, .inl (cI, 1024, .inl (fun _ => 0)))] := hD
  refine va_putF (D := (dC, dI)) (ci := 1) (v := .ref q8) (ty := (.array .int)) (C := "DemoTape$Walk") (T := F_Walk) (N := 6) hx hb hts i_Walk t_Walk t_Walk_ok n_Walk hown hK hP hD hS 0 rfl rfl 0 (by decide) (hts _ mw47) (fun _ h9 => h9) rfl hin rfl (by decide +kernel) rfl rfl (Nat.le_of_ble_eq_true rfl) d_Walk_init_10 (fun H locs hP hD hS => ?_)
  have hP : va_P (dC, dI) classes [(w, .inr (1, [.ref q8, .int 0, .int 0, .int 0, .int 0, .int 0])), (q8, .inl (cI, 1024, .inl (fun _ => 0)))] H := hP
  have hD : va_D A [(w, .inr (1, [.ref q8, .int 0, .int 0, .int 0, .int 0, .int 0])), (q8, .inl (cI, 1024, .inl (fun _ => 0)))] := hD
  exact kr_v q8 hx hb hr hK (hP.sub [0, 1] (rfl)) (hD.sub [0, 1] (by decide) (rfl)) hS trivial d_Walk_init_13 hlocks
abbrev Qc_Row_init_4110 (dC : Nat → ClassId) (dI : Nat → Nat → Nat) (cI cB cZ : ClassId) (r : Nat) (A : Nat → Prop) := va_Qv (fun (u9 : Nat) => True) (ka (dC, dI) classes [(cI, .int), (cB, .byte), (cZ, .boolean)] (fun (u9 : Nat) => [(r, .inr (2, [.ref u9, .int 0])), (u9, .inl (cB, 4110, .inl (fun _ => 0)))]) A) A
set_option maxHeartbeats 1000000 in
set_option maxRecDepth 100000 in
/-- ByteRow(4110) -/
theorem c_Row_init_4110 (l : Launch) (dC : Nat → ClassId) (dI : Nat → Nat → Nat) (cI cB cZ : ClassId) (sz : Nat) (r : Nat)  : Met l y_Row_init w_Row_init ({ frames := 1, cells := 1, slots := 4110, locals := 14 }) (va_Pc [.ref r, .int 4110] (kp (dC, dI) classes [(cI, .int), (cB, .byte), (cZ, .boolean)] [(r, .inr (2, [.null, .int 0]))] sz)) (Qc_Row_init_4110 dC dI cI cB cZ r (va_A [(r, .inr (2, [.null, .int 0]))] sz)) 1 4110 (va_A [(r, .inr (2, [.null, .int 0]))] sz) := by
  refine Met.ofW (cc := prog_2_method_1_code) (maxL := 2) (ret := none) (by decide) rfl ?_
  intro p e s m args below meth c s₁ B hml hv
  obtain ⟨rfl, hsz, hP, hK, hD0⟩ := hv
  have hx := B.exec
  have hb := B.bytes
  have hr := B.returns
  have hts := fun w h => atoms_spec (ws := w_Row_init) B.pre w (List.mem_cons_of_mem _ h)
  have hown : s.vm.findClass "DemoTape$ByteRow" = some m.cls := findClass_of_methodNamed B.named
  have hlocks := B.notSynchronized
  have hin : meth.name = "<init>" := (name_of_methodNamed B.named B.method).1
  subst hsz
  have hD := hD0.self (sz := s.heap.size)
  generalize hAe : va_A ([(r, .inr (2, [.null, .int 0]))] : va_W) s.heap.size = A at hD ⊢
  have hA : ∀ q : Nat, s.heap.size ≤ q → A q := fun q h => by rw [← hAe]; exact Or.inr h
  have hS : va_S A s.heap s.heap [] := va_S.rf
  have hP : va_P (dC, dI) classes [(r, .inr (2, [.null, .int 0]))] s.heap := hP
  have hl := lv_entry ([.ref r, .int 4110]) (n := 2) (Nat.le_of_ble_eq_true rfl)
  rw [lg_entry_eq]
  generalize (lg_sl ([.ref r, .int 4110]) ++ List.replicate (2 - (lg_sl ([.ref r, .int 4110])).length) Slot.unset).toArray = ls at hl ⊢
  have hl : lv_has ls 2 [(0, .ref r), (1, .int 4110)] := hl
  refine lv_aload_n hx hb d_Row_init_0 rfl (lv_at hl 0 rfl) ?_
  refine W.objInit hx hb hown (hts _ mw72) (hts _ mw39) (hts _ mw40) rfl (by rw [hml]; exact hl.1) rfl d_Row_init_1 (Nat.le_of_ble_eq_true rfl) (Nat.le_of_ble_eq_true rfl) ?_
  refine W.eq (g2 := F0 m 4 ls []) rfl ?_
  refine lv_aload_n hx hb d_Row_init_4 rfl (lv_at hl 0 rfl) ?_
  refine lv_iload_n hx hb d_Row_init_5 rfl (lv_at hl 1 rfl) ?_
  refine lv_iconst (v := 0) hx hb d_Row_init_6 (by decide) ?_
  refine va_mmax hx hb (by rw [hml]; exact hl.1.symm) hown (hts _ mw73) (hts _ mw74) (hts _ mw28) (hts _ mw75) (Nat.le_of_ble_eq_true rfl) (Nat.le_of_ble_eq_true rfl) (Nat.le_of_ble_eq_true rfl) (Nat.le_of_ble_eq_true rfl) d_Row_init_7 ?_
  refine kt_i (y := 4110) (by decide) ?_
  refine va_newa (atype := .byte) (ty := .byte) (a0 := (4110, .inl (fun _ => 0))) hx hb (hts _ mw83) rfl hK hP hD hS hA (fun _ => rfl) (by decide) (by decide) (by decide) (Nat.le_of_ble_eq_true rfl) (Nat.le_of_ble_eq_true rfl) d_Row_init_10 (fun q10 cA9 H hK9 hP hD hS => ?_)
  obtain rfl : cB = cA9 := ks_byte hK9
  refine W.widen (k := 1) (n := 4110) (by decide) (by decide) ?_
  have hP : va_P (dC, dI) classes [(r, .inr (2, [.null, .int 0])), (q10, .inl (cB, 4110, .inl (fun _ => 0)))] H := hP
  have hD : va_D A [(r, .inr (2, [.null, .int 0])), (q10, .inl (cB, 4110, .inl (fun _ => 0)))] := hD
  refine va_putF (D := (dC, dI)) (ci := 2) (v := .ref q10) (ty := (.array .byte)) (C := "DemoTape$ByteRow") (T := F_Row) (N := 2) hx hb hts i_Row t_Row t_Row_ok n_Row hown hK hP hD hS 0 rfl rfl 0 (by decide) (hts _ mw76) (fun _ h9 => h9) rfl hin rfl (by decide +kernel) rfl rfl (Nat.le_of_ble_eq_true rfl) d_Row_init_12 (fun H locs hP hD hS => ?_)
  have hP : va_P (dC, dI) classes [(r, .inr (2, [.ref q10, .int 0])), (q10, .inl (cB, 4110, .inl (fun _ => 0)))] H := hP
  have hD : va_D A [(r, .inr (2, [.ref q10, .int 0])), (q10, .inl (cB, 4110, .inl (fun _ => 0)))] := hD
  exact kr_v q10 hx hb hr hK (hP.sub [0, 1] (rfl)) (hD.sub [0, 1] (by decide) (rfl)) hS trivial d_Row_init_15 hlocks
abbrev Qc_Row_init_8192 (dC : Nat → ClassId) (dI : Nat → Nat → Nat) (cI cB cZ : ClassId) (r : Nat) (A : Nat → Prop) := va_Qv (fun (u9 : Nat) => True) (ka (dC, dI) classes [(cI, .int), (cB, .byte), (cZ, .boolean)] (fun (u9 : Nat) => [(r, .inr (2, [.ref u9, .int 0])), (u9, .inl (cB, 8192, .inl (fun _ => 0)))]) A) A
set_option maxHeartbeats 1000000 in
set_option maxRecDepth 100000 in
/-- ByteRow(8192) -/
theorem c_Row_init_8192 (l : Launch) (dC : Nat → ClassId) (dI : Nat → Nat → Nat) (cI cB cZ : ClassId) (sz : Nat) (r : Nat)  : Met l y_Row_init w_Row_init ({ frames := 1, cells := 1, slots := 8192, locals := 14 }) (va_Pc [.ref r, .int 8192] (kp (dC, dI) classes [(cI, .int), (cB, .byte), (cZ, .boolean)] [(r, .inr (2, [.null, .int 0]))] sz)) (Qc_Row_init_8192 dC dI cI cB cZ r (va_A [(r, .inr (2, [.null, .int 0]))] sz)) 1 8192 (va_A [(r, .inr (2, [.null, .int 0]))] sz) := by
  refine Met.ofW (cc := prog_2_method_1_code) (maxL := 2) (ret := none) (by decide) rfl ?_
  intro p e s m args below meth c s₁ B hml hv
  obtain ⟨rfl, hsz, hP, hK, hD0⟩ := hv
  have hx := B.exec
  have hb := B.bytes
  have hr := B.returns
  have hts := fun w h => atoms_spec (ws := w_Row_init) B.pre w (List.mem_cons_of_mem _ h)
  have hown : s.vm.findClass "DemoTape$ByteRow" = some m.cls := findClass_of_methodNamed B.named
  have hlocks := B.notSynchronized
  have hin : meth.name = "<init>" := (name_of_methodNamed B.named B.method).1
  subst hsz
  have hD := hD0.self (sz := s.heap.size)
  generalize hAe : va_A ([(r, .inr (2, [.null, .int 0]))] : va_W) s.heap.size = A at hD ⊢
  have hA : ∀ q : Nat, s.heap.size ≤ q → A q := fun q h => by rw [← hAe]; exact Or.inr h
  have hS : va_S A s.heap s.heap [] := va_S.rf
  have hP : va_P (dC, dI) classes [(r, .inr (2, [.null, .int 0]))] s.heap := hP
  have hl := lv_entry ([.ref r, .int 8192]) (n := 2) (Nat.le_of_ble_eq_true rfl)
  rw [lg_entry_eq]
  generalize (lg_sl ([.ref r, .int 8192]) ++ List.replicate (2 - (lg_sl ([.ref r, .int 8192])).length) Slot.unset).toArray = ls at hl ⊢
  have hl : lv_has ls 2 [(0, .ref r), (1, .int 8192)] := hl
  refine lv_aload_n hx hb d_Row_init_0 rfl (lv_at hl 0 rfl) ?_
  refine W.objInit hx hb hown (hts _ mw72) (hts _ mw39) (hts _ mw40) rfl (by rw [hml]; exact hl.1) rfl d_Row_init_1 (Nat.le_of_ble_eq_true rfl) (Nat.le_of_ble_eq_true rfl) ?_
  refine W.eq (g2 := F0 m 4 ls []) rfl ?_
  refine lv_aload_n hx hb d_Row_init_4 rfl (lv_at hl 0 rfl) ?_
  refine lv_iload_n hx hb d_Row_init_5 rfl (lv_at hl 1 rfl) ?_
  refine lv_iconst (v := 0) hx hb d_Row_init_6 (by decide) ?_
  refine va_mmax hx hb (by rw [hml]; exact hl.1.symm) hown (hts _ mw73) (hts _ mw74) (hts _ mw28) (hts _ mw75) (Nat.le_of_ble_eq_true rfl) (Nat.le_of_ble_eq_true rfl) (Nat.le_of_ble_eq_true rfl) (Nat.le_of_ble_eq_true rfl) d_Row_init_7 ?_
  refine kt_i (y := 8192) (by decide) ?_
  refine va_newa (atype := .byte) (ty := .byte) (a0 := (8192, .inl (fun _ => 0))) hx hb (hts _ mw83) rfl hK hP hD hS hA (fun _ => rfl) (by decide) (by decide) (by decide) (Nat.le_of_ble_eq_true rfl) (Nat.le_of_ble_eq_true rfl) d_Row_init_10 (fun q10 cA9 H hK9 hP hD hS => ?_)
  obtain rfl : cB = cA9 := ks_byte hK9
  refine W.widen (k := 1) (n := 8192) (by decide) (by decide) ?_
  have hP : va_P (dC, dI) classes [(r, .inr (2, [.null, .int 0])), (q10, .inl (cB, 8192, .inl (fun _ => 0)))] H := hP
  have hD : va_D A [(r, .inr (2, [.null, .int 0])), (q10, .inl (cB, 8192, .inl (fun _ => 0)))] := hD
  refine va_putF (D := (dC, dI)) (ci := 2) (v := .ref q10) (ty := (.array .byte)) (C := "DemoTape$ByteRow") (T := F_Row) (N := 2) hx hb hts i_Row t_Row t_Row_ok n_Row hown hK hP hD hS 0 rfl rfl 0 (by decide) (hts _ mw76) (fun _ h9 => h9) rfl hin rfl (by decide +kernel) rfl rfl (Nat.le_of_ble_eq_true rfl) d_Row_init_12 (fun H locs hP hD hS => ?_)
  have hP : va_P (dC, dI) classes [(r, .inr (2, [.ref q10, .int 0])), (q10, .inl (cB, 8192, .inl (fun _ => 0)))] H := hP
  have hD : va_D A [(r, .inr (2, [.ref q10, .int 0])), (q10, .inl (cB, 8192, .inl (fun _ => 0)))] := hD
  exact kr_v q10 hx hb hr hK (hP.sub [0, 1] (rfl)) (hD.sub [0, 1] (by decide) (rfl)) hS trivial d_Row_init_15 hlocks
abbrev Qc_Rd_init (dC : Nat → ClassId) (dI : Nat → Nat → Nat) (cI cB cZ : ClassId) (d : Nat) (r : Nat) (A : Nat → Prop) := va_Qv (fun (_ : Unit) => True) (ka (dC, dI) classes [(cI, .int), (cB, .byte), (cZ, .boolean)] (fun (_ : Unit) => [(d, .inr (3, [.ref r, .int 0, .int 0, .int 0, .int (-1)]))]) A) A
set_option maxHeartbeats 1000000 in
set_option maxRecDepth 100000 in
/-- Reader(row) -/
theorem c_Rd_init (l : Launch) (dC : Nat → ClassId) (dI : Nat → Nat → Nat) (cI cB cZ : ClassId) (sz : Nat) (d : Nat) (r : Nat)  : Met l y_Rd_init w_Rd_init ({ frames := 1, cells := 0, slots := 0, locals := 12 }) (va_Pc [.ref d, .ref r] (kp (dC, dI) classes [(cI, .int), (cB, .byte), (cZ, .boolean)] [(d, .inr (3, [.null, .int 0, .int 0, .int 0, .int 0]))] sz)) (Qc_Rd_init dC dI cI cB cZ d r (va_A [(d, .inr (3, [.null, .int 0, .int 0, .int 0, .int 0]))] sz)) 0 0 (va_A [(d, .inr (3, [.null, .int 0, .int 0, .int 0, .int 0]))] sz) := by
  refine Met.ofW (cc := prog_4_method_1_code) (maxL := 2) (ret := none) (by decide) rfl ?_
  intro p e s m args below meth c s₁ B hml hv
  obtain ⟨rfl, hsz, hP, hK, hD0⟩ := hv
  have hx := B.exec
  have hb := B.bytes
  have hr := B.returns
  have hts := fun w h => atoms_spec (ws := w_Rd_init) B.pre w (List.mem_cons_of_mem _ h)
  have hown : s.vm.findClass "DemoTape$Reader" = some m.cls := findClass_of_methodNamed B.named
  have hlocks := B.notSynchronized
  have hin : meth.name = "<init>" := (name_of_methodNamed B.named B.method).1
  subst hsz
  have hD := hD0.self (sz := s.heap.size)
  generalize hAe : va_A ([(d, .inr (3, [.null, .int 0, .int 0, .int 0, .int 0]))] : va_W) s.heap.size = A at hD ⊢
  have hA : ∀ q : Nat, s.heap.size ≤ q → A q := fun q h => by rw [← hAe]; exact Or.inr h
  have hS : va_S A s.heap s.heap [] := va_S.rf
  have hP : va_P (dC, dI) classes [(d, .inr (3, [.null, .int 0, .int 0, .int 0, .int 0]))] s.heap := hP
  have hl := lv_entry ([.ref d, .ref r]) (n := 2) (Nat.le_of_ble_eq_true rfl)
  rw [lg_entry_eq]
  generalize (lg_sl ([.ref d, .ref r]) ++ List.replicate (2 - (lg_sl ([.ref d, .ref r])).length) Slot.unset).toArray = ls at hl ⊢
  have hl : lv_has ls 2 [(0, .ref d), (1, .ref r)] := hl
  refine lv_aload_n hx hb d_Rd_init_0 rfl (lv_at hl 0 rfl) ?_
  refine W.objInit hx hb hown (hts _ mw89) (hts _ mw39) (hts _ mw40) rfl (by rw [hml]; exact hl.1) rfl d_Rd_init_1 (Nat.le_of_ble_eq_true rfl) (Nat.le_of_ble_eq_true rfl) ?_
  refine W.eq (g2 := F0 m 4 ls []) rfl ?_
  refine lv_aload_n hx hb d_Rd_init_4 rfl (lv_at hl 0 rfl) ?_
  refine lv_aload_n hx hb d_Rd_init_5 rfl (lv_at hl 1 rfl) ?_
  refine va_putF (D := (dC, dI)) (ci := 3) (v := .ref r) (ty := (.object "DemoTape$ByteRow")) (C := "DemoTape$Reader") (T := F_Rd) (N := 5) hx hb hts i_Rd t_Rd t_Rd_ok n_Rd hown hK hP hD hS 0 rfl rfl 0 (by decide) (hts _ mw90) (fun _ h9 => h9) rfl hin rfl (by decide +kernel) rfl rfl (Nat.le_of_ble_eq_true rfl) d_Rd_init_6 (fun H locs hP hD hS => ?_)
  have hP : va_P (dC, dI) classes [(d, .inr (3, [.ref r, .int 0, .int 0, .int 0, .int 0]))] H := hP
  have hD : va_D A [(d, .inr (3, [.ref r, .int 0, .int 0, .int 0, .int 0]))] := hD
  refine lv_aload_n hx hb d_Rd_init_9 rfl (lv_at hl 0 rfl) ?_
  refine lv_iconst (v := 0) hx hb d_Rd_init_10 (by decide) ?_
  refine va_put (D := (dC, dI)) (ci := 3) (v := .int 0) (ty := .int) (C := "DemoTape$Reader") (T := F_Rd) (N := 5) hx hb hts i_Rd t_Rd t_Rd_ok n_Rd hown hK hP hD hS 0 rfl rfl 3 (by decide) (hts _ mw93) (fun _ h9 => h9) rfl (by decide +kernel) rfl rfl (Nat.le_of_ble_eq_true rfl) d_Rd_init_11 (fun H locs hP hD hS => ?_)
  have hP : va_P (dC, dI) classes [(d, .inr (3, [.ref r, .int 0, .int 0, .int 0, .int 0]))] H := hP
  have hD : va_D A [(d, .inr (3, [.ref r, .int 0, .int 0, .int 0, .int 0]))] := hD
  refine lv_aload_n hx hb d_Rd_init_14 rfl (lv_at hl 0 rfl) ?_
  refine lv_iconst (v := -1) hx hb d_Rd_init_15 (by decide) ?_
  refine va_put (D := (dC, dI)) (ci := 3) (v := .int (-1)) (ty := .int) (C := "DemoTape$Reader") (T := F_Rd) (N := 5) hx hb hts i_Rd t_Rd t_Rd_ok n_Rd hown hK hP hD hS 0 rfl rfl 4 (by decide) (hts _ mw94) (fun _ h9 => h9) rfl (by decide +kernel) rfl rfl (Nat.le_of_ble_eq_true rfl) d_Rd_init_16 (fun H locs hP hD hS => ?_)
  have hP : va_P (dC, dI) classes [(d, .inr (3, [.ref r, .int 0, .int 0, .int 0, .int (-1)]))] H := hP
  have hD : va_D A [(d, .inr (3, [.ref r, .int 0, .int 0, .int 0, .int (-1)]))] := hD
  exact kr_v () hx hb hr hK (hP.sub [0] (rfl)) (hD.sub [0] (by decide) (rfl)) hS trivial d_Rd_init_19 hlocks
