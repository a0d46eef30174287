abbrev Qc_Rd_fault (dC : Nat → ClassId) (dI : Nat → Nat → Nat) (cI cB cZ : ClassId) (d : Nat) (r : Nat) (q : RS) (A : Nat → Prop) := va_Qi (fun (r9 : Int32) (_ : Unit) => (r9 = rFt q)) (ka (dC, dI) classes [(cI, .int), (cB, .byte), (cZ, .boolean)] (fun (_ : Unit) => [(d, .inr (3, [.ref r, .int (nI (rNx q)), .int (nI (rAn q)), .int (rFt q), .int (rPl q)]))]) A) A
set_option maxHeartbeats 1000000 in
set_option maxRecDepth 100000 in
/-- Reader.fault -/
theorem c_Rd_fault (l : Launch) (dC : Nat → ClassId) (dI : Nat → Nat → Nat) (cI cB cZ : ClassId) (sz : Nat) (d : Nat) (r : Nat) (q : RS)  : Met l y_Rd_fault w_Rd_fault ({ frames := 0, cells := 0, slots := 0, locals := 0 }) (va_Pc [.ref d] (kp (dC, dI) classes [(cI, .int), (cB, .byte), (cZ, .boolean)] [(d, .inr (3, [.ref r, .int (nI (rNx q)), .int (nI (rAn q)), .int (rFt q), .int (rPl q)]))] sz)) (Qc_Rd_fault dC dI cI cB cZ d r q (va_A [(d, .inr (3, [.ref r, .int (nI (rNx q)), .int (nI (rAn q)), .int (rFt q), .int (rPl q)]))] sz)) 0 0 (va_A [(d, .inr (3, [.ref r, .int (nI (rNx q)), .int (nI (rAn q)), .int (rFt q), .int (rPl q)]))] sz) := by
  refine Met.ofW (cc := prog_4_method_2_code) (maxL := 1) (ret := (some .int)) (by decide) rfl ?_
  intro p e s m args below meth c s₁ B hml hv
  obtain ⟨rfl, hsz, hP, hK, hD0⟩ := hv
  have hx := B.exec
  have hb := B.bytes
  have hr := B.returns
  have hts := fun w h => atoms_spec (ws := w_Rd_fault) B.pre w (List.mem_cons_of_mem _ h)
  have hown : s.vm.findClass "DemoTape$Reader" = some m.cls := findClass_of_methodNamed B.named
  have hlocks := B.notSynchronized
  subst hsz
  have hD := hD0.self (sz := s.heap.size)
  generalize hAe : va_A ([(d, .inr (3, [.ref r, .int (nI (rNx q)), .int (nI (rAn q)), .int (rFt q), .int (rPl q)]))] : va_W) s.heap.size = A at hD ⊢
  have hA : ∀ q : Nat, s.heap.size ≤ q → A q := fun q h => by rw [← hAe]; exact Or.inr h
  have hS : va_S A s.heap s.heap [] := va_S.rf
  have hP : va_P (dC, dI) classes [(d, .inr (3, [.ref r, .int (nI (rNx q)), .int (nI (rAn q)), .int (rFt q), .int (rPl q)]))] s.heap := hP
  have hl := lv_entry ([.ref d]) (n := 1) (Nat.le_of_ble_eq_true rfl)
  rw [lg_entry_eq]
  generalize (lg_sl ([.ref d]) ++ List.replicate (1 - (lg_sl ([.ref d])).length) Slot.unset).toArray = ls at hl ⊢
  have hl : lv_has ls 1 [(0, .ref d)] := hl
  refine lv_aload_n hx hb d_Rd_fault_0 rfl (lv_at hl 0 rfl) ?_
  refine va_get (D := (dC, dI)) (ci := 3) (v := .int (rFt q)) (C := "DemoTape$Reader") (T := F_Rd) (N := 5) hx hb hts i_Rd hown hK hP 0 rfl rfl 3 (by decide) (hts _ mw93) (fun _ h9 => h9) rfl d_Rd_fault_1 ?_
  exact kr_i (v := rFt q) () hx hb hr rfl hK (hP.sub [0] (rfl)) (hD.sub [0] (by decide) (rfl)) hS (by first | with_reducible rfl | with_reducible assumption | rfl | omega) d_Rd_fault_4 hlocks
abbrev Qc_Rd_faultPlace (dC : Nat → ClassId) (dI : Nat → Nat → Nat) (cI cB cZ : ClassId) (d : Nat) (r : Nat) (q : RS) (A : Nat → Prop) := va_Qi (fun (r9 : Int32) (_ : Unit) => (r9 = rPl q)) (ka (dC, dI) classes [(cI, .int), (cB, .byte), (cZ, .boolean)] (fun (_ : Unit) => [(d, .inr (3, [.ref r, .int (nI (rNx q)), .int (nI (rAn q)), .int (rFt q), .int (rPl q)]))]) A) A
set_option maxHeartbeats 1000000 in
set_option maxRecDepth 100000 in
/-- Reader.faultPlace -/
theorem c_Rd_faultPlace (l : Launch) (dC : Nat → ClassId) (dI : Nat → Nat → Nat) (cI cB cZ : ClassId) (sz : Nat) (d : Nat) (r : Nat) (q : RS)  : Met l y_Rd_faultPlace w_Rd_faultPlace ({ frames := 0, cells := 0, slots := 0, locals := 0 }) (va_Pc [.ref d] (kp (dC, dI) classes [(cI, .int), (cB, .byte), (cZ, .boolean)] [(d, .inr (3, [.ref r, .int (nI (rNx q)), .int (nI (rAn q)), .int (rFt q), .int (rPl q)]))] sz)) (Qc_Rd_faultPlace dC dI cI cB cZ d r q (va_A [(d, .inr (3, [.ref r, .int (nI (rNx q)), .int (nI (rAn q)), .int (rFt q), .int (rPl q)]))] sz)) 0 0 (va_A [(d, .inr (3, [.ref r, .int (nI (rNx q)), .int (nI (rAn q)), .int (rFt q), .int (rPl q)]))] sz) := by
  refine Met.ofW (cc := prog_4_method_3_code) (maxL := 1) (ret := (some .int)) (by decide) rfl ?_
  intro p e s m args below meth c s₁ B hml hv
  obtain ⟨rfl, hsz, hP, hK, hD0⟩ := hv
  have hx := B.exec
  have hb := B.bytes
  have hr := B.returns
  have hts := fun w h => atoms_spec (ws := w_Rd_faultPlace) B.pre w (List.mem_cons_of_mem _ h)
  have hown : s.vm.findClass "DemoTape$Reader" = some m.cls := findClass_of_methodNamed B.named
  have hlocks := B.notSynchronized
  subst hsz
  have hD := hD0.self (sz := s.heap.size)
  generalize hAe : va_A ([(d, .inr (3, [.ref r, .int (nI (rNx q)), .int (nI (rAn q)), .int (rFt q), .int (rPl q)]))] : va_W) s.heap.size = A at hD ⊢
  have hA : ∀ q : Nat, s.heap.size ≤ q → A q := fun q h => by rw [← hAe]; exact Or.inr h
  have hS : va_S A s.heap s.heap [] := va_S.rf
  have hP : va_P (dC, dI) classes [(d, .inr (3, [.ref r, .int (nI (rNx q)), .int (nI (rAn q)), .int (rFt q), .int (rPl q)]))] s.heap := hP
  have hl := lv_entry ([.ref d]) (n := 1) (Nat.le_of_ble_eq_true rfl)
  rw [lg_entry_eq]
  generalize (lg_sl ([.ref d]) ++ List.replicate (1 - (lg_sl ([.ref d])).length) Slot.unset).toArray = ls at hl ⊢
  have hl : lv_has ls 1 [(0, .ref d)] := hl
  refine lv_aload_n hx hb d_Rd_faultPlace_0 rfl (lv_at hl 0 rfl) ?_
  refine va_get (D := (dC, dI)) (ci := 3) (v := .int (rPl q)) (C := "DemoTape$Reader") (T := F_Rd) (N := 5) hx hb hts i_Rd hown hK hP 0 rfl rfl 4 (by decide) (hts _ mw94) (fun _ h9 => h9) rfl d_Rd_faultPlace_1 ?_
  exact kr_i (v := rPl q) () hx hb hr rfl hK (hP.sub [0] (rfl)) (hD.sub [0] (by decide) (rfl)) hS (by first | with_reducible rfl | with_reducible assumption | rfl | omega) d_Rd_faultPlace_4 hlocks
abbrev Qc_Rd_fail (dC : Nat → ClassId) (dI : Nat → Nat → Nat) (cI cB cZ : ClassId) (d : Nat) (r : Nat) (q : RS) (nf : Int32) (p0 : Int32) (A : Nat → Prop) := va_Qv (fun (_ : Unit) => True) (ka (dC, dI) classes [(cI, .int), (cB, .byte), (cZ, .boolean)] (fun (_ : Unit) => [(d, .inr (3, [.ref r, .int (nI (rNx (rFail nf p0 q))), .int (nI (rAn (rFail nf p0 q))), .int (rFt (rFail nf p0 q)), .int (rPl (rFail nf p0 q))]))]) A) A
set_option maxHeartbeats 1000000 in
set_option maxRecDepth 100000 in
/-- Reader.fail -/
theorem c_Rd_fail (l : Launch) (dC : Nat → ClassId) (dI : Nat → Nat → Nat) (cI cB cZ : ClassId) (sz : Nat) (d : Nat) (r : Nat) (q : RS) (nf : Int32) (p0 : Int32)  : Met l y_Rd_fail w_Rd_fail ({ frames := 0, cells := 0, slots := 0, locals := 0 }) (va_Pc [.ref d, .int nf, .int p0] (kp (dC, dI) classes [(cI, .int), (cB, .byte), (cZ, .boolean)] [(d, .inr (3, [.ref r, .int (nI (rNx q)), .int (nI (rAn q)), .int (rFt q), .int (rPl q)]))] sz)) (Qc_Rd_fail dC dI cI cB cZ d r q nf p0 (va_A [(d, .inr (3, [.ref r, .int (nI (rNx q)), .int (nI (rAn q)), .int (rFt q), .int (rPl q)]))] sz)) 0 0 (va_A [(d, .inr (3, [.ref r, .int (nI (rNx q)), .int (nI (rAn q)), .int (rFt q), .int (rPl q)]))] sz) := by
  refine Met.ofW (cc := prog_4_method_5_code) (maxL := 3) (ret := none) (by decide) rfl ?_
  intro p e s m args below meth c s₁ B hml hv
  obtain ⟨rfl, hsz, hP, hK, hD0⟩ := hv
  have hx := B.exec
  have hb := B.bytes
  have hr := B.returns
  have hts := fun w h => atoms_spec (ws := w_Rd_fail) B.pre w (List.mem_cons_of_mem _ h)
  have hown : s.vm.findClass "DemoTape$Reader" = some m.cls := findClass_of_methodNamed B.named
  have hlocks := B.notSynchronized
  subst hsz
  have hD := hD0.self (sz := s.heap.size)
  generalize hAe : va_A ([(d, .inr (3, [.ref r, .int (nI (rNx q)), .int (nI (rAn q)), .int (rFt q), .int (rPl q)]))] : va_W) s.heap.size = A at hD ⊢
  have hA : ∀ q : Nat, s.heap.size ≤ q → A q := fun q h => by rw [← hAe]; exact Or.inr h
  have hS : va_S A s.heap s.heap [] := va_S.rf
  have hP : va_P (dC, dI) classes [(d, .inr (3, [.ref r, .int (nI (rNx q)), .int (nI (rAn q)), .int (rFt q), .int (rPl q)]))] s.heap := hP
  have hl := lv_entry ([.ref d, .int nf, .int p0]) (n := 3) (Nat.le_of_ble_eq_true rfl)
  rw [lg_entry_eq]
  generalize (lg_sl ([.ref d, .int nf, .int p0]) ++ List.replicate (3 - (lg_sl ([.ref d, .int nf, .int p0])).length) Slot.unset).toArray = ls at hl ⊢
  have hl : lv_has ls 3 [(0, .ref d), (1, .int nf), (2, .int p0)] := hl
  refine lv_aload_n hx hb d_Rd_fail_0 rfl (lv_at hl 0 rfl) ?_
  refine va_get (D := (dC, dI)) (ci := 3) (v := .int (rFt q)) (C := "DemoTape$Reader") (T := F_Rd) (N := 5) hx hb hts i_Rd hown hK hP 0 rfl rfl 3 (by decide) (hts _ mw93) (fun _ h9 => h9) rfl d_Rd_fail_1 ?_
  refine lv_if_ne (tgt := 17) hx hb d_Rd_fail_4 (by decide) (fun c_4 => ?_) (fun c_4 => ?_)
  · exact kr_v () hx hb hr hK (hP.sub [0] (by rw [rFail_n c_4]; first | done | rfl)) (hD.sub [0] (by decide) (by rw [rFail_n c_4]; first | done | rfl)) hS trivial d_Rd_fail_17 hlocks
  · refine lv_aload_n hx hb d_Rd_fail_7 rfl (lv_at hl 0 rfl) ?_
    refine lv_iload_n hx hb d_Rd_fail_8 rfl (lv_at hl 1 rfl) ?_
    refine va_put (D := (dC, dI)) (ci := 3) (v := .int nf) (ty := .int) (C := "DemoTape$Reader") (T := F_Rd) (N := 5) hx hb hts i_Rd t_Rd t_Rd_ok n_Rd hown hK hP hD hS 0 rfl rfl 3 (by decide) (hts _ mw93) (fun _ h9 => h9) rfl (by decide +kernel) rfl rfl (Nat.le_of_ble_eq_true rfl) d_Rd_fail_9 (fun H locs hP hD hS => ?_)
    have hP : va_P (dC, dI) classes [(d, .inr (3, [.ref r, .int (nI (rNx q)), .int (nI (rAn q)), .int nf, .int (rPl q)]))] H := hP
    have hD : va_D A [(d, .inr (3, [.ref r, .int (nI (rNx q)), .int (nI (rAn q)), .int nf, .int (rPl q)]))] := hD
    refine lv_aload_n hx hb d_Rd_fail_12 rfl (lv_at hl 0 rfl) ?_
    refine lv_iload_n hx hb d_Rd_fail_13 rfl (lv_at hl 2 rfl) ?_
    refine va_put (D := (dC, dI)) (ci := 3) (v := .int p0) (ty := .int) (C := "DemoTape$Reader") (T := F_Rd) (N := 5) hx hb hts i_Rd t_Rd t_Rd_ok n_Rd hown hK hP hD hS 0 rfl rfl 4 (by decide) (hts _ mw94) (fun _ h9 => h9) rfl (by decide +kernel) rfl rfl (Nat.le_of_ble_eq_true rfl) d_Rd_fail_14 (fun H locs hP hD hS => ?_)
    have hP : va_P (dC, dI) classes [(d, .inr (3, [.ref r, .int (nI (rNx q)), .int (nI (rAn q)), .int nf, .int p0]))] H := hP
    have hD : va_D A [(d, .inr (3, [.ref r, .int (nI (rNx q)), .int (nI (rAn q)), .int nf, .int p0]))] := hD
    exact kr_v () hx hb hr hK (hP.sub [0] (by rw [rFail_y c_4]; first | done | rfl)) (hD.sub [0] (by decide) (by rw [rFail_y c_4]; first | done | rfl)) hS trivial d_Rd_fail_17 hlocks
abbrev Qc_Rd_take (dC : Nat → ClassId) (dI : Nat → Nat → Nat) (cI cB cZ : ClassId) (d : Nat) (r : Nat) (q : RS) (b : Nat) (cap : Nat) (f : Nat → Int32) (L : List Nat) (mo : Int32) (A : Nat → Prop) := va_Qi (fun (r9 : Int32) (_ : Unit) => (r9 = (tTake L mo q).1)) (ka (dC, dI) classes [(cI, .int), (cB, .byte), (cZ, .boolean)] (fun (_ : Unit) => [(d, .inr (3, [.ref r, .int (nI (rNx (tTake L mo q).2)), .int (nI (rAn (tTake L mo q).2)), .int (rFt (tTake L mo q).2), .int (rPl (tTake L mo q).2)])), (r, .inr (2, [.ref b, .int (nI L.length)])), (b, .inl (cB, cap, .inl f))]) A) A
set_option maxHeartbeats 1000000 in
set_option maxRecDepth 100000 in
/-- Reader.take -/
theorem c_Rd_take (l : Launch) (dC : Nat → ClassId) (dI : Nat → Nat → Nat) (cI cB cZ : ClassId) (sz : Nat) (d : Nat) (r : Nat) (q : RS) (b : Nat) (cap : Nat) (f : Nat → Int32) (L : List Nat) (mo : Int32) (hB : BRow cap f L) (hq : rNx q ≤ L.length) : Met l y_Rd_take w_Rd_take ({ frames := 1, cells := 0, slots := 0, locals := 22 }) (va_Pc [.ref d, .int mo] (kp (dC, dI) classes [(cI, .int), (cB, .byte), (cZ, .boolean)] [(d, .inr (3, [.ref r, .int (nI (rNx q)), .int (nI (rAn q)), .int (rFt q), .int (rPl q)])), (r, .inr (2, [.ref b, .int (nI L.length)])), (b, .inl (cB, cap, .inl f))] sz)) (Qc_Rd_take dC dI cI cB cZ d r q b cap f L mo (va_A [(d, .inr (3, [.ref r, .int (nI (rNx q)), .int (nI (rAn q)), .int (rFt q), .int (rPl q)])), (r, .inr (2, [.ref b, .int (nI L.length)])), (b, .inl (cB, cap, .inl f))] sz)) 0 0 (va_A [(d, .inr (3, [.ref r, .int (nI (rNx q)), .int (nI (rAn q)), .int (rFt q), .int (rPl q)])), (r, .inr (2, [.ref b, .int (nI L.length)])), (b, .inl (cB, cap, .inl f))] sz) := by
  refine Met.ofW (cc := prog_4_method_6_code) (maxL := 3) (ret := (some .int)) (by decide) rfl ?_
  intro p e s m args below meth c s₁ B hml hv
  obtain ⟨rfl, hsz, hP, hK, hD0⟩ := hv
  have hx := B.exec
  have hb := B.bytes
  have hr := B.returns
  have hts := fun w h => atoms_spec (ws := w_Rd_take) B.pre w (List.mem_cons_of_mem _ h)
  have hown : s.vm.findClass "DemoTape$Reader" = some m.cls := findClass_of_methodNamed B.named
  have hlocks := B.notSynchronized
  subst hsz
  have hD := hD0.self (sz := s.heap.size)
  generalize hAe : va_A ([(d, .inr (3, [.ref r, .int (nI (rNx q)), .int (nI (rAn q)), .int (rFt q), .int (rPl q)])), (r, .inr (2, [.ref b, .int (nI L.length)])), (b, .inl (cB, cap, .inl f))] : va_W) s.heap.size = A at hD ⊢
  have hA : ∀ q : Nat, s.heap.size ≤ q → A q := fun q h => by rw [← hAe]; exact Or.inr h
  have hS : va_S A s.heap s.heap [] := va_S.rf
  have hP : va_P (dC, dI) classes [(d, .inr (3, [.ref r, .int (nI (rNx q)), .int (nI (rAn q)), .int (rFt q), .int (rPl q)])), (r, .inr (2, [.ref b, .int (nI L.length)])), (b, .inl (cB, cap, .inl f))] s.heap := hP
  have hL : L.length ≤ 8192 := Nat.le_trans hB.2.2.1 hB.2.2.2
  have hl := lv_entry ([.ref d, .int mo]) (n := 3) (Nat.le_of_ble_eq_true rfl)
  rw [lg_entry_eq]
  generalize (lg_sl ([.ref d, .int mo]) ++ List.replicate (3 - (lg_sl ([.ref d, .int mo])).length) Slot.unset).toArray = ls at hl ⊢
  have hl : lv_has ls 3 [(0, .ref d), (1, .int mo)] := hl
  refine lv_aload_n hx hb d_Rd_take_0 rfl (lv_at hl 0 rfl) ?_
  refine va_get (D := (dC, dI)) (ci := 3) (v := .int (rFt q)) (C := "DemoTape$Reader") (T := F_Rd) (N := 5) hx hb hts i_Rd hown hK hP 0 rfl rfl 3 (by decide) (hts _ mw93) (fun _ h9 => h9) rfl d_Rd_take_1 ?_
  refine lv_if_eq (tgt := 9) hx hb d_Rd_take_4 (by decide) (fun c_4 => ?_) (fun c_4 => ?_)
  · refine lv_aload_n hx hb d_Rd_take_9 rfl (lv_at hl 0 rfl) ?_
    refine va_get (D := (dC, dI)) (ci := 3) (v := .ref r) (C := "DemoTape$Reader") (T := F_Rd) (N := 5) hx hb hts i_Rd hown hK hP 0 rfl rfl 0 (by decide) (hts _ mw90) (fun _ h9 => h9) rfl d_Rd_take_10 ?_
    refine lv_aload_n hx hb d_Rd_take_13 rfl (lv_at hl 0 rfl) ?_
    refine va_get (D := (dC, dI)) (ci := 3) (v := .int (nI (rNx q))) (C := "DemoTape$Reader") (T := F_Rd) (N := 5) hx hb hts i_Rd hown hK hP 0 rfl rfl 1 (by decide) (hts _ mw91) (fun _ h9 => h9) rfl d_Rd_take_14 ?_
    refine kq_i (wr := [(d, .inr (3, [.ref r, .int (nI (rNx q)), .int (nI (rAn q)), .int (rFt q), .int (rPl q)]))]) (va_runV (As := [.int (nI (rNx q))]) (rest := []) ⟨hx, hb, hml, hown, hts⟩ (c_Row_get l dC dI cI cB cZ _ r b cap f L (nI (rNx q)) (by first | with_reducible assumption | omega | decide)) (cwV 1 hts (gV mw296 mw234 mw235 mw27 mw236) rfl rfl rfl (by decide +kernel) ⟨Nat.le_of_ble_eq_true rfl, Nat.le_of_ble_eq_true rfl⟩) (kpV (wc := [(r, .inr (2, [.ref b, .int (nI L.length)])), (b, .inl (cB, cap, .inl f))]) (q0 := 1) (ci := 2) hK hP hD [1, 2] rfl (by decide) rfl rfl rfl) rfl rfl hl.1 rfl (lv_room (Nat.le_of_ble_eq_true rfl)) d_Rd_take_17 ⟨Nat.le_of_ble_eq_true rfl, Nat.le_of_ble_eq_true rfl⟩) hP hD hS hA [1, 2] [0] [0, 1, 2] rfl rfl (by decide) (by decide) rfl (fun r_17 H locs hw hP hS => ?_)
    have e_17 := hw
    refine kt_i e_17 ?_
    refine lv_istore_n (lv' := [(2, .int (kGetB L (nI (rNx q)))), (0, .ref d), (1, .int mo)]) hx hb d_Rd_take_20 rfl hl (by decide) rfl (fun ls hl => ?_)
    refine lv_iload_n hx hb d_Rd_take_21 rfl (lv_at hl 0 rfl) ?_
    refine lv_iconst (v := -1) hx hb d_Rd_take_22 (by decide) ?_
    refine lv_icmp_ne (tgt := 37) hx hb d_Rd_take_23 (by decide) (fun c_23 => ?_) (fun c_23 => ?_)
    · refine lv_iload_n hx hb d_Rd_take_37 rfl (lv_at hl 0 rfl) ?_
      refine lv_iload_n hx hb d_Rd_take_38 rfl (lv_at hl 2 rfl) ?_
      refine lv_icmp_le (tgt := 53) hx hb d_Rd_take_39 (by decide) (fun c_39 => ?_) (fun c_39 => ?_)
      · refine lv_aload_n hx hb d_Rd_take_53 rfl (lv_at hl 1 rfl) ?_
        refine lv_dup hx hb d_Rd_take_54 rfl ?_
        refine va_get (D := (dC, dI)) (ci := 3) (v := .int (nI (rNx q))) (C := "DemoTape$Reader") (T := F_Rd) (N := 5) hx hb hts i_Rd hown hK hP 0 rfl rfl 1 (by decide) (hts _ mw91) (fun _ h9 => h9) rfl d_Rd_take_55 ?_
        refine lv_iconst (v := 1) hx hb d_Rd_take_58 (by decide) ?_
        refine lv_iadd hx hb d_Rd_take_59 ?_
        refine kt_i (y := nI (rNx q + 1)) (nI_1 _) ?_
        refine va_put (D := (dC, dI)) (ci := 3) (v := .int (nI (rNx q + 1))) (ty := .int) (C := "DemoTape$Reader") (T := F_Rd) (N := 5) hx hb hts i_Rd t_Rd t_Rd_ok n_Rd hown hK hP hD hS 0 rfl rfl 1 (by decide) (hts _ mw91) (fun _ h9 => h9) rfl (by decide +kernel) rfl rfl (Nat.le_of_ble_eq_true rfl) d_Rd_take_60 (fun H locs hP hD hS => ?_)
        have hP : va_P (dC, dI) classes [(d, .inr (3, [.ref r, .int (nI (rNx q + 1)), .int (nI (rAn q)), .int (rFt q), .int (rPl q)])), (r, .inr (2, [.ref b, .int (nI L.length)])), (b, .inl (cB, cap, .inl f))] H := hP
        have hD : va_D A [(d, .inr (3, [.ref r, .int (nI (rNx q + 1)), .int (nI (rAn q)), .int (rFt q), .int (rPl q)])), (r, .inr (2, [.ref b, .int (nI L.length)])), (b, .inl (cB, cap, .inl f))] := hD
        refine lv_iload_n hx hb d_Rd_take_63 rfl (lv_at hl 0 rfl) ?_
        exact kr_i (v := kGetB L (nI (rNx q))) () hx hb hr rfl hK (hP.sub [0, 1, 2] (by rw [tTake_k c_4 c_23 c_39]; first | done | rfl)) (hD.sub [0, 1, 2] (by decide) (by rw [tTake_k c_4 c_23 c_39]; first | done | rfl)) hS (by rw [tTake_k c_4 c_23 c_39]) d_Rd_take_64 hlocks
      · refine lv_aload_n hx hb d_Rd_take_42 rfl (lv_at hl 1 rfl) ?_
        refine lv_iconst (v := 3) hx hb d_Rd_take_43 (by decide) ?_
        refine lv_aload_n hx hb d_Rd_take_44 rfl (lv_at hl 1 rfl) ?_
        refine va_get (D := (dC, dI)) (ci := 3) (v := .int (nI (rNx q))) (C := "DemoTape$Reader") (T := F_Rd) (N := 5) hx hb hts i_Rd hown hK hP 0 rfl rfl 1 (by decide) (hts _ mw91) (fun _ h9 => h9) rfl d_Rd_take_45 ?_
        refine kc_v (wr := [(r, .inr (2, [.ref b, .int (nI L.length)])), (b, .inl (cB, cap, .inl f))]) (w2 := fun (_ : Unit) => [(d, .inr (3, [.ref r, .int (nI (rNx (rFail 3 (nI (rNx q)) q))), .int (nI (rAn (rFail 3 (nI (rNx q)) q))), .int (rFt (rFail 3 (nI (rNx q)) q)), .int (rPl (rFail 3 (nI (rNx q)) q))])), (r, .inr (2, [.ref b, .int (nI L.length)])), (b, .inl (cB, cap, .inl f))]) (va_runV (As := [.int 3, .int (nI (rNx q))]) (rest := []) ⟨hx, hb, hml, hown, hts⟩ (c_Rd_fail l dC dI cI cB cZ _ d r q 3 (nI (rNx q)) ) (cwV 2 hts (gV mw297 mw299 mw5 mw29 mw300) rfl rfl rfl (by decide +kernel) ⟨Nat.le_of_ble_eq_true rfl, Nat.le_of_ble_eq_true rfl⟩) (kpV (wc := [(d, .inr (3, [.ref r, .int (nI (rNx q)), .int (nI (rAn q)), .int (rFt q), .int (rPl q)]))]) (q0 := 0) (ci := 3) hK hP hD [0] rfl (by decide) rfl rfl rfl) rfl rfl hl.1 rfl (lv_room (Nat.le_of_ble_eq_true rfl)) d_Rd_take_48 ⟨Nat.le_of_ble_eq_true rfl, Nat.le_of_ble_eq_true rfl⟩) hP hD hS hA [0] [1, 2] [2, 0, 1] rfl rfl (by decide) (by decide) (fun _ => rfl) (by decide) (fun _ => rfl) (fun u9 H locs hw hP hD hS => ?_)
        have hP : va_P (dC, dI) classes [(d, .inr (3, [.ref r, .int (nI (rNx (rFail 3 (nI (rNx q)) q))), .int (nI (rAn (rFail 3 (nI (rNx q)) q))), .int (rFt (rFail 3 (nI (rNx q)) q)), .int (rPl (rFail 3 (nI (rNx q)) q))])), (r, .inr (2, [.ref b, .int (nI L.length)])), (b, .inl (cB, cap, .inl f))] H := hP
        have hD : va_D A [(d, .inr (3, [.ref r, .int (nI (rNx (rFail 3 (nI (rNx q)) q))), .int (nI (rAn (rFail 3 (nI (rNx q)) q))), .int (rFt (rFail 3 (nI (rNx q)) q)), .int (rPl (rFail 3 (nI (rNx q)) q))])), (r, .inr (2, [.ref b, .int (nI L.length)])), (b, .inl (cB, cap, .inl f))] := hD
        refine lv_iconst (v := -1) hx hb d_Rd_take_51 (by decide) ?_
        exact kr_i (v := -1) () hx hb hr rfl hK (hP.sub [0, 1, 2] (by rw [tTake_b c_4 c_23 c_39]; first | done | rfl)) (hD.sub [0, 1, 2] (by decide) (by rw [tTake_b c_4 c_23 c_39]; first | done | rfl)) hS (by rw [tTake_b c_4 c_23 c_39]) d_Rd_take_52 hlocks
    · refine lv_aload_n hx hb d_Rd_take_26 rfl (lv_at hl 1 rfl) ?_
      refine lv_iconst (v := 1) hx hb d_Rd_take_27 (by decide) ?_
      refine lv_aload_n hx hb d_Rd_take_28 rfl (lv_at hl 1 rfl) ?_
      refine va_get (D := (dC, dI)) (ci := 3) (v := .int (nI (rNx q))) (C := "DemoTape$Reader") (T := F_Rd) (N := 5) hx hb hts i_Rd hown hK hP 0 rfl rfl 1 (by decide) (hts _ mw91) (fun _ h9 => h9) rfl d_Rd_take_29 ?_
      refine kc_v (wr := [(r, .inr (2, [.ref b, .int (nI L.length)])), (b, .inl (cB, cap, .inl f))]) (w2 := fun (_ : Unit) => [(d, .inr (3, [.ref r, .int (nI (rNx (rFail 1 (nI (rNx q)) q))), .int (nI (rAn (rFail 1 (nI (rNx q)) q))), .int (rFt (rFail 1 (nI (rNx q)) q)), .int (rPl (rFail 1 (nI (rNx q)) q))])), (r, .inr (2, [.ref b, .int (nI L.length)])), (b, .inl (cB, cap, .inl f))]) (va_runV (As := [.int 1, .int (nI (rNx q))]) (rest := []) ⟨hx, hb, hml, hown, hts⟩ (c_Rd_fail l dC dI cI cB cZ _ d r q 1 (nI (rNx q)) ) (cwV 2 hts (gV mw297 mw299 mw5 mw29 mw300) rfl rfl rfl (by decide +kernel) ⟨Nat.le_of_ble_eq_true rfl, Nat.le_of_ble_eq_true rfl⟩) (kpV (wc := [(d, .inr (3, [.ref r, .int (nI (rNx q)), .int (nI (rAn q)), .int (rFt q), .int (rPl q)]))]) (q0 := 0) (ci := 3) hK hP hD [0] rfl (by decide) rfl rfl rfl) rfl rfl hl.1 rfl (lv_room (Nat.le_of_ble_eq_true rfl)) d_Rd_take_32 ⟨Nat.le_of_ble_eq_true rfl, Nat.le_of_ble_eq_true rfl⟩) hP hD hS hA [0] [1, 2] [2, 0, 1] rfl rfl (by decide) (by decide) (fun _ => rfl) (by decide) (fun _ => rfl) (fun u9 H locs hw hP hD hS => ?_)
      have hP : va_P (dC, dI) classes [(d, .inr (3, [.ref r, .int (nI (rNx (rFail 1 (nI (rNx q)) q))), .int (nI (rAn (rFail 1 (nI (rNx q)) q))), .int (rFt (rFail 1 (nI (rNx q)) q)), .int (rPl (rFail 1 (nI (rNx q)) q))])), (r, .inr (2, [.ref b, .int (nI L.length)])), (b, .inl (cB, cap, .inl f))] H := hP
      have hD : va_D A [(d, .inr (3, [.ref r, .int (nI (rNx (rFail 1 (nI (rNx q)) q))), .int (nI (rAn (rFail 1 (nI (rNx q)) q))), .int (rFt (rFail 1 (nI (rNx q)) q)), .int (rPl (rFail 1 (nI (rNx q)) q))])), (r, .inr (2, [.ref b, .int (nI L.length)])), (b, .inl (cB, cap, .inl f))] := hD
      refine lv_iconst (v := -1) hx hb d_Rd_take_35 (by decide) ?_
      exact kr_i (v := -1) () hx hb hr rfl hK (hP.sub [0, 1, 2] (by rw [tTake_e c_4 c_23]; first | done | rfl)) (hD.sub [0, 1, 2] (by decide) (by rw [tTake_e c_4 c_23]; first | done | rfl)) hS (by rw [tTake_e c_4 c_23]) d_Rd_take_36 hlocks
  · refine lv_iconst (v := -1) hx hb d_Rd_take_7 (by decide) ?_
    exact kr_i (v := -1) () hx hb hr rfl hK (hP.sub [0, 1, 2] (by rw [tTake_f c_4]; first | done | rfl)) (hD.sub [0, 1, 2] (by decide) (by rw [tTake_f c_4]; first | done | rfl)) hS (by rw [tTake_f c_4]) d_Rd_take_8 hlocks
abbrev Qc_Rd_takeOnly (dC : Nat → ClassId) (dI : Nat → Nat → Nat) (cI cB cZ : ClassId) (d : Nat) (r : Nat) (q : RS) (b : Nat) (cap : Nat) (f : Nat → Int32) (L : List Nat) (du : Int32) (nf : Int32) (A : Nat → Prop) := va_Qv (fun (_ : Unit) => True) (ka (dC, dI) classes [(cI, .int), (cB, .byte), (cZ, .boolean)] (fun (_ : Unit) => [(d, .inr (3, [.ref r, .int (nI (rNx (tOnly L du nf q))), .int (nI (rAn (tOnly L du nf q))), .int (rFt (tOnly L du nf q)), .int (rPl (tOnly L du nf q))])), (r, .inr (2, [.ref b, .int (nI L.length)])), (b, .inl (cB, cap, .inl f))]) A) A
set_option maxHeartbeats 1000000 in
set_option maxRecDepth 100000 in
/-- Reader.takeOnly -/
theorem c_Rd_takeOnly (l : Launch) (dC : Nat → ClassId) (dI : Nat → Nat → Nat) (cI cB cZ : ClassId) (sz : Nat) (d : Nat) (r : Nat) (q : RS) (b : Nat) (cap : Nat) (f : Nat → Int32) (L : List Nat) (du : Int32) (nf : Int32) (hB : BRow cap f L) (hq : rNx q ≤ L.length) : Met l y_Rd_takeOnly w_Rd_takeOnly ({ frames := 2, cells := 0, slots := 0, locals := 44 }) (va_Pc [.ref d, .int du, .int nf] (kp (dC, dI) classes [(cI, .int), (cB, .byte), (cZ, .boolean)] [(d, .inr (3, [.ref r, .int (nI (rNx q)), .int (nI (rAn q)), .int (rFt q), .int (rPl q)])), (r, .inr (2, [.ref b, .int (nI L.length)])), (b, .inl (cB, cap, .inl f))] sz)) (Qc_Rd_takeOnly dC dI cI cB cZ d r q b cap f L du nf (va_A [(d, .inr (3, [.ref r, .int (nI (rNx q)), .int (nI (rAn q)), .int (rFt q), .int (rPl q)])), (r, .inr (2, [.ref b, .int (nI L.length)])), (b, .inl (cB, cap, .inl f))] sz)) 0 0 (va_A [(d, .inr (3, [.ref r, .int (nI (rNx q)), .int (nI (rAn q)), .int (rFt q), .int (rPl q)])), (r, .inr (2, [.ref b, .int (nI L.length)])), (b, .inl (cB, cap, .inl f))] sz) := by
  refine Met.ofW (cc := prog_4_method_7_code) (maxL := 4) (ret := none) (by decide) rfl ?_
  intro p e s m args below meth c s₁ B hml hv
  obtain ⟨rfl, hsz, hP, hK, hD0⟩ := hv
  have hx := B.exec
  have hb := B.bytes
  have hr := B.returns
  have hts := fun w h => atoms_spec (ws := w_Rd_takeOnly) B.pre w (List.mem_cons_of_mem _ h)
  have hown : s.vm.findClass "DemoTape$Reader" = some m.cls := findClass_of_methodNamed B.named
  have hlocks := B.notSynchronized
  subst hsz
  have hD := hD0.self (sz := s.heap.size)
  generalize hAe : va_A ([(d, .inr (3, [.ref r, .int (nI (rNx q)), .int (nI (rAn q)), .int (rFt q), .int (rPl q)])), (r, .inr (2, [.ref b, .int (nI L.length)])), (b, .inl (cB, cap, .inl f))] : va_W) s.heap.size = A at hD ⊢
  have hA : ∀ q : Nat, s.heap.size ≤ q → A q := fun q h => by rw [← hAe]; exact Or.inr h
  have hS : va_S A s.heap s.heap [] := va_S.rf
  have hP : va_P (dC, dI) classes [(d, .inr (3, [.ref r, .int (nI (rNx q)), .int (nI (rAn q)), .int (rFt q), .int (rPl q)])), (r, .inr (2, [.ref b, .int (nI L.length)])), (b, .inl (cB, cap, .inl f))] s.heap := hP
  have hL : L.length ≤ 8192 := Nat.le_trans hB.2.2.1 hB.2.2.2
  have hl := lv_entry ([.ref d, .int du, .int nf]) (n := 4) (Nat.le_of_ble_eq_true rfl)
  rw [lg_entry_eq]
  generalize (lg_sl ([.ref d, .int du, .int nf]) ++ List.replicate (4 - (lg_sl ([.ref d, .int du, .int nf])).length) Slot.unset).toArray = ls at hl ⊢
  have hl : lv_has ls 4 [(0, .ref d), (1, .int du), (2, .int nf)] := hl
  refine lv_aload_n hx hb d_Rd_takeOnly_0 rfl (lv_at hl 0 rfl) ?_
  refine va_get (D := (dC, dI)) (ci := 3) (v := .int (nI (rNx q))) (C := "DemoTape$Reader") (T := F_Rd) (N := 5) hx hb hts i_Rd hown hK hP 0 rfl rfl 1 (by decide) (hts _ mw91) (fun _ h9 => h9) rfl d_Rd_takeOnly_1 ?_
  refine lv_istore_n (lv' := [(3, .int (nI (rNx q))), (0, .ref d), (1, .int du), (2, .int nf)]) hx hb d_Rd_takeOnly_4 rfl hl (by decide) rfl (fun ls hl => ?_)
  refine lv_aload_n hx hb d_Rd_takeOnly_5 rfl (lv_at hl 1 rfl) ?_
  refine lv_sipush (v := 255) hx hb d_Rd_takeOnly_6 (by decide) ?_
  refine kc_i (wr := []) (w2 := fun (_ : Unit) => [(d, .inr (3, [.ref r, .int (nI (rNx (tTake L 255 q).2)), .int (nI (rAn (tTake L 255 q).2)), .int (rFt (tTake L 255 q).2), .int (rPl (tTake L 255 q).2)])), (r, .inr (2, [.ref b, .int (nI L.length)])), (b, .inl (cB, cap, .inl f))]) (va_runV (As := [.int 255]) (rest := []) ⟨hx, hb, hml, hown, hts⟩ (c_Rd_take l dC dI cI cB cZ _ d r q b cap f L 255 (by first | with_reducible assumption | omega | decide) (by first | with_reducible assumption | omega | decide)) (cwV 1 hts (gV mw292 mw294 mw4 mw29 mw295) rfl rfl rfl (by decide +kernel) ⟨Nat.le_of_ble_eq_true rfl, Nat.le_of_ble_eq_true rfl⟩) (kpV (wc := [(d, .inr (3, [.ref r, .int (nI (rNx q)), .int (nI (rAn q)), .int (rFt q), .int (rPl q)])), (r, .inr (2, [.ref b, .int (nI L.length)])), (b, .inl (cB, cap, .inl f))]) (q0 := 0) (ci := 3) hK hP hD [0, 1, 2] rfl (by decide) rfl rfl rfl) rfl rfl hl.1 rfl (lv_room (Nat.le_of_ble_eq_true rfl)) d_Rd_takeOnly_9 ⟨Nat.le_of_ble_eq_true rfl, Nat.le_of_ble_eq_true rfl⟩) hP hD hS hA [0, 1, 2] [] [0, 1, 2] rfl rfl (by decide) (by decide) (fun _ => rfl) (by decide) (fun _ => rfl) (fun r_9 u9 H locs hw hP hD hS => ?_)
  have hP : va_P (dC, dI) classes [(d, .inr (3, [.ref r, .int (nI (rNx (tTake L 255 q).2)), .int (nI (rAn (tTake L 255 q).2)), .int (rFt (tTake L 255 q).2), .int (rPl (tTake L 255 q).2)])), (r, .inr (2, [.ref b, .int (nI L.length)])), (b, .inl (cB, cap, .inl f))] H := hP
  have hD : va_D A [(d, .inr (3, [.ref r, .int (nI (rNx (tTake L 255 q).2)), .int (nI (rAn (tTake L 255 q).2)), .int (rFt (tTake L 255 q).2), .int (rPl (tTake L 255 q).2)])), (r, .inr (2, [.ref b, .int (nI L.length)])), (b, .inl (cB, cap, .inl f))] := hD
  have e_9 := hw
  refine kt_i e_9 ?_
  refine lv_iload_n hx hb d_Rd_takeOnly_12 rfl (lv_at hl 2 rfl) ?_
  refine lv_icmp_eq (tgt := 22) hx hb d_Rd_takeOnly_13 (by decide) (fun c_13 => ?_) (fun c_13 => ?_)
  · exact kr_v () hx hb hr hK (hP.sub [0, 1, 2] (by rw [tOnly_y c_13]; first | done | rfl)) (hD.sub [0, 1, 2] (by decide) (by rw [tOnly_y c_13]; first | done | rfl)) hS trivial d_Rd_takeOnly_22 hlocks
  · refine lv_aload_n hx hb d_Rd_takeOnly_16 rfl (lv_at hl 1 rfl) ?_
    refine lv_iload_n hx hb d_Rd_takeOnly_17 rfl (lv_at hl 3 rfl) ?_
    refine lv_iload_n hx hb d_Rd_takeOnly_18 rfl (lv_at hl 0 rfl) ?_
    refine kc_v (wr := [(r, .inr (2, [.ref b, .int (nI L.length)])), (b, .inl (cB, cap, .inl f))]) (w2 := fun (_ : Unit) => [(d, .inr (3, [.ref r, .int (nI (rNx (rFail nf (nI (rNx q)) (tTake L 255 q).2))), .int (nI (rAn (rFail nf (nI (rNx q)) (tTake L 255 q).2))), .int (rFt (rFail nf (nI (rNx q)) (tTake L 255 q).2)), .int (rPl (rFail nf (nI (rNx q)) (tTake L 255 q).2))])), (r, .inr (2, [.ref b, .int (nI L.length)])), (b, .inl (cB, cap, .inl f))]) (va_runV (As := [.int nf, .int (nI (rNx q))]) (rest := []) ⟨hx, hb, hml, hown, hts⟩ (c_Rd_fail l dC dI cI cB cZ _ d r (tTake L 255 q).2 nf (nI (rNx q)) ) (cwV 2 hts (gV mw297 mw299 mw5 mw29 mw300) rfl rfl rfl (by decide +kernel) ⟨Nat.le_of_ble_eq_true rfl, Nat.le_of_ble_eq_true rfl⟩) (kpV (wc := [(d, .inr (3, [.ref r, .int (nI (rNx (tTake L 255 q).2)), .int (nI (rAn (tTake L 255 q).2)), .int (rFt (tTake L 255 q).2), .int (rPl (tTake L 255 q).2)]))]) (q0 := 0) (ci := 3) hK hP hD [0] rfl (by decide) rfl rfl rfl) rfl rfl hl.1 rfl (lv_room (Nat.le_of_ble_eq_true rfl)) d_Rd_takeOnly_19 ⟨Nat.le_of_ble_eq_true rfl, Nat.le_of_ble_eq_true rfl⟩) hP hD hS hA [0] [1, 2] [2, 0, 1] rfl rfl (by decide) (by decide) (fun _ => rfl) (by decide) (fun _ => rfl) (fun u9 H locs hw hP hD hS => ?_)
    have hP : va_P (dC, dI) classes [(d, .inr (3, [.ref r, .int (nI (rNx (rFail nf (nI (rNx q)) (tTake L 255 q).2))), .int (nI (rAn (rFail nf (nI (rNx q)) (tTake L 255 q).2))), .int (rFt (rFail nf (nI (rNx q)) (tTake L 255 q).2)), .int (rPl (rFail nf (nI (rNx q)) (tTake L 255 q).2))])), (r, .inr (2, [.ref b, .int (nI L.length)])), (b, .inl (cB, cap, .inl f))] H := hP
    have hD : va_D A [(d, .inr (3, [.ref r, .int (nI (rNx (rFail nf (nI (rNx q)) (tTake L 255 q).2))), .int (nI (rAn (rFail nf (nI (rNx q)) (tTake L 255 q).2))), .int (rFt (rFail nf (nI (rNx q)) (tTake L 255 q).2)), .int (rPl (rFail nf (nI (rNx q)) (tTake L 255 q).2))])), (r, .inr (2, [.ref b, .int (nI L.length)])), (b, .inl (cB, cap, .inl f))] := hD
    exact kr_v () hx hb hr hK (hP.sub [0, 1, 2] (by rw [tOnly_n c_13]; first | done | rfl)) (hD.sub [0, 1, 2] (by decide) (by rw [tOnly_n c_13]; first | done | rfl)) hS trivial d_Rd_takeOnly_22 hlocks
abbrev Qc_Rd_takePlace (dC : Nat → ClassId) (dI : Nat → Nat → Nat) (cI cB cZ : ClassId) (d : Nat) (r : Nat) (q : RS) (b : Nat) (cap : Nat) (f : Nat → Int32) (L : List Nat) (A : Nat → Prop) := va_Qi (fun (r9 : Int32) (_ : Unit) => (r9 = (tPlace L q).1)) (ka (dC, dI) classes [(cI, .int), (cB, .byte), (cZ, .boolean)] (fun (_ : Unit) => [(d, .inr (3, [.ref r, .int (nI (rNx (tPlace L q).2)), .int (nI (rAn (tPlace L q).2)), .int (rFt (tPlace L q).2), .int (rPl (tPlace L q).2)])), (r, .inr (2, [.ref b, .int (nI L.length)])), (b, .inl (cB, cap, .inl f))]) A) A
set_option maxHeartbeats 1000000 in
set_option maxRecDepth 100000 in
/-- Reader.takePlace -/
theorem c_Rd_takePlace (l : Launch) (dC : Nat → ClassId) (dI : Nat → Nat → Nat) (cI cB cZ : ClassId) (sz : Nat) (d : Nat) (r : Nat) (q : RS) (b : Nat) (cap : Nat) (f : Nat → Int32) (L : List Nat) (hB : BRow cap f L) (hq : rNx q ≤ L.length) : Met l y_Rd_takePlace w_Rd_takePlace ({ frames := 2, cells := 0, slots := 0, locals := 44 }) (va_Pc [.ref d] (kp (dC, dI) classes [(cI, .int), (cB, .byte), (cZ, .boolean)] [(d, .inr (3, [.ref r, .int (nI (rNx q)), .int (nI (rAn q)), .int (rFt q), .int (rPl q)])), (r, .inr (2, [.ref b, .int (nI L.length)])), (b, .inl (cB, cap, .inl f))] sz)) (Qc_Rd_takePlace dC dI cI cB cZ d r q b cap f L (va_A [(d, .inr (3, [.ref r, .int (nI (rNx q)), .int (nI (rAn q)), .int (rFt q), .int (rPl q)])), (r, .inr (2, [.ref b, .int (nI L.length)])), (b, .inl (cB, cap, .inl f))] sz)) 0 0 (va_A [(d, .inr (3, [.ref r, .int (nI (rNx q)), .int (nI (rAn q)), .int (rFt q), .int (rPl q)])), (r, .inr (2, [.ref b, .int (nI L.length)])), (b, .inl (cB, cap, .inl f))] sz) := by
  refine Met.ofW (cc := prog_4_method_10_code) (maxL := 4) (ret := (some .int)) (by decide) rfl ?_
  intro p e s m args below meth c s₁ B hml hv
  obtain ⟨rfl, hsz, hP, hK, hD0⟩ := hv
  have hx := B.exec
  have hb := B.bytes
  have hr := B.returns
  have hts := fun w h => atoms_spec (ws := w_Rd_takePlace) B.pre w (List.mem_cons_of_mem _ h)
  have hown : s.vm.findClass "DemoTape$Reader" = some m.cls := findClass_of_methodNamed B.named
  have hlocks := B.notSynchronized
  subst hsz
  have hD := hD0.self (sz := s.heap.size)
  generalize hAe : va_A ([(d, .inr (3, [.ref r, .int (nI (rNx q)), .int (nI (rAn q)), .int (rFt q), .int (rPl q)])), (r, .inr (2, [.ref b, .int (nI L.length)])), (b, .inl (cB, cap, .inl f))] : va_W) s.heap.size = A at hD ⊢
  have hA : ∀ q : Nat, s.heap.size ≤ q → A q := fun q h => by rw [← hAe]; exact Or.inr h
  have hS : va_S A s.heap s.heap [] := va_S.rf
  have hP : va_P (dC, dI) classes [(d, .inr (3, [.ref r, .int (nI (rNx q)), .int (nI (rAn q)), .int (rFt q), .int (rPl q)])), (r, .inr (2, [.ref b, .int (nI L.length)])), (b, .inl (cB, cap, .inl f))] s.heap := hP
  have hL : L.length ≤ 8192 := Nat.le_trans hB.2.2.1 hB.2.2.2
  have hl := lv_entry ([.ref d]) (n := 4) (Nat.le_of_ble_eq_true rfl)
  rw [lg_entry_eq]
  generalize (lg_sl ([.ref d]) ++ List.replicate (4 - (lg_sl ([.ref d])).length) Slot.unset).toArray = ls at hl ⊢
  have hl : lv_has ls 4 [(0, .ref d)] := hl
  refine lv_aload_n hx hb d_Rd_takePlace_0 rfl (lv_at hl 0 rfl) ?_
  refine lv_sipush (v := 255) hx hb d_Rd_takePlace_1 (by decide) ?_
  refine kc_i (wr := []) (w2 := fun (_ : Unit) => [(d, .inr (3, [.ref r, .int (nI (rNx (tTake L 255 q).2)), .int (nI (rAn (tTake L 255 q).2)), .int (rFt (tTake L 255 q).2), .int (rPl (tTake L 255 q).2)])), (r, .inr (2, [.ref b, .int (nI L.length)])), (b, .inl (cB, cap, .inl f))]) (va_runV (As := [.int 255]) (rest := []) ⟨hx, hb, hml, hown, hts⟩ (c_Rd_take l dC dI cI cB cZ _ d r q b cap f L 255 (by first | with_reducible assumption | omega | decide) (by first | with_reducible assumption | omega | decide)) (cwV 1 hts (gV mw292 mw294 mw4 mw29 mw295) rfl rfl rfl (by decide +kernel) ⟨Nat.le_of_ble_eq_true rfl, Nat.le_of_ble_eq_true rfl⟩) (kpV (wc := [(d, .inr (3, [.ref r, .int (nI (rNx q)), .int (nI (rAn q)), .int (rFt q), .int (rPl q)])), (r, .inr (2, [.ref b, .int (nI L.length)])), (b, .inl (cB, cap, .inl f))]) (q0 := 0) (ci := 3) hK hP hD [0, 1, 2] rfl (by decide) rfl rfl rfl) rfl rfl hl.1 rfl (lv_room (Nat.le_of_ble_eq_true rfl)) d_Rd_takePlace_4 ⟨Nat.le_of_ble_eq_true rfl, Nat.le_of_ble_eq_true rfl⟩) hP hD hS hA [0, 1, 2] [] [0, 1, 2] rfl rfl (by decide) (by decide) (fun _ => rfl) (by decide) (fun _ => rfl) (fun r_4 u9 H locs hw hP hD hS => ?_)
  have hP : va_P (dC, dI) classes [(d, .inr (3, [.ref r, .int (nI (rNx (tTake L 255 q).2)), .int (nI (rAn (tTake L 255 q).2)), .int (rFt (tTake L 255 q).2), .int (rPl (tTake L 255 q).2)])), (r, .inr (2, [.ref b, .int (nI L.length)])), (b, .inl (cB, cap, .inl f))] H := hP
  have hD : va_D A [(d, .inr (3, [.ref r, .int (nI (rNx (tTake L 255 q).2)), .int (nI (rAn (tTake L 255 q).2)), .int (rFt (tTake L 255 q).2), .int (rPl (tTake L 255 q).2)])), (r, .inr (2, [.ref b, .int (nI L.length)])), (b, .inl (cB, cap, .inl f))] := hD
  have e_4 := hw
  refine kt_i e_4 ?_
  refine lv_istore_n (lv' := [(1, .int (tTake L 255 q).1), (0, .ref d)]) hx hb d_Rd_takePlace_7 rfl hl (by decide) rfl (fun ls hl => ?_)
  refine lv_aload_n hx hb d_Rd_takePlace_8 rfl (lv_at hl 1 rfl) ?_
  refine lv_sipush (v := 255) hx hb d_Rd_takePlace_9 (by decide) ?_
  refine kc_i (wr := []) (w2 := fun (_ : Unit) => [(d, .inr (3, [.ref r, .int (nI (rNx (tTake L 255 (tTake L 255 q).2).2)), .int (nI (rAn (tTake L 255 (tTake L 255 q).2).2)), .int (rFt (tTake L 255 (tTake L 255 q).2).2), .int (rPl (tTake L 255 (tTake L 255 q).2).2)])), (r, .inr (2, [.ref b, .int (nI L.length)])), (b, .inl (cB, cap, .inl f))]) (va_runV (As := [.int 255]) (rest := []) ⟨hx, hb, hml, hown, hts⟩ (c_Rd_take l dC dI cI cB cZ _ d r (tTake L 255 q).2 b cap f L 255 (by first | with_reducible assumption | omega | decide) (tTake_nx _ hq hL)) (cwV 1 hts (gV mw292 mw294 mw4 mw29 mw295) rfl rfl rfl (by decide +kernel) ⟨Nat.le_of_ble_eq_true rfl, Nat.le_of_ble_eq_true rfl⟩) (kpV (wc := [(d, .inr (3, [.ref r, .int (nI (rNx (tTake L 255 q).2)), .int (nI (rAn (tTake L 255 q).2)), .int (rFt (tTake L 255 q).2), .int (rPl (tTake L 255 q).2)])), (r, .inr (2, [.ref b, .int (nI L.length)])), (b, .inl (cB, cap, .inl f))]) (q0 := 0) (ci := 3) hK hP hD [0, 1, 2] rfl (by decide) rfl rfl rfl) rfl rfl hl.1 rfl (lv_room (Nat.le_of_ble_eq_true rfl)) d_Rd_takePlace_12 ⟨Nat.le_of_ble_eq_true rfl, Nat.le_of_ble_eq_true rfl⟩) hP hD hS hA [0, 1, 2] [] [0, 1, 2] rfl rfl (by decide) (by decide) (fun _ => rfl) (by decide) (fun _ => rfl) (fun r_12 u9 H locs hw hP hD hS => ?_)
  have hP : va_P (dC, dI) classes [(d, .inr (3, [.ref r, .int (nI (rNx (tTake L 255 (tTake L 255 q).2).2)), .int (nI (rAn (tTake L 255 (tTake L 255 q).2).2)), .int (rFt (tTake L 255 (tTake L 255 q).2).2), .int (rPl (tTake L 255 (tTake L 255 q).2).2)])), (r, .inr (2, [.ref b, .int (nI L.length)])), (b, .inl (cB, cap, .inl f))] H := hP
  have hD : va_D A [(d, .inr (3, [.ref r, .int (nI (rNx (tTake L 255 (tTake L 255 q).2).2)), .int (nI (rAn (tTake L 255 (tTake L 255 q).2).2)), .int (rFt (tTake L 255 (tTake L 255 q).2).2), .int (rPl (tTake L 255 (tTake L 255 q).2).2)])), (r, .inr (2, [.ref b, .int (nI L.length)])), (b, .inl (cB, cap, .inl f))] := hD
  have e_12 := hw
  refine kt_i e_12 ?_
  refine lv_istore_n (lv' := [(2, .int (tTake L 255 (tTake L 255 q).2).1), (1, .int (tTake L 255 q).1), (0, .ref d)]) hx hb d_Rd_takePlace_15 rfl hl (by decide) rfl (fun ls hl => ?_)
  refine lv_iload_n hx hb d_Rd_takePlace_16 rfl (lv_at hl 1 rfl) ?_
  refine lv_sipush (v := 256) hx hb d_Rd_takePlace_17 (by decide) ?_
  refine lv_imul hx hb d_Rd_takePlace_20 ?_
  refine lv_iload_n hx hb d_Rd_takePlace_21 rfl (lv_at hl 0 rfl) ?_
  refine lv_iadd hx hb d_Rd_takePlace_22 ?_
  refine lv_istore_n (lv' := [(3, .int (((tTake L 255 q).1 * 256) + (tTake L 255 (tTake L 255 q).2).1)), (2, .int (tTake L 255 (tTake L 255 q).2).1), (1, .int (tTake L 255 q).1), (0, .ref d)]) hx hb d_Rd_takePlace_23 rfl hl (by decide) rfl (fun ls hl => ?_)
  refine lv_iload_n hx hb d_Rd_takePlace_24 rfl (lv_at hl 0 rfl) ?_
  refine lv_sipush (v := 32767) hx hb d_Rd_takePlace_25 (by decide) ?_
  refine lv_icmp_le (tgt := 38) hx hb d_Rd_takePlace_28 (by decide) (fun c_28 => ?_) (fun c_28 => ?_)
  · refine lv_iload_n hx hb d_Rd_takePlace_38 rfl (lv_at hl 0 rfl) ?_
    exact kr_i (v := ((tTake L 255 q).1 * 256) + (tTake L 255 (tTake L 255 q).2).1) () hx hb hr rfl hK (hP.sub [0, 1, 2] (rfl)) (hD.sub [0, 1, 2] (by decide) (rfl)) hS (by show _ = kPlace _ _; unfold kPlace; rw [if_pos c_28]) d_Rd_takePlace_39 hlocks
  · refine lv_iload_n hx hb d_Rd_takePlace_31 rfl (lv_at hl 0 rfl) ?_
    refine lv_ldc (v := 65536) hx hb hown (hts _ mw309) d_Rd_takePlace_32 ?_
    refine lv_isub hx hb d_Rd_takePlace_34 ?_
    refine lv_goto (tgt := 39) hx hb d_Rd_takePlace_35 (by decide) ?_
    exact kr_i (v := (((tTake L 255 q).1 * 256) + (tTake L 255 (tTake L 255 q).2).1) - 65536) () hx hb hr rfl hK (hP.sub [0, 1, 2] (rfl)) (hD.sub [0, 1, 2] (by decide) (rfl)) hS (by show _ = kPlace _ _; unfold kPlace; rw [if_neg c_28]) d_Rd_takePlace_39 hlocks
abbrev Qc_Rd_takeCode (dC : Nat → ClassId) (dI : Nat → Nat → Nat) (cI cB cZ : ClassId) (d : Nat) (r : Nat) (q : RS) (b : Nat) (cap : Nat) (f : Nat → Int32) (L : List Nat) (fi : Int32) (A : Nat → Prop) := va_Qi (fun (r9 : Int32) (_ : Unit) => (r9 = (tCode L fi q).1)) (ka (dC, dI) classes [(cI, .int), (cB, .byte), (cZ, .boolean)] (fun (_ : Unit) => [(d, .inr (3, [.ref r, .int (nI (rNx (tCode L fi q).2)), .int (nI (rAn (tCode L fi q).2)), .int (rFt (tCode L fi q).2), .int (rPl (tCode L fi q).2)])), (r, .inr (2, [.ref b, .int (nI L.length)])), (b, .inl (cB, cap, .inl f))]) A) A
set_option maxHeartbeats 1000000 in
set_option maxRecDepth 100000 in
/-- Reader.takeCode -/
theorem c_Rd_takeCode (l : Launch) (dC : Nat → ClassId) (dI : Nat → Nat → Nat) (cI cB cZ : ClassId) (sz : Nat) (d : Nat) (r : Nat) (q : RS) (b : Nat) (cap : Nat) (f : Nat → Int32) (L : List Nat) (fi : Int32) (hB : BRow cap f L) (hq : rNx q ≤ L.length) : Met l y_Rd_takeCode w_Rd_takeCode ({ frames := 2, cells := 0, slots := 0, locals := 44 }) (va_Pc [.ref d, .int fi] (kp (dC, dI) classes [(cI, .int), (cB, .byte), (cZ, .boolean)] [(d, .inr (3, [.ref r, .int (nI (rNx q)), .int (nI (rAn q)), .int (rFt q), .int (rPl q)])), (r, .inr (2, [.ref b, .int (nI L.length)])), (b, .inl (cB, cap, .inl f))] sz)) (Qc_Rd_takeCode dC dI cI cB cZ d r q b cap f L fi (va_A [(d, .inr (3, [.ref r, .int (nI (rNx q)), .int (nI (rAn q)), .int (rFt q), .int (rPl q)])), (r, .inr (2, [.ref b, .int (nI L.length)])), (b, .inl (cB, cap, .inl f))] sz)) 0 0 (va_A [(d, .inr (3, [.ref r, .int (nI (rNx q)), .int (nI (rAn q)), .int (rFt q), .int (rPl q)])), (r, .inr (2, [.ref b, .int (nI L.length)])), (b, .inl (cB, cap, .inl f))] sz) := by
  refine Met.ofW (cc := prog_4_method_13_code) (maxL := 7) (ret := (some .int)) (by decide) rfl ?_
  intro p e s m args below meth c s₁ B hml hv
  obtain ⟨rfl, hsz, hP, hK, hD0⟩ := hv
  have hx := B.exec
  have hb := B.bytes
  have hr := B.returns
  have hts := fun w h => atoms_spec (ws := w_Rd_takeCode) B.pre w (List.mem_cons_of_mem _ h)
  have hown : s.vm.findClass "DemoTape$Reader" = some m.cls := findClass_of_methodNamed B.named
  have hlocks := B.notSynchronized
  subst hsz
  have hD := hD0.self (sz := s.heap.size)
  generalize hAe : va_A ([(d, .inr (3, [.ref r, .int (nI (rNx q)), .int (nI (rAn q)), .int (rFt q), .int (rPl q)])), (r, .inr (2, [.ref b, .int (nI L.length)])), (b, .inl (cB, cap, .inl f))] : va_W) s.heap.size = A at hD ⊢
  have hA : ∀ q : Nat, s.heap.size ≤ q → A q := fun q h => by rw [← hAe]; exact Or.inr h
  have hS : va_S A s.heap s.heap [] := va_S.rf
  have hP : va_P (dC, dI) classes [(d, .inr (3, [.ref r, .int (nI (rNx q)), .int (nI (rAn q)), .int (rFt q), .int (rPl q)])), (r, .inr (2, [.ref b, .int (nI L.length)])), (b, .inl (cB, cap, .inl f))] s.heap := hP
  have hL : L.length ≤ 8192 := Nat.le_trans hB.2.2.1 hB.2.2.2
  have hl := lv_entry ([.ref d, .int fi]) (n := 7) (Nat.le_of_ble_eq_true rfl)
  rw [lg_entry_eq]
  generalize (lg_sl ([.ref d, .int fi]) ++ List.replicate (7 - (lg_sl ([.ref d, .int fi])).length) Slot.unset).toArray = ls at hl ⊢
  have hl : lv_has ls 7 [(0, .ref d), (1, .int fi)] := hl
  have J_83 : ∀ (u2 : Int32) (q9 : RS), (u2 = (if fi &&& 64 = 0 then 0 else 1)) → (¬ fi &&& 128 = 0) → (q9 = (tCode L fi q).2) → ∀ (H : Heap) (locs : List Loc), va_P (dC, dI) classes [(d, .inr (3, [.ref r, .int (nI (rNx q9)), .int (nI (rAn q9)), .int (rFt q9), .int (rPl q9)])), (r, .inr (2, [.ref b, .int (nI L.length)])), (b, .inl (cB, cap, .inl f))] H → va_D A [(d, .inr (3, [.ref r, .int (nI (rNx q9)), .int (nI (rAn q9)), .int (rFt q9), .int (rPl q9)])), (r, .inr (2, [.ref b, .int (nI L.length)])), (b, .inl (cB, cap, .inl f))] → va_S A s.heap H locs → ∀ (ls : Array Slot), lv_has ls 7 [(0, .ref d), (1, .int fi), (2, .int u2), (3, .int (tTake L 128 q).1), (4, .int (tTake L 128 (tTake L 128 q).2).1), (6, .int (tTake L 32 (tTake L 128 (tTake L 128 q).2).2).1)] → W p l e (headSpec w_Rd_takeCode ({ frames := 2, cells := 0, slots := 0, locals := 44 })).room s m [.ref d, .int fi].toArray below meth c H locs 0 0 (MQ below (Qc_Rd_takeCode dC dI cI cB cZ d r q b cap f L fi A) [.ref d, .int fi].toArray s 0 0 A) (F0 m 83 ls []) := by
    intro u2 q9 hu h8 hq9 H locs hP hD hS ls hl
    refine lv_iload_n hx hb d_Rd_takeCode_83 rfl (lv_at hl 2 rfl) ?_
    refine lv_iload_n hx hb d_Rd_takeCode_84 rfl (lv_at hl 3 rfl) ?_
    refine lv_iload hx hb d_Rd_takeCode_85 (lv_at hl 4 rfl) ?_
    refine lv_iload hx hb d_Rd_takeCode_87 (lv_at hl 5 rfl) ?_
    refine kq_i (wr := [(d, .inr (3, [.ref r, .int (nI (rNx q9)), .int (nI (rAn q9)), .int (rFt q9), .int (rPl q9)])), (r, .inr (2, [.ref b, .int (nI L.length)])), (b, .inl (cB, cap, .inl f))]) (va_runS (As := [.int u2, .int (tTake L 128 q).1, .int (tTake L 128 (tTake L 128 q).2).1, .int (tTake L 32 (tTake L 128 (tTake L 128 q).2).2).1]) (rest := []) ⟨hx, hb, hml, hown, hts⟩ (c_Code_of l dC dI cI cB cZ _ u2 (tTake L 128 q).1 (tTake L 128 (tTake L 128 q).2).1 (tTake L 32 (tTake L 128 (tTake L 128 q).2).2).1 ) (va_cwS 4 hts (gS mw324 mw142 mw31 mw143) rfl rfl rfl (by decide +kernel) ⟨Nat.le_of_ble_eq_true rfl, Nat.le_of_ble_eq_true rfl⟩) (kpS (wc := []) hK hP hD [] rfl (by decide) rfl) rfl rfl hl.1 rfl (lv_room (Nat.le_of_ble_eq_true rfl)) d_Rd_takeCode_89 ⟨Nat.le_of_ble_eq_true rfl, Nat.le_of_ble_eq_true rfl⟩) hP hD hS hA [] [0, 1, 2] [0, 1, 2] rfl rfl (by decide) (by decide) rfl (fun r_89 H locs hw hP hS => ?_)
    have e_89 := hw
    refine kt_i e_89 ?_
    subst hq9
    exact kr_i (v := kCode u2 (tTake L 128 q).1 (tTake L 128 (tTake L 128 q).2).1 (tTake L 32 (tTake L 128 (tTake L 128 q).2).2).1) () hx hb hr rfl hK (hP.sub [0, 1, 2] (rfl)) (hD.sub [0, 1, 2] (by decide) (rfl)) hS (by rw [hu, tCode_v h8]) d_Rd_takeCode_92 hlocks
  have J_12 : ∀ (u2 : Int32), (u2 = (if fi &&& 64 = 0 then 0 else 1)) → ∀ (H : Heap) (locs : List Loc), va_P (dC, dI) classes [(d, .inr (3, [.ref r, .int (nI (rNx q)), .int (nI (rAn q)), .int (rFt q), .int (rPl q)])), (r, .inr (2, [.ref b, .int (nI L.length)])), (b, .inl (cB, cap, .inl f))] H → va_D A [(d, .inr (3, [.ref r, .int (nI (rNx q)), .int (nI (rAn q)), .int (rFt q), .int (rPl q)])), (r, .inr (2, [.ref b, .int (nI L.length)])), (b, .inl (cB, cap, .inl f))] → va_S A s.heap H locs → ∀ (ls : Array Slot), lv_has ls 7 [(0, .ref d), (1, .int fi)] → W p l e (headSpec w_Rd_takeCode ({ frames := 2, cells := 0, slots := 0, locals := 44 })).room s m [.ref d, .int fi].toArray below meth c H locs 0 0 (MQ below (Qc_Rd_takeCode dC dI cI cB cZ d r q b cap f L fi A) [.ref d, .int fi].toArray s 0 0 A) (F0 m 12 ls [.int u2]) := by
    intro u2 hu H locs hP hD hS ls hl
    refine lv_istore_n (lv' := [(2, .int u2), (0, .ref d), (1, .int fi)]) hx hb d_Rd_takeCode_12 rfl hl (by decide) rfl (fun ls hl => ?_)
    refine lv_aload_n hx hb d_Rd_takeCode_13 rfl (lv_at hl 1 rfl) ?_
    refine lv_sipush (v := 128) hx hb d_Rd_takeCode_14 (by decide) ?_
    refine kc_i (wr := []) (w2 := fun (_ : Unit) => [(d, .inr (3, [.ref r, .int (nI (rNx (tTake L 128 q).2)), .int (nI (rAn (tTake L 128 q).2)), .int (rFt (tTake L 128 q).2), .int (rPl (tTake L 128 q).2)])), (r, .inr (2, [.ref b, .int (nI L.length)])), (b, .inl (cB, cap, .inl f))]) (va_runV (As := [.int 128]) (rest := []) ⟨hx, hb, hml, hown, hts⟩ (c_Rd_take l dC dI cI cB cZ _ d r q b cap f L 128 (by first | with_reducible assumption | omega | decide) (by first | with_reducible assumption | omega | decide)) (cwV 1 hts (gV mw292 mw294 mw4 mw29 mw295) rfl rfl rfl (by decide +kernel) ⟨Nat.le_of_ble_eq_true rfl, Nat.le_of_ble_eq_true rfl⟩) (kpV (wc := [(d, .inr (3, [.ref r, .int (nI (rNx q)), .int (nI (rAn q)), .int (rFt q), .int (rPl q)])), (r, .inr (2, [.ref b, .int (nI L.length)])), (b, .inl (cB, cap, .inl f))]) (q0 := 0) (ci := 3) hK hP hD [0, 1, 2] rfl (by decide) rfl rfl rfl) rfl rfl hl.1 rfl (lv_room (Nat.le_of_ble_eq_true rfl)) d_Rd_takeCode_17 ⟨Nat.le_of_ble_eq_true rfl, Nat.le_of_ble_eq_true rfl⟩) hP hD hS hA [0, 1, 2] [] [0, 1, 2] rfl rfl (by decide) (by decide) (fun _ => rfl) (by decide) (fun _ => rfl) (fun r_17 u9 H locs hw hP hD hS => ?_)
    have hP : va_P (dC, dI) classes [(d, .inr (3, [.ref r, .int (nI (rNx (tTake L 128 q).2)), .int (nI (rAn (tTake L 128 q).2)), .int (rFt (tTake L 128 q).2), .int (rPl (tTake L 128 q).2)])), (r, .inr (2, [.ref b, .int (nI L.length)])), (b, .inl (cB, cap, .inl f))] H := hP
    have hD : va_D A [(d, .inr (3, [.ref r, .int (nI (rNx (tTake L 128 q).2)), .int (nI (rAn (tTake L 128 q).2)), .int (rFt (tTake L 128 q).2), .int (rPl (tTake L 128 q).2)])), (r, .inr (2, [.ref b, .int (nI L.length)])), (b, .inl (cB, cap, .inl f))] := hD
    have e_17 := hw
    refine kt_i e_17 ?_
    refine lv_istore_n (lv' := [(3, .int (tTake L 128 q).1), (2, .int u2), (0, .ref d), (1, .int fi)]) hx hb d_Rd_takeCode_20 rfl hl (by decide) rfl (fun ls hl => ?_)
    refine lv_iload_n hx hb d_Rd_takeCode_21 rfl (lv_at hl 3 rfl) ?_
    refine lv_sipush (v := 128) hx hb d_Rd_takeCode_22 (by decide) ?_
    refine lv_iand hx hb d_Rd_takeCode_25 ?_
    refine lv_if_ne (tgt := 39) hx hb d_Rd_takeCode_26 (by decide) (fun c_26 => ?_) (fun c_26 => ?_)
    · refine lv_aload_n hx hb d_Rd_takeCode_39 rfl (lv_at hl 2 rfl) ?_
      refine lv_sipush (v := 128) hx hb d_Rd_takeCode_40 (by decide) ?_
      refine kc_i (wr := []) (w2 := fun (_ : Unit) => [(d, .inr (3, [.ref r, .int (nI (rNx (tTake L 128 (tTake L 128 q).2).2)), .int (nI (rAn (tTake L 128 (tTake L 128 q).2).2)), .int (rFt (tTake L 128 (tTake L 128 q).2).2), .int (rPl (tTake L 128 (tTake L 128 q).2).2)])), (r, .inr (2, [.ref b, .int (nI L.length)])), (b, .inl (cB, cap, .inl f))]) (va_runV (As := [.int 128]) (rest := []) ⟨hx, hb, hml, hown, hts⟩ (c_Rd_take l dC dI cI cB cZ _ d r (tTake L 128 q).2 b cap f L 128 (by first | with_reducible assumption | omega | decide) (tTake_nx _ hq hL)) (cwV 1 hts (gV mw292 mw294 mw4 mw29 mw295) rfl rfl rfl (by decide +kernel) ⟨Nat.le_of_ble_eq_true rfl, Nat.le_of_ble_eq_true rfl⟩) (kpV (wc := [(d, .inr (3, [.ref r, .int (nI (rNx (tTake L 128 q).2)), .int (nI (rAn (tTake L 128 q).2)), .int (rFt (tTake L 128 q).2), .int (rPl (tTake L 128 q).2)])), (r, .inr (2, [.ref b, .int (nI L.length)])), (b, .inl (cB, cap, .inl f))]) (q0 := 0) (ci := 3) hK hP hD [0, 1, 2] rfl (by decide) rfl rfl rfl) rfl rfl hl.1 rfl (lv_room (Nat.le_of_ble_eq_true rfl)) d_Rd_takeCode_43 ⟨Nat.le_of_ble_eq_true rfl, Nat.le_of_ble_eq_true rfl⟩) hP hD hS hA [0, 1, 2] [] [0, 1, 2] rfl rfl (by decide) (by decide) (fun _ => rfl) (by decide) (fun _ => rfl) (fun r_43 u9 H locs hw hP hD hS => ?_)
      have hP : va_P (dC, dI) classes [(d, .inr (3, [.ref r, .int (nI (rNx (tTake L 128 (tTake L 128 q).2).2)), .int (nI (rAn (tTake L 128 (tTake L 128 q).2).2)), .int (rFt (tTake L 128 (tTake L 128 q).2).2), .int (rPl (tTake L 128 (tTake L 128 q).2).2)])), (r, .inr (2, [.ref b, .int (nI L.length)])), (b, .inl (cB, cap, .inl f))] H := hP
      have hD : va_D A [(d, .inr (3, [.ref r, .int (nI (rNx (tTake L 128 (tTake L 128 q).2).2)), .int (nI (rAn (tTake L 128 (tTake L 128 q).2).2)), .int (rFt (tTake L 128 (tTake L 128 q).2).2), .int (rPl (tTake L 128 (tTake L 128 q).2).2)])), (r, .inr (2, [.ref b, .int (nI L.length)])), (b, .inl (cB, cap, .inl f))] := hD
      have e_43 := hw
      refine kt_i e_43 ?_
      refine lv_istore (lv' := [(4, .int (tTake L 128 (tTake L 128 q).2).1), (3, .int (tTake L 128 q).1), (2, .int u2), (0, .ref d), (1, .int fi)]) hx hb d_Rd_takeCode_46 hl (by decide) rfl (fun ls hl => ?_)
      refine lv_aload_n hx hb d_Rd_takeCode_48 rfl (lv_at hl 3 rfl) ?_
      refine va_get (D := (dC, dI)) (ci := 3) (v := .int (nI (rNx (tTake L 128 (tTake L 128 q).2).2))) (C := "DemoTape$Reader") (T := F_Rd) (N := 5) hx hb hts i_Rd hown hK hP 0 rfl rfl 1 (by decide) (hts _ mw91) (fun _ h9 => h9) rfl d_Rd_takeCode_49 ?_
      refine lv_istore (lv' := [(5, .int (nI (rNx (tTake L 128 (tTake L 128 q).2).2))), (4, .int (tTake L 128 (tTake L 128 q).2).1), (3, .int (tTake L 128 q).1), (2, .int u2), (0, .ref d), (1, .int fi)]) hx hb d_Rd_takeCode_52 hl (by decide) rfl (fun ls hl => ?_)
      refine lv_aload_n hx hb d_Rd_takeCode_54 rfl (lv_at hl 4 rfl) ?_
      refine lv_bipush (v := 32) hx hb d_Rd_takeCode_55 (by decide) ?_
      refine kc_i (wr := []) (w2 := fun (_ : Unit) => [(d, .inr (3, [.ref r, .int (nI (rNx (tTake L 32 (tTake L 128 (tTake L 128 q).2).2).2)), .int (nI (rAn (tTake L 32 (tTake L 128 (tTake L 128 q).2).2).2)), .int (rFt (tTake L 32 (tTake L 128 (tTake L 128 q).2).2).2), .int (rPl (tTake L 32 (tTake L 128 (tTake L 128 q).2).2).2)])), (r, .inr (2, [.ref b, .int (nI L.length)])), (b, .inl (cB, cap, .inl f))]) (va_runV (As := [.int 32]) (rest := []) ⟨hx, hb, hml, hown, hts⟩ (c_Rd_take l dC dI cI cB cZ _ d r (tTake L 128 (tTake L 128 q).2).2 b cap f L 32 (by first | with_reducible assumption | omega | decide) (tTake_nx _ (tTake_nx _ hq hL) hL)) (cwV 1 hts (gV mw292 mw294 mw4 mw29 mw295) rfl rfl rfl (by decide +kernel) ⟨Nat.le_of_ble_eq_true rfl, Nat.le_of_ble_eq_true rfl⟩) (kpV (wc := [(d, .inr (3, [.ref r, .int (nI (rNx (tTake L 128 (tTake L 128 q).2).2)), .int (nI (rAn (tTake L 128 (tTake L 128 q).2).2)), .int (rFt (tTake L 128 (tTake L 128 q).2).2), .int (rPl (tTake L 128 (tTake L 128 q).2).2)])), (r, .inr (2, [.ref b, .int (nI L.length)])), (b, .inl (cB, cap, .inl f))]) (q0 := 0) (ci := 3) hK hP hD [0, 1, 2] rfl (by decide) rfl rfl rfl) rfl rfl hl.1 rfl (lv_room (Nat.le_of_ble_eq_true rfl)) d_Rd_takeCode_57 ⟨Nat.le_of_ble_eq_true rfl, Nat.le_of_ble_eq_true rfl⟩) hP hD hS hA [0, 1, 2] [] [0, 1, 2] rfl rfl (by decide) (by decide) (fun _ => rfl) (by decide) (fun _ => rfl) (fun r_57 u9 H locs hw hP hD hS => ?_)
      have hP : va_P (dC, dI) classes [(d, .inr (3, [.ref r, .int (nI (rNx (tTake L 32 (tTake L 128 (tTake L 128 q).2).2).2)), .int (nI (rAn (tTake L 32 (tTake L 128 (tTake L 128 q).2).2).2)), .int (rFt (tTake L 32 (tTake L 128 (tTake L 128 q).2).2).2), .int (rPl (tTake L 32 (tTake L 128 (tTake L 128 q).2).2).2)])), (r, .inr (2, [.ref b, .int (nI L.length)])), (b, .inl (cB, cap, .inl f))] H := hP
      have hD : va_D A [(d, .inr (3, [.ref r, .int (nI (rNx (tTake L 32 (tTake L 128 (tTake L 128 q).2).2).2)), .int (nI (rAn (tTake L 32 (tTake L 128 (tTake L 128 q).2).2).2)), .int (rFt (tTake L 32 (tTake L 128 (tTake L 128 q).2).2).2), .int (rPl (tTake L 32 (tTake L 128 (tTake L 128 q).2).2).2)])), (r, .inr (2, [.ref b, .int (nI L.length)])), (b, .inl (cB, cap, .inl f))] := hD
      have e_57 := hw
      refine kt_i e_57 ?_
      refine lv_istore (lv' := [(6, .int (tTake L 32 (tTake L 128 (tTake L 128 q).2).2).1), (5, .int (nI (rNx (tTake L 128 (tTake L 128 q).2).2))), (4, .int (tTake L 128 (tTake L 128 q).2).1), (3, .int (tTake L 128 q).1), (2, .int u2), (0, .ref d), (1, .int fi)]) hx hb d_Rd_takeCode_60 hl (by decide) rfl (fun ls hl => ?_)
      refine lv_iload hx hb d_Rd_takeCode_62 (lv_at hl 2 rfl) ?_
      refine lv_bipush (v := 64) hx hb d_Rd_takeCode_64 (by decide) ?_
      refine lv_icmp_ne (tgt := 83) hx hb d_Rd_takeCode_66 (by decide) (fun c_66 => ?_) (fun c_66 => ?_)
      · exact J_83 u2 (tTake L 32 (tTake L 128 (tTake L 128 q).2).2).2 (by first | with_reducible assumption | omega) (c_26) ((tCode_g c_26 (fun z => c_66 z.1)).symm) _ _ (hP.sub [0, 1, 2] (rfl)) (hD.sub [0, 1, 2] (by decide) (rfl)) hS ls (lv_sub hl [5, 6, 4, 3, 2, 0] rfl)
      · refine lv_iload hx hb d_Rd_takeCode_69 (lv_at hl 0 rfl) ?_
        refine lv_bipush (v := 16) hx hb d_Rd_takeCode_71 (by decide) ?_
        refine lv_icmp_ne (tgt := 83) hx hb d_Rd_takeCode_73 (by decide) (fun c_73 => ?_) (fun c_73 => ?_)
        · exact J_83 u2 (tTake L 32 (tTake L 128 (tTake L 128 q).2).2).2 (by first | with_reducible assumption | omega) (c_26) ((tCode_g c_26 (fun z => c_73 z.2)).symm) _ _ (hP.sub [0, 1, 2] (rfl)) (hD.sub [0, 1, 2] (by decide) (rfl)) hS ls (lv_sub hl [5, 6, 4, 3, 2, 0] rfl)
        · refine lv_aload_n hx hb d_Rd_takeCode_76 rfl (lv_at hl 5 rfl) ?_
          refine lv_iconst (v := 3) hx hb d_Rd_takeCode_77 (by decide) ?_
          refine lv_iload hx hb d_Rd_takeCode_78 (lv_at hl 1 rfl) ?_
          refine kc_v (wr := [(r, .inr (2, [.ref b, .int (nI L.length)])), (b, .inl (cB, cap, .inl f))]) (w2 := fun (_ : Unit) => [(d, .inr (3, [.ref r, .int (nI (rNx (rFail 3 (nI (rNx (tTake L 128 (tTake L 128 q).2).2)) (tTake L 32 (tTake L 128 (tTake L 128 q).2).2).2))), .int (nI (rAn (rFail 3 (nI (rNx (tTake L 128 (tTake L 128 q).2).2)) (tTake L 32 (tTake L 128 (tTake L 128 q).2).2).2))), .int (rFt (rFail 3 (nI (rNx (tTake L 128 (tTake L 128 q).2).2)) (tTake L 32 (tTake L 128 (tTake L 128 q).2).2).2)), .int (rPl (rFail 3 (nI (rNx (tTake L 128 (tTake L 128 q).2).2)) (tTake L 32 (tTake L 128 (tTake L 128 q).2).2).2))])), (r, .inr (2, [.ref b, .int (nI L.length)])), (b, .inl (cB, cap, .inl f))]) (va_runV (As := [.int 3, .int (nI (rNx (tTake L 128 (tTake L 128 q).2).2))]) (rest := []) ⟨hx, hb, hml, hown, hts⟩ (c_Rd_fail l dC dI cI cB cZ _ d r (tTake L 32 (tTake L 128 (tTake L 128 q).2).2).2 3 (nI (rNx (tTake L 128 (tTake L 128 q).2).2)) ) (cwV 2 hts (gV mw297 mw299 mw5 mw29 mw300) rfl rfl rfl (by decide +kernel) ⟨Nat.le_of_ble_eq_true rfl, Nat.le_of_ble_eq_true rfl⟩) (kpV (wc := [(d, .inr (3, [.ref r, .int (nI (rNx (tTake L 32 (tTake L 128 (tTake L 128 q).2).2).2)), .int (nI (rAn (tTake L 32 (tTake L 128 (tTake L 128 q).2).2).2)), .int (rFt (tTake L 32 (tTake L 128 (tTake L 128 q).2).2).2), .int (rPl (tTake L 32 (tTake L 128 (tTake L 128 q).2).2).2)]))]) (q0 := 0) (ci := 3) hK hP hD [0] rfl (by decide) rfl rfl rfl) rfl rfl hl.1 rfl (lv_room (Nat.le_of_ble_eq_true rfl)) d_Rd_takeCode_80 ⟨Nat.le_of_ble_eq_true rfl, Nat.le_of_ble_eq_true rfl⟩) hP hD hS hA [0] [1, 2] [2, 0, 1] rfl rfl (by decide) (by decide) (fun _ => rfl) (by decide) (fun _ => rfl) (fun u9 H locs hw hP hD hS => ?_)
          have hP : va_P (dC, dI) classes [(d, .inr (3, [.ref r, .int (nI (rNx (rFail 3 (nI (rNx (tTake L 128 (tTake L 128 q).2).2)) (tTake L 32 (tTake L 128 (tTake L 128 q).2).2).2))), .int (nI (rAn (rFail 3 (nI (rNx (tTake L 128 (tTake L 128 q).2).2)) (tTake L 32 (tTake L 128 (tTake L 128 q).2).2).2))), .int (rFt (rFail 3 (nI (rNx (tTake L 128 (tTake L 128 q).2).2)) (tTake L 32 (tTake L 128 (tTake L 128 q).2).2).2)), .int (rPl (rFail 3 (nI (rNx (tTake L 128 (tTake L 128 q).2).2)) (tTake L 32 (tTake L 128 (tTake L 128 q).2).2).2))])), (r, .inr (2, [.ref b, .int (nI L.length)])), (b, .inl (cB, cap, .inl f))] H := hP
          have hD : va_D A [(d, .inr (3, [.ref r, .int (nI (rNx (rFail 3 (nI (rNx (tTake L 128 (tTake L 128 q).2).2)) (tTake L 32 (tTake L 128 (tTake L 128 q).2).2).2))), .int (nI (rAn (rFail 3 (nI (rNx (tTake L 128 (tTake L 128 q).2).2)) (tTake L 32 (tTake L 128 (tTake L 128 q).2).2).2))), .int (rFt (rFail 3 (nI (rNx (tTake L 128 (tTake L 128 q).2).2)) (tTake L 32 (tTake L 128 (tTake L 128 q).2).2).2)), .int (rPl (rFail 3 (nI (rNx (tTake L 128 (tTake L 128 q).2).2)) (tTake L 32 (tTake L 128 (tTake L 128 q).2).2).2))])), (r, .inr (2, [.ref b, .int (nI L.length)])), (b, .inl (cB, cap, .inl f))] := hD
          exact J_83 u2 (rFail 3 (nI (rNx (tTake L 128 (tTake L 128 q).2).2)) (tTake L 32 (tTake L 128 (tTake L 128 q).2).2).2) (by first | with_reducible assumption | omega) (c_26) ((tCode_f c_26 ⟨c_66, c_73⟩).symm) _ _ (hP.sub [0, 1, 2] (rfl)) (hD.sub [0, 1, 2] (by decide) (rfl)) hS ls (lv_sub hl [5, 6, 4, 3, 2, 0] rfl)
    · refine lv_iload_n hx hb d_Rd_takeCode_29 rfl (lv_at hl 1 rfl) ?_
      refine lv_iload_n hx hb d_Rd_takeCode_30 rfl (lv_at hl 0 rfl) ?_
      refine lv_bipush (v := 64) hx hb d_Rd_takeCode_31 (by decide) ?_
      refine lv_bipush (v := 16) hx hb d_Rd_takeCode_33 (by decide) ?_
      refine kq_i (wr := [(d, .inr (3, [.ref r, .int (nI (rNx (tTake L 128 q).2)), .int (nI (rAn (tTake L 128 q).2)), .int (rFt (tTake L 128 q).2), .int (rPl (tTake L 128 q).2)])), (r, .inr (2, [.ref b, .int (nI L.length)])), (b, .inl (cB, cap, .inl f))]) (va_runS (As := [.int u2, .int (tTake L 128 q).1, .int 64, .int 16]) (rest := []) ⟨hx, hb, hml, hown, hts⟩ (c_Code_of l dC dI cI cB cZ _ u2 (tTake L 128 q).1 64 16 ) (va_cwS 4 hts (gS mw324 mw142 mw31 mw143) rfl rfl rfl (by decide +kernel) ⟨Nat.le_of_ble_eq_true rfl, Nat.le_of_ble_eq_true rfl⟩) (kpS (wc := []) hK hP hD [] rfl (by decide) rfl) rfl rfl hl.1 rfl (lv_room (Nat.le_of_ble_eq_true rfl)) d_Rd_takeCode_35 ⟨Nat.le_of_ble_eq_true rfl, Nat.le_of_ble_eq_true rfl⟩) hP hD hS hA [] [0, 1, 2] [0, 1, 2] rfl rfl (by decide) (by decide) rfl (fun r_35 H locs hw hP hS => ?_)
      have e_35 := hw
      refine kt_i e_35 ?_
      exact kr_i (v := kCode u2 (tTake L 128 q).1 64 16) () hx hb hr rfl hK (hP.sub [0, 1, 2] (by rw [tCode_s c_26]; first | done | rfl)) (hD.sub [0, 1, 2] (by decide) (by rw [tCode_s c_26]; first | done | rfl)) hS (by rw [hu, tCode_s c_26]) d_Rd_takeCode_38 hlocks
  refine lv_iload_n hx hb d_Rd_takeCode_0 rfl (lv_at hl 1 rfl) ?_
  refine lv_bipush (v := 64) hx hb d_Rd_takeCode_1 (by decide) ?_
  refine lv_iand hx hb d_Rd_takeCode_3 ?_
  refine lv_if_eq (tgt := 11) hx hb d_Rd_takeCode_4 (by decide) (fun c_4 => ?_) (fun c_4 => ?_)
  · refine lv_iconst (v := 0) hx hb d_Rd_takeCode_11 (by decide) ?_
    exact J_12 0 ((if_pos c_4).symm) _ _ (hP.sub [0, 1, 2] (rfl)) (hD.sub [0, 1, 2] (by decide) (rfl)) hS ls (lv_sub hl [0, 1] rfl)
  · refine lv_iconst (v := 1) hx hb d_Rd_takeCode_7 (by decide) ?_
    refine lv_goto (tgt := 12) hx hb d_Rd_takeCode_8 (by decide) ?_
    exact J_12 1 ((if_neg c_4).symm) _ _ (hP.sub [0, 1, 2] (rfl)) (hD.sub [0, 1, 2] (by decide) (rfl)) hS ls (lv_sub hl [0, 1] rfl)
abbrev Qc_Rd_takeMark (dC : Nat → ClassId) (dI : Nat → Nat → Nat) (cI cB cZ : ClassId) (tM : Nat) (d : Nat) (r : Nat) (q : RS) (b : Nat) (cap : Nat) (f : Nat → Int32) (L : List Nat) (A : Nat → Prop) := va_Qv (fun (_ : Unit) => True) (ka (dC, dI) classes [(cI, .int), (cB, .byte), (cZ, .boolean)] (fun (_ : Unit) => [(d, .inr (3, [.ref r, .int (nI (rNx (tMark L q))), .int (nI (rAn (tMark L q))), .int (rFt (tMark L q)), .int (rPl (tMark L q))])), (r, .inr (2, [.ref b, .int (nI L.length)])), (b, .inl (cB, cap, .inl f))]) A) A
set_option maxHeartbeats 1000000 in
set_option maxRecDepth 100000 in
/-- Reader.takeMark -/
theorem c_Rd_takeMark (l : Launch) (dC : Nat → ClassId) (dI : Nat → Nat → Nat) (cI cB cZ : ClassId) (sz : Nat) (tM : Nat) (d : Nat) (r : Nat) (q : RS) (b : Nat) (cap : Nat) (f : Nat → Int32) (L : List Nat) (hB : BRow cap f L) (hq : rNx q ≤ L.length) : Met l y_Rd_takeMark w_Rd_takeMark ({ frames := 3, cells := 0, slots := 0, locals := 67 }) (va_Pc [.ref d] (kps (dC, dI) classes [(cI, .int), (cB, .byte), (cZ, .boolean)] [(d, .inr (3, [.ref r, .int (nI (rNx q)), .int (nI (rAn q)), .int (rFt q), .int (rPl q)])), (r, .inr (2, [.ref b, .int (nI L.length)])), (b, .inl (cB, cap, .inl f))] sz tM)) (Qc_Rd_takeMark dC dI cI cB cZ tM d r q b cap f L (va_A [(d, .inr (3, [.ref r, .int (nI (rNx q)), .int (nI (rAn q)), .int (rFt q), .int (rPl q)])), (r, .inr (2, [.ref b, .int (nI L.length)])), (b, .inl (cB, cap, .inl f))] sz)) 0 0 (va_A [(d, .inr (3, [.ref r, .int (nI (rNx q)), .int (nI (rAn q)), .int (rFt q), .int (rPl q)])), (r, .inr (2, [.ref b, .int (nI L.length)])), (b, .inl (cB, cap, .inl f))] sz) := by
  refine Met.ofW (cc := prog_4_method_8_code) (maxL := 2) (ret := none) (by decide) rfl ?_
  intro p e s m args below meth c s₁ B hml hv
  obtain ⟨rfl, ⟨hsz, hP, hK, hD0⟩, hMk⟩ := hv
  have hx := B.exec
  have hb := B.bytes
  have hr := B.returns
  have hts := fun w h => atoms_spec (ws := w_Rd_takeMark) B.pre w (List.mem_cons_of_mem _ h)
  have hown : s.vm.findClass "DemoTape$Reader" = some m.cls := findClass_of_methodNamed B.named
  have hlocks := B.notSynchronized
  subst hsz
  have hD := hD0.self (sz := s.heap.size)
  generalize hAe : va_A ([(d, .inr (3, [.ref r, .int (nI (rNx q)), .int (nI (rAn q)), .int (rFt q), .int (rPl q)])), (r, .inr (2, [.ref b, .int (nI L.length)])), (b, .inl (cB, cap, .inl f))] : va_W) s.heap.size = A at hD hMk ⊢
  have hA : ∀ q : Nat, s.heap.size ≤ q → A q := fun q h => by rw [← hAe]; exact Or.inr h
  have hS : va_S A s.heap s.heap [] := va_S.rf
  have hP : va_P (dC, dI) classes [(d, .inr (3, [.ref r, .int (nI (rNx q)), .int (nI (rAn q)), .int (rFt q), .int (rPl q)])), (r, .inr (2, [.ref b, .int (nI L.length)])), (b, .inl (cB, cap, .inl f))] s.heap := hP
  have hL : L.length ≤ 8192 := Nat.le_trans hB.2.2.1 hB.2.2.2
  have hl := lv_entry ([.ref d]) (n := 2) (Nat.le_of_ble_eq_true rfl)
  rw [lg_entry_eq]
  generalize (lg_sl ([.ref d]) ++ List.replicate (2 - (lg_sl ([.ref d])).length) Slot.unset).toArray = ls at hl ⊢
  have hl : lv_has ls 2 [(0, .ref d)] := hl
  refine lv_iconst (v := 0) hx hb d_Rd_takeMark_0 (by decide) ?_
  refine lv_istore_n (lv' := [(1, .int 0), (0, .ref d)]) hx hb d_Rd_takeMark_1 rfl hl (by decide) rfl (fun ls hl => ?_)
  refine lv_iload_n hx hb d_Rd_takeMark_2 rfl (lv_at hl 0 rfl) ?_
  refine va_getsN (C := "DemoTape") (n := "MARK") (d := "[I") (ref := "DemoTape") (host := "DemoTape") hx hb hMk.1 hS hown (hMk.2.2.2.1.use rfl) (fun _ h9 => h9) d_Rd_takeMark_3 ?_
  refine va_tlen (v := 3) hx hb hMk.2.1 hS rfl d_Rd_takeMark_6 ?_
  refine lv_icmp_ge (tgt := 26) hx hb d_Rd_takeMark_7 (by decide) (fun c_7 => ?_) (fun c_7 => ?_)
  · exact absurd c_7 (by decide)
  · refine lv_aload_n hx hb d_Rd_takeMark_10 rfl (lv_at hl 1 rfl) ?_
    refine va_getsN (C := "DemoTape") (n := "MARK") (d := "[I") (ref := "DemoTape") (host := "DemoTape") hx hb hMk.1 hS hown (hMk.2.2.2.1.use rfl) (fun _ h9 => h9) d_Rd_takeMark_11 ?_
    refine lv_iload_n hx hb d_Rd_takeMark_14 rfl (lv_at hl 0 rfl) ?_
    refine va_ti (v := .int 77) (i := 0) hx hb hMk.2.1 hS (vp_in_nI (n := 0) (N := 3) (by decide) (by decide)) rfl d_Rd_takeMark_15 ?_
    refine lv_iconst (v := 2) hx hb d_Rd_takeMark_16 (by decide) ?_
    refine kc_v (wr := []) (w2 := fun (_ : Unit) => [(d, .inr (3, [.ref r, .int (nI (rNx (tOnly L 77 2 q))), .int (nI (rAn (tOnly L 77 2 q))), .int (rFt (tOnly L 77 2 q)), .int (rPl (tOnly L 77 2 q))])), (r, .inr (2, [.ref b, .int (nI L.length)])), (b, .inl (cB, cap, .inl f))]) (va_runV (As := [.int 77, .int 2]) (rest := []) ⟨hx, hb, hml, hown, hts⟩ (c_Rd_takeOnly l dC dI cI cB cZ _ d r q b cap f L 77 2 (by first | with_reducible assumption | omega | decide) (hq)) (cwV 2 hts (gV mw288 mw290 mw3 mw29 mw291) rfl rfl rfl (by decide +kernel) ⟨Nat.le_of_ble_eq_true rfl, Nat.le_of_ble_eq_true rfl⟩) (kpV (wc := [(d, .inr (3, [.ref r, .int (nI (rNx q)), .int (nI (rAn q)), .int (rFt q), .int (rPl q)])), (r, .inr (2, [.ref b, .int (nI L.length)])), (b, .inl (cB, cap, .inl f))]) (q0 := 0) (ci := 3) hK hP hD [0, 1, 2] rfl (by decide) rfl rfl rfl) rfl rfl hl.1 rfl (lv_room (Nat.le_of_ble_eq_true rfl)) d_Rd_takeMark_17 ⟨Nat.le_of_ble_eq_true rfl, Nat.le_of_ble_eq_true rfl⟩) hP hD hS hA [0, 1, 2] [] [0, 1, 2] rfl rfl (by decide) (by decide) (fun _ => rfl) (by decide) (fun _ => rfl) (fun u9 H locs hw hP hD hS => ?_)
    have hP : va_P (dC, dI) classes [(d, .inr (3, [.ref r, .int (nI (rNx (tOnly L 77 2 q))), .int (nI (rAn (tOnly L 77 2 q))), .int (rFt (tOnly L 77 2 q)), .int (rPl (tOnly L 77 2 q))])), (r, .inr (2, [.ref b, .int (nI L.length)])), (b, .inl (cB, cap, .inl f))] H := hP
    have hD : va_D A [(d, .inr (3, [.ref r, .int (nI (rNx (tOnly L 77 2 q))), .int (nI (rAn (tOnly L 77 2 q))), .int (rFt (tOnly L 77 2 q)), .int (rPl (tOnly L 77 2 q))])), (r, .inr (2, [.ref b, .int (nI L.length)])), (b, .inl (cB, cap, .inl f))] := hD
    refine lv_iinc (v := 1) (lv' := [(1, .int 1), (0, .ref d)]) hx hb d_Rd_takeMark_20 hl (k := 0) rfl (by decide) (by decide) rfl (fun ls hl => ?_)
    refine lv_goto (tgt := 2) hx hb d_Rd_takeMark_23 (by decide) ?_
    refine lv_iload_n hx hb d_Rd_takeMark_2 rfl (lv_at hl 0 rfl) ?_
    refine va_getsN (C := "DemoTape") (n := "MARK") (d := "[I") (ref := "DemoTape") (host := "DemoTape") hx hb hMk.1 hS hown (hMk.2.2.2.1.use rfl) (fun _ h9 => h9) d_Rd_takeMark_3 ?_
    refine va_tlen (v := 3) hx hb hMk.2.1 hS rfl d_Rd_takeMark_6 ?_
    refine lv_icmp_ge (tgt := 26) hx hb d_Rd_takeMark_7 (by decide) (fun c_7 => ?_) (fun c_7 => ?_)
    · exact absurd c_7 (by decide)
    · refine lv_aload_n hx hb d_Rd_takeMark_10 rfl (lv_at hl 1 rfl) ?_
      refine va_getsN (C := "DemoTape") (n := "MARK") (d := "[I") (ref := "DemoTape") (host := "DemoTape") hx hb hMk.1 hS hown (hMk.2.2.2.1.use rfl) (fun _ h9 => h9) d_Rd_takeMark_11 ?_
      refine lv_iload_n hx hb d_Rd_takeMark_14 rfl (lv_at hl 0 rfl) ?_
      refine va_ti (v := .int 68) (i := 1) hx hb hMk.2.1 hS (vp_in_nI (n := 1) (N := 3) (by decide) (by decide)) rfl d_Rd_takeMark_15 ?_
      refine lv_iconst (v := 2) hx hb d_Rd_takeMark_16 (by decide) ?_
      refine kc_v (wr := []) (w2 := fun (_ : Unit) => [(d, .inr (3, [.ref r, .int (nI (rNx (tOnly L 68 2 (tOnly L 77 2 q)))), .int (nI (rAn (tOnly L 68 2 (tOnly L 77 2 q)))), .int (rFt (tOnly L 68 2 (tOnly L 77 2 q))), .int (rPl (tOnly L 68 2 (tOnly L 77 2 q)))])), (r, .inr (2, [.ref b, .int (nI L.length)])), (b, .inl (cB, cap, .inl f))]) (va_runV (As := [.int 68, .int 2]) (rest := []) ⟨hx, hb, hml, hown, hts⟩ (c_Rd_takeOnly l dC dI cI cB cZ _ d r (tOnly L 77 2 q) b cap f L 68 2 (by first | with_reducible assumption | omega | decide) (tOnly_nx _ _ (hq) hL)) (cwV 2 hts (gV mw288 mw290 mw3 mw29 mw291) rfl rfl rfl (by decide +kernel) ⟨Nat.le_of_ble_eq_true rfl, Nat.le_of_ble_eq_true rfl⟩) (kpV (wc := [(d, .inr (3, [.ref r, .int (nI (rNx (tOnly L 77 2 q))), .int (nI (rAn (tOnly L 77 2 q))), .int (rFt (tOnly L 77 2 q)), .int (rPl (tOnly L 77 2 q))])), (r, .inr (2, [.ref b, .int (nI L.length)])), (b, .inl (cB, cap, .inl f))]) (q0 := 0) (ci := 3) hK hP hD [0, 1, 2] rfl (by decide) rfl rfl rfl) rfl rfl hl.1 rfl (lv_room (Nat.le_of_ble_eq_true rfl)) d_Rd_takeMark_17 ⟨Nat.le_of_ble_eq_true rfl, Nat.le_of_ble_eq_true rfl⟩) hP hD hS hA [0, 1, 2] [] [0, 1, 2] rfl rfl (by decide) (by decide) (fun _ => rfl) (by decide) (fun _ => rfl) (fun u9 H locs hw hP hD hS => ?_)
      have hP : va_P (dC, dI) classes [(d, .inr (3, [.ref r, .int (nI (rNx (tOnly L 68 2 (tOnly L 77 2 q)))), .int (nI (rAn (tOnly L 68 2 (tOnly L 77 2 q)))), .int (rFt (tOnly L 68 2 (tOnly L 77 2 q))), .int (rPl (tOnly L 68 2 (tOnly L 77 2 q)))])), (r, .inr (2, [.ref b, .int (nI L.length)])), (b, .inl (cB, cap, .inl f))] H := hP
      have hD : va_D A [(d, .inr (3, [.ref r, .int (nI (rNx (tOnly L 68 2 (tOnly L 77 2 q)))), .int (nI (rAn (tOnly L 68 2 (tOnly L 77 2 q)))), .int (rFt (tOnly L 68 2 (tOnly L 77 2 q))), .int (rPl (tOnly L 68 2 (tOnly L 77 2 q)))])), (r, .inr (2, [.ref b, .int (nI L.length)])), (b, .inl (cB, cap, .inl f))] := hD
      refine lv_iinc (v := 2) (lv' := [(1, .int 2), (0, .ref d)]) hx hb d_Rd_takeMark_20 hl (k := 0) rfl (by decide) (by decide) rfl (fun ls hl => ?_)
      refine lv_goto (tgt := 2) hx hb d_Rd_takeMark_23 (by decide) ?_
      refine lv_iload_n hx hb d_Rd_takeMark_2 rfl (lv_at hl 0 rfl) ?_
      refine va_getsN (C := "DemoTape") (n := "MARK") (d := "[I") (ref := "DemoTape") (host := "DemoTape") hx hb hMk.1 hS hown (hMk.2.2.2.1.use rfl) (fun _ h9 => h9) d_Rd_takeMark_3 ?_
      refine va_tlen (v := 3) hx hb hMk.2.1 hS rfl d_Rd_takeMark_6 ?_
      refine lv_icmp_ge (tgt := 26) hx hb d_Rd_takeMark_7 (by decide) (fun c_7 => ?_) (fun c_7 => ?_)
      · exact absurd c_7 (by decide)
      · refine lv_aload_n hx hb d_Rd_takeMark_10 rfl (lv_at hl 1 rfl) ?_
        refine va_getsN (C := "DemoTape") (n := "MARK") (d := "[I") (ref := "DemoTape") (host := "DemoTape") hx hb hMk.1 hS hown (hMk.2.2.2.1.use rfl) (fun _ h9 => h9) d_Rd_takeMark_11 ?_
        refine lv_iload_n hx hb d_Rd_takeMark_14 rfl (lv_at hl 0 rfl) ?_
        refine va_ti (v := .int 1) (i := 2) hx hb hMk.2.1 hS (vp_in_nI (n := 2) (N := 3) (by decide) (by decide)) rfl d_Rd_takeMark_15 ?_
        refine lv_iconst (v := 2) hx hb d_Rd_takeMark_16 (by decide) ?_
        refine kc_v (wr := []) (w2 := fun (_ : Unit) => [(d, .inr (3, [.ref r, .int (nI (rNx (tOnly L 1 2 (tOnly L 68 2 (tOnly L 77 2 q))))), .int (nI (rAn (tOnly L 1 2 (tOnly L 68 2 (tOnly L 77 2 q))))), .int (rFt (tOnly L 1 2 (tOnly L 68 2 (tOnly L 77 2 q)))), .int (rPl (tOnly L 1 2 (tOnly L 68 2 (tOnly L 77 2 q))))])), (r, .inr (2, [.ref b, .int (nI L.length)])), (b, .inl (cB, cap, .inl f))]) (va_runV (As := [.int 1, .int 2]) (rest := []) ⟨hx, hb, hml, hown, hts⟩ (c_Rd_takeOnly l dC dI cI cB cZ _ d r (tOnly L 68 2 (tOnly L 77 2 q)) b cap f L 1 2 (by first | with_reducible assumption | omega | decide) (tOnly_nx _ _ (tOnly_nx _ _ (hq) hL) hL)) (cwV 2 hts (gV mw288 mw290 mw3 mw29 mw291) rfl rfl rfl (by decide +kernel) ⟨Nat.le_of_ble_eq_true rfl, Nat.le_of_ble_eq_true rfl⟩) (kpV (wc := [(d, .inr (3, [.ref r, .int (nI (rNx (tOnly L 68 2 (tOnly L 77 2 q)))), .int (nI (rAn (tOnly L 68 2 (tOnly L 77 2 q)))), .int (rFt (tOnly L 68 2 (tOnly L 77 2 q))), .int (rPl (tOnly L 68 2 (tOnly L 77 2 q)))])), (r, .inr (2, [.ref b, .int (nI L.length)])), (b, .inl (cB, cap, .inl f))]) (q0 := 0) (ci := 3) hK hP hD [0, 1, 2] rfl (by decide) rfl rfl rfl) rfl rfl hl.1 rfl (lv_room (Nat.le_of_ble_eq_true rfl)) d_Rd_takeMark_17 ⟨Nat.le_of_ble_eq_true rfl, Nat.le_of_ble_eq_true rfl⟩) hP hD hS hA [0, 1, 2] [] [0, 1, 2] rfl rfl (by decide) (by decide) (fun _ => rfl) (by decide) (fun _ => rfl) (fun u9 H locs hw hP hD hS => ?_)
        have hP : va_P (dC, dI) classes [(d, .inr (3, [.ref r, .int (nI (rNx (tOnly L 1 2 (tOnly L 68 2 (tOnly L 77 2 q))))), .int (nI (rAn (tOnly L 1 2 (tOnly L 68 2 (tOnly L 77 2 q))))), .int (rFt (tOnly L 1 2 (tOnly L 68 2 (tOnly L 77 2 q)))), .int (rPl (tOnly L 1 2 (tOnly L 68 2 (tOnly L 77 2 q))))])), (r, .inr (2, [.ref b, .int (nI L.length)])), (b, .inl (cB, cap, .inl f))] H := hP
        have hD : va_D A [(d, .inr (3, [.ref r, .int (nI (rNx (tOnly L 1 2 (tOnly L 68 2 (tOnly L 77 2 q))))), .int (nI (rAn (tOnly L 1 2 (tOnly L 68 2 (tOnly L 77 2 q))))), .int (rFt (tOnly L 1 2 (tOnly L 68 2 (tOnly L 77 2 q)))), .int (rPl (tOnly L 1 2 (tOnly L 68 2 (tOnly L 77 2 q))))])), (r, .inr (2, [.ref b, .int (nI L.length)])), (b, .inl (cB, cap, .inl f))] := hD
        refine lv_iinc (v := 3) (lv' := [(1, .int 3), (0, .ref d)]) hx hb d_Rd_takeMark_20 hl (k := 0) rfl (by decide) (by decide) rfl (fun ls hl => ?_)
        refine lv_goto (tgt := 2) hx hb d_Rd_takeMark_23 (by decide) ?_
        refine lv_iload_n hx hb d_Rd_takeMark_2 rfl (lv_at hl 0 rfl) ?_
        refine va_getsN (C := "DemoTape") (n := "MARK") (d := "[I") (ref := "DemoTape") (host := "DemoTape") hx hb hMk.1 hS hown (hMk.2.2.2.1.use rfl) (fun _ h9 => h9) d_Rd_takeMark_3 ?_
        refine va_tlen (v := 3) hx hb hMk.2.1 hS rfl d_Rd_takeMark_6 ?_
        refine lv_icmp_ge (tgt := 26) hx hb d_Rd_takeMark_7 (by decide) (fun c_7 => ?_) (fun c_7 => ?_)
        · exact kr_v () hx hb hr hK (hP.sub [0, 1, 2] (rfl)) (hD.sub [0, 1, 2] (by decide) (rfl)) hS trivial d_Rd_takeMark_26 hlocks
        · exact absurd (by decide) c_7
abbrev Qc_Rd_takeCheck (dC : Nat → ClassId) (dI : Nat → Nat → Nat) (cI cB cZ : ClassId) (d : Nat) (r : Nat) (q : RS) (b : Nat) (cap : Nat) (f : Nat → Int32) (L : List Nat) (A : Nat → Prop) := va_Qv (fun (_ : Unit) => True) (ka (dC, dI) classes [(cI, .int), (cB, .byte), (cZ, .boolean)] (fun (_ : Unit) => [(d, .inr (3, [.ref r, .int (nI (rNx (tCheck L q))), .int (nI (rAn (tCheck L q))), .int (rFt (tCheck L q)), .int (rPl (tCheck L q))])), (r, .inr (2, [.ref b, .int (nI L.length)])), (b, .inl (cB, cap, .inl f))]) A) A
set_option maxHeartbeats 1000000 in
set_option maxRecDepth 100000 in
/-- Reader.takeCheck -/
theorem c_Rd_takeCheck (l : Launch) (dC : Nat → ClassId) (dI : Nat → Nat → Nat) (cI cB cZ : ClassId) (sz : Nat) (d : Nat) (r : Nat) (q : RS) (b : Nat) (cap : Nat) (f : Nat → Int32) (L : List Nat) (hB : BRow cap f L) (hq : rNx q ≤ L.length) : Met l y_Rd_takeCheck w_Rd_takeCheck ({ frames := 3, cells := 0, slots := 0, locals := 67 }) (va_Pc [.ref d] (kp (dC, dI) classes [(cI, .int), (cB, .byte), (cZ, .boolean)] [(d, .inr (3, [.ref r, .int (nI (rNx q)), .int (nI (rAn q)), .int (rFt q), .int (rPl q)])), (r, .inr (2, [.ref b, .int (nI L.length)])), (b, .inl (cB, cap, .inl f))] sz)) (Qc_Rd_takeCheck dC dI cI cB cZ d r q b cap f L (va_A [(d, .inr (3, [.ref r, .int (nI (rNx q)), .int (nI (rAn q)), .int (rFt q), .int (rPl q)])), (r, .inr (2, [.ref b, .int (nI L.length)])), (b, .inl (cB, cap, .inl f))] sz)) 0 0 (va_A [(d, .inr (3, [.ref r, .int (nI (rNx q)), .int (nI (rAn q)), .int (rFt q), .int (rPl q)])), (r, .inr (2, [.ref b, .int (nI L.length)])), (b, .inl (cB, cap, .inl f))] sz) := by
  refine Met.ofW (cc := prog_4_method_14_code) (maxL := 3) (ret := none) (by decide) rfl ?_
  intro p e s m args below meth c s₁ B hml hv
  obtain ⟨rfl, hsz, hP, hK, hD0⟩ := hv
  have hx := B.exec
  have hb := B.bytes
  have hr := B.returns
  have hts := fun w h => atoms_spec (ws := w_Rd_takeCheck) B.pre w (List.mem_cons_of_mem _ h)
  have hown : s.vm.findClass "DemoTape$Reader" = some m.cls := findClass_of_methodNamed B.named
  have hlocks := B.notSynchronized
  subst hsz
  have hD := hD0.self (sz := s.heap.size)
  generalize hAe : va_A ([(d, .inr (3, [.ref r, .int (nI (rNx q)), .int (nI (rAn q)), .int (rFt q), .int (rPl q)])), (r, .inr (2, [.ref b, .int (nI L.length)])), (b, .inl (cB, cap, .inl f))] : va_W) s.heap.size = A at hD ⊢
  have hA : ∀ q : Nat, s.heap.size ≤ q → A q := fun q h => by rw [← hAe]; exact Or.inr h
  have hS : va_S A s.heap s.heap [] := va_S.rf
  have hP : va_P (dC, dI) classes [(d, .inr (3, [.ref r, .int (nI (rNx q)), .int (nI (rAn q)), .int (rFt q), .int (rPl q)])), (r, .inr (2, [.ref b, .int (nI L.length)])), (b, .inl (cB, cap, .inl f))] s.heap := hP
  have hL : L.length ≤ 8192 := Nat.le_trans hB.2.2.1 hB.2.2.2
  have hl := lv_entry ([.ref d]) (n := 3) (Nat.le_of_ble_eq_true rfl)
  rw [lg_entry_eq]
  generalize (lg_sl ([.ref d]) ++ List.replicate (3 - (lg_sl ([.ref d])).length) Slot.unset).toArray = ls at hl ⊢
  have hl : lv_has ls 3 [(0, .ref d)] := hl
  refine lv_aload_n hx hb d_Rd_takeCheck_0 rfl (lv_at hl 0 rfl) ?_
  refine va_get (D := (dC, dI)) (ci := 3) (v := .ref r) (C := "DemoTape$Reader") (T := F_Rd) (N := 5) hx hb hts i_Rd hown hK hP 0 rfl rfl 0 (by decide) (hts _ mw90) (fun _ h9 => h9) rfl d_Rd_takeCheck_1 ?_
  refine lv_aload_n hx hb d_Rd_takeCheck_4 rfl (lv_at hl 0 rfl) ?_
  refine va_get (D := (dC, dI)) (ci := 3) (v := .int (nI (rNx q))) (C := "DemoTape$Reader") (T := F_Rd) (N := 5) hx hb hts i_Rd hown hK hP 0 rfl rfl 1 (by decide) (hts _ mw91) (fun _ h9 => h9) rfl d_Rd_takeCheck_5 ?_
  refine kq_i (wr := [(d, .inr (3, [.ref r, .int (nI (rNx q)), .int (nI (rAn q)), .int (rFt q), .int (rPl q)]))]) (va_runV (As := [.int (nI (rNx q))]) (rest := []) ⟨hx, hb, hml, hown, hts⟩ (c_Row_checkOfFirst l dC dI cI cB cZ _ r b cap f L (rNx q) (by first | with_reducible assumption | omega | decide) (hq)) (cwV 1 hts (gV mw332 mw230 mw231 mw27 mw232) rfl rfl rfl (by decide +kernel) ⟨Nat.le_of_ble_eq_true rfl, Nat.le_of_ble_eq_true rfl⟩) (kpV (wc := [(r, .inr (2, [.ref b, .int (nI L.length)])), (b, .inl (cB, cap, .inl f))]) (q0 := 1) (ci := 2) hK hP hD [1, 2] rfl (by decide) rfl rfl rfl) rfl rfl hl.1 rfl (lv_room (Nat.le_of_ble_eq_true rfl)) d_Rd_takeCheck_8 ⟨Nat.le_of_ble_eq_true rfl, Nat.le_of_ble_eq_true rfl⟩) hP hD hS hA [1, 2] [0] [0, 1, 2] rfl rfl (by decide) (by decide) rfl (fun r_8 H locs hw hP hS => ?_)
  have e_8 := hw
  refine kt_i e_8 ?_
  refine lv_istore_n (lv' := [(1, .int (kChk (L.take (rNx q)))), (0, .ref d)]) hx hb d_Rd_takeCheck_11 rfl hl (by decide) rfl (fun ls hl => ?_)
  refine lv_iconst (v := 3) hx hb d_Rd_takeCheck_12 (by decide) ?_
  refine lv_istore_n (lv' := [(2, .int 3), (1, .int (kChk (L.take (rNx q)))), (0, .ref d)]) hx hb d_Rd_takeCheck_13 rfl hl (by decide) rfl (fun ls hl => ?_)
  refine lv_iload_n hx hb d_Rd_takeCheck_14 rfl (lv_at hl 0 rfl) ?_
  refine lv_if_lt (tgt := 40) hx hb d_Rd_takeCheck_15 (by decide) (fun c_15 => ?_) (fun c_15 => ?_)
  · exact absurd c_15 (by decide)
  · refine lv_aload_n hx hb d_Rd_takeCheck_18 rfl (lv_at hl 2 rfl) ?_
    refine lv_iload_n hx hb d_Rd_takeCheck_19 rfl (lv_at hl 1 rfl) ?_
    refine lv_bipush (v := 8) hx hb d_Rd_takeCheck_20 (by decide) ?_
    refine lv_iload_n hx hb d_Rd_takeCheck_22 rfl (lv_at hl 0 rfl) ?_
    refine lv_imul hx hb d_Rd_takeCheck_23 ?_
    refine kt_i (y := nI (8 * 3)) (by decide) ?_
    refine lv_iushr (v := ((kChk (L.take (rNx q))).toUInt32 >>> ((nI (8 * 3)).toUInt32 &&& Int32.toUInt32 31)).toInt32) hx hb d_Rd_takeCheck_24 rfl ?_
    refine lv_sipush (v := 255) hx hb d_Rd_takeCheck_25 (by decide) ?_
    refine lv_iand hx hb d_Rd_takeCheck_28 ?_
    refine kt_i (y := kByteOf (kChk (L.take (rNx q))) 3) (rfl) ?_
    refine lv_bipush (v := 6) hx hb d_Rd_takeCheck_29 (by decide) ?_
    refine kc_v (wr := []) (w2 := fun (_ : Unit) => [(d, .inr (3, [.ref r, .int (nI (rNx (tOnly L (kByteOf (kChk (L.take (rNx q))) 3) 6 q))), .int (nI (rAn (tOnly L (kByteOf (kChk (L.take (rNx q))) 3) 6 q))), .int (rFt (tOnly L (kByteOf (kChk (L.take (rNx q))) 3) 6 q)), .int (rPl (tOnly L (kByteOf (kChk (L.take (rNx q))) 3) 6 q))])), (r, .inr (2, [.ref b, .int (nI L.length)])), (b, .inl (cB, cap, .inl f))]) (va_runV (As := [.int (kByteOf (kChk (L.take (rNx q))) 3), .int 6]) (rest := []) ⟨hx, hb, hml, hown, hts⟩ (c_Rd_takeOnly l dC dI cI cB cZ _ d r q b cap f L (kByteOf (kChk (L.take (rNx q))) 3) 6 (by first | with_reducible assumption | omega | decide) (hq)) (cwV 2 hts (gV mw288 mw290 mw3 mw29 mw291) rfl rfl rfl (by decide +kernel) ⟨Nat.le_of_ble_eq_true rfl, Nat.le_of_ble_eq_true rfl⟩) (kpV (wc := [(d, .inr (3, [.ref r, .int (nI (rNx q)), .int (nI (rAn q)), .int (rFt q), .int (rPl q)])), (r, .inr (2, [.ref b, .int (nI L.length)])), (b, .inl (cB, cap, .inl f))]) (q0 := 0) (ci := 3) hK hP hD [0, 1, 2] rfl (by decide) rfl rfl rfl) rfl rfl hl.1 rfl (lv_room (Nat.le_of_ble_eq_true rfl)) d_Rd_takeCheck_31 ⟨Nat.le_of_ble_eq_true rfl, Nat.le_of_ble_eq_true rfl⟩) hP hD hS hA [0, 1, 2] [] [0, 1, 2] rfl rfl (by decide) (by decide) (fun _ => rfl) (by decide) (fun _ => rfl) (fun u9 H locs hw hP hD hS => ?_)
    have hP : va_P (dC, dI) classes [(d, .inr (3, [.ref r, .int (nI (rNx (tOnly L (kByteOf (kChk (L.take (rNx q))) 3) 6 q))), .int (nI (rAn (tOnly L (kByteOf (kChk (L.take (rNx q))) 3) 6 q))), .int (rFt (tOnly L (kByteOf (kChk (L.take (rNx q))) 3) 6 q)), .int (rPl (tOnly L (kByteOf (kChk (L.take (rNx q))) 3) 6 q))])), (r, .inr (2, [.ref b, .int (nI L.length)])), (b, .inl (cB, cap, .inl f))] H := hP
    have hD : va_D A [(d, .inr (3, [.ref r, .int (nI (rNx (tOnly L (kByteOf (kChk (L.take (rNx q))) 3) 6 q))), .int (nI (rAn (tOnly L (kByteOf (kChk (L.take (rNx q))) 3) 6 q))), .int (rFt (tOnly L (kByteOf (kChk (L.take (rNx q))) 3) 6 q)), .int (rPl (tOnly L (kByteOf (kChk (L.take (rNx q))) 3) 6 q))])), (r, .inr (2, [.ref b, .int (nI L.length)])), (b, .inl (cB, cap, .inl f))] := hD
    refine lv_iinc (v := 2) (lv' := [(2, .int 2), (1, .int (kChk (L.take (rNx q)))), (0, .ref d)]) hx hb d_Rd_takeCheck_34 hl (k := 0) rfl (by decide) (by decide) rfl (fun ls hl => ?_)
    refine lv_goto (tgt := 14) hx hb d_Rd_takeCheck_37 (by decide) ?_
    refine lv_iload_n hx hb d_Rd_takeCheck_14 rfl (lv_at hl 0 rfl) ?_
    refine lv_if_lt (tgt := 40) hx hb d_Rd_takeCheck_15 (by decide) (fun c_15 => ?_) (fun c_15 => ?_)
    · exact absurd c_15 (by decide)
    · refine lv_aload_n hx hb d_Rd_takeCheck_18 rfl (lv_at hl 2 rfl) ?_
      refine lv_iload_n hx hb d_Rd_takeCheck_19 rfl (lv_at hl 1 rfl) ?_
      refine lv_bipush (v := 8) hx hb d_Rd_takeCheck_20 (by decide) ?_
      refine lv_iload_n hx hb d_Rd_takeCheck_22 rfl (lv_at hl 0 rfl) ?_
      refine lv_imul hx hb d_Rd_takeCheck_23 ?_
      refine kt_i (y := nI (8 * 2)) (by decide) ?_
      refine lv_iushr (v := ((kChk (L.take (rNx q))).toUInt32 >>> ((nI (8 * 2)).toUInt32 &&& Int32.toUInt32 31)).toInt32) hx hb d_Rd_takeCheck_24 rfl ?_
      refine lv_sipush (v := 255) hx hb d_Rd_takeCheck_25 (by decide) ?_
      refine lv_iand hx hb d_Rd_takeCheck_28 ?_
      refine kt_i (y := kByteOf (kChk (L.take (rNx q))) 2) (rfl) ?_
      refine lv_bipush (v := 6) hx hb d_Rd_takeCheck_29 (by decide) ?_
      refine kc_v (wr := []) (w2 := fun (_ : Unit) => [(d, .inr (3, [.ref r, .int (nI (rNx (tOnly L (kByteOf (kChk (L.take (rNx q))) 2) 6 (tOnly L (kByteOf (kChk (L.take (rNx q))) 3) 6 q)))), .int (nI (rAn (tOnly L (kByteOf (kChk (L.take (rNx q))) 2) 6 (tOnly L (kByteOf (kChk (L.take (rNx q))) 3) 6 q)))), .int (rFt (tOnly L (kByteOf (kChk (L.take (rNx q))) 2) 6 (tOnly L (kByteOf (kChk (L.take (rNx q))) 3) 6 q))), .int (rPl (tOnly L (kByteOf (kChk (L.take (rNx q))) 2) 6 (tOnly L (kByteOf (kChk (L.take (rNx q))) 3) 6 q)))])), (r, .inr (2, [.ref b, .int (nI L.length)])), (b, .inl (cB, cap, .inl f))]) (va_runV (As := [.int (kByteOf (kChk (L.take (rNx q))) 2), .int 6]) (rest := []) ⟨hx, hb, hml, hown, hts⟩ (c_Rd_takeOnly l dC dI cI cB cZ _ d r (tOnly L (kByteOf (kChk (L.take (rNx q))) 3) 6 q) b cap f L (kByteOf (kChk (L.take (rNx q))) 2) 6 (by first | with_reducible assumption | omega | decide) (tOnly_nx _ _ (hq) hL)) (cwV 2 hts (gV mw288 mw290 mw3 mw29 mw291) rfl rfl rfl (by decide +kernel) ⟨Nat.le_of_ble_eq_true rfl, Nat.le_of_ble_eq_true rfl⟩) (kpV (wc := [(d, .inr (3, [.ref r, .int (nI (rNx (tOnly L (kByteOf (kChk (L.take (rNx q))) 3) 6 q))), .int (nI (rAn (tOnly L (kByteOf (kChk (L.take (rNx q))) 3) 6 q))), .int (rFt (tOnly L (kByteOf (kChk (L.take (rNx q))) 3) 6 q)), .int (rPl (tOnly L (kByteOf (kChk (L.take (rNx q))) 3) 6 q))])), (r, .inr (2, [.ref b, .int (nI L.length)])), (b, .inl (cB, cap, .inl f))]) (q0 := 0) (ci := 3) hK hP hD [0, 1, 2] rfl (by decide) rfl rfl rfl) rfl rfl hl.1 rfl (lv_room (Nat.le_of_ble_eq_true rfl)) d_Rd_takeCheck_31 ⟨Nat.le_of_ble_eq_true rfl, Nat.le_of_ble_eq_true rfl⟩) hP hD hS hA [0, 1, 2] [] [0, 1, 2] rfl rfl (by decide) (by decide) (fun _ => rfl) (by decide) (fun _ => rfl) (fun u9 H locs hw hP hD hS => ?_)
      have hP : va_P (dC, dI) classes [(d, .inr (3, [.ref r, .int (nI (rNx (tOnly L (kByteOf (kChk (L.take (rNx q))) 2) 6 (tOnly L (kByteOf (kChk (L.take (rNx q))) 3) 6 q)))), .int (nI (rAn (tOnly L (kByteOf (kChk (L.take (rNx q))) 2) 6 (tOnly L (kByteOf (kChk (L.take (rNx q))) 3) 6 q)))), .int (rFt (tOnly L (kByteOf (kChk (L.take (rNx q))) 2) 6 (tOnly L (kByteOf (kChk (L.take (rNx q))) 3) 6 q))), .int (rPl (tOnly L (kByteOf (kChk (L.take (rNx q))) 2) 6 (tOnly L (kByteOf (kChk (L.take (rNx q))) 3) 6 q)))])), (r, .inr (2, [.ref b, .int (nI L.length)])), (b, .inl (cB, cap, .inl f))] H := hP
      have hD : va_D A [(d, .inr (3, [.ref r, .int (nI (rNx (tOnly L (kByteOf (kChk (L.take (rNx q))) 2) 6 (tOnly L (kByteOf (kChk (L.take (rNx q))) 3) 6 q)))), .int (nI (rAn (tOnly L (kByteOf (kChk (L.take (rNx q))) 2) 6 (tOnly L (kByteOf (kChk (L.take (rNx q))) 3) 6 q)))), .int (rFt (tOnly L (kByteOf (kChk (L.take (rNx q))) 2) 6 (tOnly L (kByteOf (kChk (L.take (rNx q))) 3) 6 q))), .int (rPl (tOnly L (kByteOf (kChk (L.take (rNx q))) 2) 6 (tOnly L (kByteOf (kChk (L.take (rNx q))) 3) 6 q)))])), (r, .inr (2, [.ref b, .int (nI L.length)])), (b, .inl (cB, cap, .inl f))] := hD
      refine lv_iinc (v := 1) (lv' := [(2, .int 1), (1, .int (kChk (L.take (rNx q)))), (0, .ref d)]) hx hb d_Rd_takeCheck_34 hl (k := 0) rfl (by decide) (by decide) rfl (fun ls hl => ?_)
      refine lv_goto (tgt := 14) hx hb d_Rd_takeCheck_37 (by decide) ?_
      refine lv_iload_n hx hb d_Rd_takeCheck_14 rfl (lv_at hl 0 rfl) ?_
      refine lv_if_lt (tgt := 40) hx hb d_Rd_takeCheck_15 (by decide) (fun c_15 => ?_) (fun c_15 => ?_)
      · exact absurd c_15 (by decide)
      · refine lv_aload_n hx hb d_Rd_takeCheck_18 rfl (lv_at hl 2 rfl) ?_
        refine lv_iload_n hx hb d_Rd_takeCheck_19 rfl (lv_at hl 1 rfl) ?_
        refine lv_bipush (v := 8) hx hb d_Rd_takeCheck_20 (by decide) ?_
        refine lv_iload_n hx hb d_Rd_takeCheck_22 rfl (lv_at hl 0 rfl) ?_
        refine lv_imul hx hb d_Rd_takeCheck_23 ?_
        refine kt_i (y := nI (8 * 1)) (by decide) ?_
        refine lv_iushr (v := ((kChk (L.take (rNx q))).toUInt32 >>> ((nI (8 * 1)).toUInt32 &&& Int32.toUInt32 31)).toInt32) hx hb d_Rd_takeCheck_24 rfl ?_
        refine lv_sipush (v := 255) hx hb d_Rd_takeCheck_25 (by decide) ?_
        refine lv_iand hx hb d_Rd_takeCheck_28 ?_
        refine kt_i (y := kByteOf (kChk (L.take (rNx q))) 1) (rfl) ?_
        refine lv_bipush (v := 6) hx hb d_Rd_takeCheck_29 (by decide) ?_
        refine kc_v (wr := []) (w2 := fun (_ : Unit) => [(d, .inr (3, [.ref r, .int (nI (rNx (tOnly L (kByteOf (kChk (L.take (rNx q))) 1) 6 (tOnly L (kByteOf (kChk (L.take (rNx q))) 2) 6 (tOnly L (kByteOf (kChk (L.take (rNx q))) 3) 6 q))))), .int (nI (rAn (tOnly L (kByteOf (kChk (L.take (rNx q))) 1) 6 (tOnly L (kByteOf (kChk (L.take (rNx q))) 2) 6 (tOnly L (kByteOf (kChk (L.take (rNx q))) 3) 6 q))))), .int (rFt (tOnly L (kByteOf (kChk (L.take (rNx q))) 1) 6 (tOnly L (kByteOf (kChk (L.take (rNx q))) 2) 6 (tOnly L (kByteOf (kChk (L.take (rNx q))) 3) 6 q)))), .int (rPl (tOnly L (kByteOf (kChk (L.take (rNx q))) 1) 6 (tOnly L (kByteOf (kChk (L.take (rNx q))) 2) 6 (tOnly L (kByteOf (kChk (L.take (rNx q))) 3) 6 q))))])), (r, .inr (2, [.ref b, .int (nI L.length)])), (b, .inl (cB, cap, .inl f))]) (va_runV (As := [.int (kByteOf (kChk (L.take (rNx q))) 1), .int 6]) (rest := []) ⟨hx, hb, hml, hown, hts⟩ (c_Rd_takeOnly l dC dI cI cB cZ _ d r (tOnly L (kByteOf (kChk (L.take (rNx q))) 2) 6 (tOnly L (kByteOf (kChk (L.take (rNx q))) 3) 6 q)) b cap f L (kByteOf (kChk (L.take (rNx q))) 1) 6 (by first | with_reducible assumption | omega | decide) (tOnly_nx _ _ (tOnly_nx _ _ (hq) hL) hL)) (cwV 2 hts (gV mw288 mw290 mw3 mw29 mw291) rfl rfl rfl (by decide +kernel) ⟨Nat.le_of_ble_eq_true rfl, Nat.le_of_ble_eq_true rfl⟩) (kpV (wc := [(d, .inr (3, [.ref r, .int (nI (rNx (tOnly L (kByteOf (kChk (L.take (rNx q))) 2) 6 (tOnly L (kByteOf (kChk (L.take (rNx q))) 3) 6 q)))), .int (nI (rAn (tOnly L (kByteOf (kChk (L.take (rNx q))) 2) 6 (tOnly L (kByteOf (kChk (L.take (rNx q))) 3) 6 q)))), .int (rFt (tOnly L (kByteOf (kChk (L.take (rNx q))) 2) 6 (tOnly L (kByteOf (kChk (L.take (rNx q))) 3) 6 q))), .int (rPl (tOnly L (kByteOf (kChk (L.take (rNx q))) 2) 6 (tOnly L (kByteOf (kChk (L.take (rNx q))) 3) 6 q)))])), (r, .inr (2, [.ref b, .int (nI L.length)])), (b, .inl (cB, cap, .inl f))]) (q0 := 0) (ci := 3) hK hP hD [0, 1, 2] rfl (by decide) rfl rfl rfl) rfl rfl hl.1 rfl (lv_room (Nat.le_of_ble_eq_true rfl)) d_Rd_takeCheck_31 ⟨Nat.le_of_ble_eq_true rfl, Nat.le_of_ble_eq_true rfl⟩) hP hD hS hA [0, 1, 2] [] [0, 1, 2] rfl rfl (by decide) (by decide) (fun _ => rfl) (by decide) (fun _ => rfl) (fun u9 H locs hw hP hD hS => ?_)
        have hP : va_P (dC, dI) classes [(d, .inr (3, [.ref r, .int (nI (rNx (tOnly L (kByteOf (kChk (L.take (rNx q))) 1) 6 (tOnly L (kByteOf (kChk (L.take (rNx q))) 2) 6 (tOnly L (kByteOf (kChk (L.take (rNx q))) 3) 6 q))))), .int (nI (rAn (tOnly L (kByteOf (kChk (L.take (rNx q))) 1) 6 (tOnly L (kByteOf (kChk (L.take (rNx q))) 2) 6 (tOnly L (kByteOf (kChk (L.take (rNx q))) 3) 6 q))))), .int (rFt (tOnly L (kByteOf (kChk (L.take (rNx q))) 1) 6 (tOnly L (kByteOf (kChk (L.take (rNx q))) 2) 6 (tOnly L (kByteOf (kChk (L.take (rNx q))) 3) 6 q)))), .int (rPl (tOnly L (kByteOf (kChk (L.take (rNx q))) 1) 6 (tOnly L (kByteOf (kChk (L.take (rNx q))) 2) 6 (tOnly L (kByteOf (kChk (L.take (rNx q))) 3) 6 q))))])), (r, .inr (2, [.ref b, .int (nI L.length)])), (b, .inl (cB, cap, .inl f))] H := hP
        have hD : va_D A [(d, .inr (3, [.ref r, .int (nI (rNx (tOnly L (kByteOf (kChk (L.take (rNx q))) 1) 6 (tOnly L (kByteOf (kChk (L.take (rNx q))) 2) 6 (tOnly L (kByteOf (kChk (L.take (rNx q))) 3) 6 q))))), .int (nI (rAn (tOnly L (kByteOf (kChk (L.take (rNx q))) 1) 6 (tOnly L (kByteOf (kChk (L.take (rNx q))) 2) 6 (tOnly L (kByteOf (kChk (L.take (rNx q))) 3) 6 q))))), .int (rFt (tOnly L (kByteOf (kChk (L.take (rNx q))) 1) 6 (tOnly L (kByteOf (kChk (L.take (rNx q))) 2) 6 (tOnly L (kByteOf (kChk (L.take (rNx q))) 3) 6 q)))), .int (rPl (tOnly L (kByteOf (kChk (L.take (rNx q))) 1) 6 (tOnly L (kByteOf (kChk (L.take (rNx q))) 2) 6 (tOnly L (kByteOf (kChk (L.take (rNx q))) 3) 6 q))))])), (r, .inr (2, [.ref b, .int (nI L.length)])), (b, .inl (cB, cap, .inl f))] := hD
        refine lv_iinc (v := 0) (lv' := [(2, .int 0), (1, .int (kChk (L.take (rNx q)))), (0, .ref d)]) hx hb d_Rd_takeCheck_34 hl (k := 0) rfl (by decide) (by decide) rfl (fun ls hl => ?_)
        refine lv_goto (tgt := 14) hx hb d_Rd_takeCheck_37 (by decide) ?_
        refine lv_iload_n hx hb d_Rd_takeCheck_14 rfl (lv_at hl 0 rfl) ?_
        refine lv_if_lt (tgt := 40) hx hb d_Rd_takeCheck_15 (by decide) (fun c_15 => ?_) (fun c_15 => ?_)
        · exact absurd c_15 (by decide)
        · refine lv_aload_n hx hb d_Rd_takeCheck_18 rfl (lv_at hl 2 rfl) ?_
          refine lv_iload_n hx hb d_Rd_takeCheck_19 rfl (lv_at hl 1 rfl) ?_
          refine lv_bipush (v := 8) hx hb d_Rd_takeCheck_20 (by decide) ?_
          refine lv_iload_n hx hb d_Rd_takeCheck_22 rfl (lv_at hl 0 rfl) ?_
          refine lv_imul hx hb d_Rd_takeCheck_23 ?_
          refine kt_i (y := nI (8 * 0)) (by decide) ?_
          refine lv_iushr (v := ((kChk (L.take (rNx q))).toUInt32 >>> ((nI (8 * 0)).toUInt32 &&& Int32.toUInt32 31)).toInt32) hx hb d_Rd_takeCheck_24 rfl ?_
          refine lv_sipush (v := 255) hx hb d_Rd_takeCheck_25 (by decide) ?_
          refine lv_iand hx hb d_Rd_takeCheck_28 ?_
          refine kt_i (y := kByteOf (kChk (L.take (rNx q))) 0) (rfl) ?_
          refine lv_bipush (v := 6) hx hb d_Rd_takeCheck_29 (by decide) ?_
          refine kc_v (wr := []) (w2 := fun (_ : Unit) => [(d, .inr (3, [.ref r, .int (nI (rNx (tOnly L (kByteOf (kChk (L.take (rNx q))) 0) 6 (tOnly L (kByteOf (kChk (L.take (rNx q))) 1) 6 (tOnly L (kByteOf (kChk (L.take (rNx q))) 2) 6 (tOnly L (kByteOf (kChk (L.take (rNx q))) 3) 6 q)))))), .int (nI (rAn (tOnly L (kByteOf (kChk (L.take (rNx q))) 0) 6 (tOnly L (kByteOf (kChk (L.take (rNx q))) 1) 6 (tOnly L (kByteOf (kChk (L.take (rNx q))) 2) 6 (tOnly L (kByteOf (kChk (L.take (rNx q))) 3) 6 q)))))), .int (rFt (tOnly L (kByteOf (kChk (L.take (rNx q))) 0) 6 (tOnly L (kByteOf (kChk (L.take (rNx q))) 1) 6 (tOnly L (kByteOf (kChk (L.take (rNx q))) 2) 6 (tOnly L (kByteOf (kChk (L.take (rNx q))) 3) 6 q))))), .int (rPl (tOnly L (kByteOf (kChk (L.take (rNx q))) 0) 6 (tOnly L (kByteOf (kChk (L.take (rNx q))) 1) 6 (tOnly L (kByteOf (kChk (L.take (rNx q))) 2) 6 (tOnly L (kByteOf (kChk (L.take (rNx q))) 3) 6 q)))))])), (r, .inr (2, [.ref b, .int (nI L.length)])), (b, .inl (cB, cap, .inl f))]) (va_runV (As := [.int (kByteOf (kChk (L.take (rNx q))) 0), .int 6]) (rest := []) ⟨hx, hb, hml, hown, hts⟩ (c_Rd_takeOnly l dC dI cI cB cZ _ d r (tOnly L (kByteOf (kChk (L.take (rNx q))) 1) 6 (tOnly L (kByteOf (kChk (L.take (rNx q))) 2) 6 (tOnly L (kByteOf (kChk (L.take (rNx q))) 3) 6 q))) b cap f L (kByteOf (kChk (L.take (rNx q))) 0) 6 (by first | with_reducible assumption | omega | decide) (tOnly_nx _ _ (tOnly_nx _ _ (tOnly_nx _ _ (hq) hL) hL) hL)) (cwV 2 hts (gV mw288 mw290 mw3 mw29 mw291) rfl rfl rfl (by decide +kernel) ⟨Nat.le_of_ble_eq_true rfl, Nat.le_of_ble_eq_true rfl⟩) (kpV (wc := [(d, .inr (3, [.ref r, .int (nI (rNx (tOnly L (kByteOf (kChk (L.take (rNx q))) 1) 6 (tOnly L (kByteOf (kChk (L.take (rNx q))) 2) 6 (tOnly L (kByteOf (kChk (L.take (rNx q))) 3) 6 q))))), .int (nI (rAn (tOnly L (kByteOf (kChk (L.take (rNx q))) 1) 6 (tOnly L (kByteOf (kChk (L.take (rNx q))) 2) 6 (tOnly L (kByteOf (kChk (L.take (rNx q))) 3) 6 q))))), .int (rFt (tOnly L (kByteOf (kChk (L.take (rNx q))) 1) 6 (tOnly L (kByteOf (kChk (L.take (rNx q))) 2) 6 (tOnly L (kByteOf (kChk (L.take (rNx q))) 3) 6 q)))), .int (rPl (tOnly L (kByteOf (kChk (L.take (rNx q))) 1) 6 (tOnly L (kByteOf (kChk (L.take (rNx q))) 2) 6 (tOnly L (kByteOf (kChk (L.take (rNx q))) 3) 6 q))))])), (r, .inr (2, [.ref b, .int (nI L.length)])), (b, .inl (cB, cap, .inl f))]) (q0 := 0) (ci := 3) hK hP hD [0, 1, 2] rfl (by decide) rfl rfl rfl) rfl rfl hl.1 rfl (lv_room (Nat.le_of_ble_eq_true rfl)) d_Rd_takeCheck_31 ⟨Nat.le_of_ble_eq_true rfl, Nat.le_of_ble_eq_true rfl⟩) hP hD hS hA [0, 1, 2] [] [0, 1, 2] rfl rfl (by decide) (by decide) (fun _ => rfl) (by decide) (fun _ => rfl) (fun u9 H locs hw hP hD hS => ?_)
          have hP : va_P (dC, dI) classes [(d, .inr (3, [.ref r, .int (nI (rNx (tOnly L (kByteOf (kChk (L.take (rNx q))) 0) 6 (tOnly L (kByteOf (kChk (L.take (rNx q))) 1) 6 (tOnly L (kByteOf (kChk (L.take (rNx q))) 2) 6 (tOnly L (kByteOf (kChk (L.take (rNx q))) 3) 6 q)))))), .int (nI (rAn (tOnly L (kByteOf (kChk (L.take (rNx q))) 0) 6 (tOnly L (kByteOf (kChk (L.take (rNx q))) 1) 6 (tOnly L (kByteOf (kChk (L.take (rNx q))) 2) 6 (tOnly L (kByteOf (kChk (L.take (rNx q))) 3) 6 q)))))), .int (rFt (tOnly L (kByteOf (kChk (L.take (rNx q))) 0) 6 (tOnly L (kByteOf (kChk (L.take (rNx q))) 1) 6 (tOnly L (kByteOf (kChk (L.take (rNx q))) 2) 6 (tOnly L (kByteOf (kChk (L.take (rNx q))) 3) 6 q))))), .int (rPl (tOnly L (kByteOf (kChk (L.take (rNx q))) 0) 6 (tOnly L (kByteOf (kChk (L.take (rNx q))) 1) 6 (tOnly L (kByteOf (kChk (L.take (rNx q))) 2) 6 (tOnly L (kByteOf (kChk (L.take (rNx q))) 3) 6 q)))))])), (r, .inr (2, [.ref b, .int (nI L.length)])), (b, .inl (cB, cap, .inl f))] H := hP
          have hD : va_D A [(d, .inr (3, [.ref r, .int (nI (rNx (tOnly L (kByteOf (kChk (L.take (rNx q))) 0) 6 (tOnly L (kByteOf (kChk (L.take (rNx q))) 1) 6 (tOnly L (kByteOf (kChk (L.take (rNx q))) 2) 6 (tOnly L (kByteOf (kChk (L.take (rNx q))) 3) 6 q)))))), .int (nI (rAn (tOnly L (kByteOf (kChk (L.take (rNx q))) 0) 6 (tOnly L (kByteOf (kChk (L.take (rNx q))) 1) 6 (tOnly L (kByteOf (kChk (L.take (rNx q))) 2) 6 (tOnly L (kByteOf (kChk (L.take (rNx q))) 3) 6 q)))))), .int (rFt (tOnly L (kByteOf (kChk (L.take (rNx q))) 0) 6 (tOnly L (kByteOf (kChk (L.take (rNx q))) 1) 6 (tOnly L (kByteOf (kChk (L.take (rNx q))) 2) 6 (tOnly L (kByteOf (kChk (L.take (rNx q))) 3) 6 q))))), .int (rPl (tOnly L (kByteOf (kChk (L.take (rNx q))) 0) 6 (tOnly L (kByteOf (kChk (L.take (rNx q))) 1) 6 (tOnly L (kByteOf (kChk (L.take (rNx q))) 2) 6 (tOnly L (kByteOf (kChk (L.take (rNx q))) 3) 6 q)))))])), (r, .inr (2, [.ref b, .int (nI L.length)])), (b, .inl (cB, cap, .inl f))] := hD
          refine lv_iinc (v := -1) (lv' := [(2, .int (-1)), (1, .int (kChk (L.take (rNx q)))), (0, .ref d)]) hx hb d_Rd_takeCheck_34 hl (k := 0) rfl (by decide) (by decide) rfl (fun ls hl => ?_)
          refine lv_goto (tgt := 14) hx hb d_Rd_takeCheck_37 (by decide) ?_
          refine lv_iload_n hx hb d_Rd_takeCheck_14 rfl (lv_at hl 0 rfl) ?_
          refine lv_if_lt (tgt := 40) hx hb d_Rd_takeCheck_15 (by decide) (fun c_15 => ?_) (fun c_15 => ?_)
          · exact kr_v () hx hb hr hK (hP.sub [0, 1, 2] (rfl)) (hD.sub [0, 1, 2] (by decide) (rfl)) hS trivial d_Rd_takeCheck_40 hlocks
          · exact absurd (by decide) c_15
abbrev Qc_Rd_takeGroup (dC : Nat → ClassId) (dI : Nat → Nat → Nat) (cI cB cZ : ClassId) (d : Nat) (r : Nat) (q : RS) (b : Nat) (cap : Nat) (f : Nat → Int32) (L : List Nat) (w : Nat) (a : Nat) (fw : Nat → Int32) (M : List Int32) (x : Int32) (y : Int32) (g : Int32) (t : Int32) (A : Nat → Prop) := va_Qi (fun (r9 : Int32) (u9 : (Nat → Int32)) => (r9 = (tGroup L M q).1) ∧ (WRow u9 (tGroup L M q).2.1)) (ka (dC, dI) classes [(cI, .int), (cB, .byte), (cZ, .boolean)] (fun (u9 : (Nat → Int32)) => [(d, .inr (3, [.ref r, .int (nI (rNx (tGroup L M q).2.2)), .int (nI (rAn (tGroup L M q).2.2)), .int (rFt (tGroup L M q).2.2), .int (rPl (tGroup L M q).2.2)])), (r, .inr (2, [.ref b, .int (nI L.length)])), (b, .inl (cB, cap, .inl f)), (w, .inr (1, [.ref a, .int (nI (tGroup L M q).2.1.length), .int x, .int y, .int g, .int t])), (a, .inl (cI, 1024, .inl u9))]) A) A
set_option maxHeartbeats 1000000 in
set_option maxRecDepth 100000 in
/-- Reader.takeGroup -/
theorem c_Rd_takeGroup (l : Launch) (dC : Nat → ClassId) (dI : Nat → Nat → Nat) (cI cB cZ : ClassId) (sz : Nat) (d : Nat) (r : Nat) (q : RS) (b : Nat) (cap : Nat) (f : Nat → Int32) (L : List Nat) (w : Nat) (a : Nat) (fw : Nat → Int32) (M : List Int32) (x : Int32) (y : Int32) (g : Int32) (t : Int32) (hB : BRow cap f L) (hq : rNx q ≤ L.length) (hW : WRow fw M) (hn : rAn q ≤ 63) : Met l y_Rd_takeGroup w_Rd_takeGroup ({ frames := 3, cells := 0, slots := 0, locals := 70 }) (va_Pc [.ref d, .ref w] (kp (dC, dI) classes [(cI, .int), (cB, .byte), (cZ, .boolean)] [(d, .inr (3, [.ref r, .int (nI (rNx q)), .int (nI (rAn q)), .int (rFt q), .int (rPl q)])), (r, .inr (2, [.ref b, .int (nI L.length)])), (b, .inl (cB, cap, .inl f)), (w, .inr (1, [.ref a, .int (nI M.length), .int x, .int y, .int g, .int t])), (a, .inl (cI, 1024, .inl fw))] sz)) (Qc_Rd_takeGroup dC dI cI cB cZ d r q b cap f L w a fw M x y g t (va_A [(d, .inr (3, [.ref r, .int (nI (rNx q)), .int (nI (rAn q)), .int (rFt q), .int (rPl q)])), (r, .inr (2, [.ref b, .int (nI L.length)])), (b, .inl (cB, cap, .inl f)), (w, .inr (1, [.ref a, .int (nI M.length), .int x, .int y, .int g, .int t])), (a, .inl (cI, 1024, .inl fw))] sz)) 0 0 (va_A [(d, .inr (3, [.ref r, .int (nI (rNx q)), .int (nI (rAn q)), .int (rFt q), .int (rPl q)])), (r, .inr (2, [.ref b, .int (nI L.length)])), (b, .inl (cB, cap, .inl f)), (w, .inr (1, [.ref a, .int (nI M.length), .int x, .int y, .int g, .int t])), (a, .inl (cI, 1024, .inl fw))] sz) := by
  refine Met.ofW (cc := prog_4_method_12_code) (maxL := 6) (ret := (some .boolean)) (by decide) rfl ?_
  intro p e s m args below meth c s₁ B hml hv
  obtain ⟨rfl, hsz, hP, hK, hD0⟩ := hv
  have hx := B.exec
  have hb := B.bytes
  have hr := B.returns
  have hts := fun w h => atoms_spec (ws := w_Rd_takeGroup) B.pre w (List.mem_cons_of_mem _ h)
  have hown : s.vm.findClass "DemoTape$Reader" = some m.cls := findClass_of_methodNamed B.named
  have hlocks := B.notSynchronized
  subst hsz
  have hD := hD0.self (sz := s.heap.size)
  generalize hAe : va_A ([(d, .inr (3, [.ref r, .int (nI (rNx q)), .int (nI (rAn q)), .int (rFt q), .int (rPl q)])), (r, .inr (2, [.ref b, .int (nI L.length)])), (b, .inl (cB, cap, .inl f)), (w, .inr (1, [.ref a, .int (nI M.length), .int x, .int y, .int g, .int t])), (a, .inl (cI, 1024, .inl fw))] : va_W) s.heap.size = A at hD ⊢
  have hA : ∀ q : Nat, s.heap.size ≤ q → A q := fun q h => by rw [← hAe]; exact Or.inr h
  have hS : va_S A s.heap s.heap [] := va_S.rf
  have hP : va_P (dC, dI) classes [(d, .inr (3, [.ref r, .int (nI (rNx q)), .int (nI (rAn q)), .int (rFt q), .int (rPl q)])), (r, .inr (2, [.ref b, .int (nI L.length)])), (b, .inl (cB, cap, .inl f)), (w, .inr (1, [.ref a, .int (nI M.length), .int x, .int y, .int g, .int t])), (a, .inl (cI, 1024, .inl fw))] s.heap := hP
  have hL : L.length ≤ 8192 := Nat.le_trans hB.2.2.1 hB.2.2.2
  have hq1 : rNx (tTake L 255 q).2 ≤ L.length := tTake_nx _ hq hL
  have hn1 : rAn (tTake L 255 q).2 = rAn q := tTake_an _ _ _
  have hkn : kN (tTake L 255 q).1 ≤ 63 := kN_le _
  have hM := hW.2
  have hl := lv_entry ([.ref d, .ref w]) (n := 6) (Nat.le_of_ble_eq_true rfl)
  rw [lg_entry_eq]
  generalize (lg_sl ([.ref d, .ref w]) ++ List.replicate (6 - (lg_sl ([.ref d, .ref w])).length) Slot.unset).toArray = ls at hl ⊢
  have hl : lv_has ls 6 [(0, .ref d), (1, .ref w)] := hl
  have J_93 : ∀ (z5 : RS), (¬ ((tTake L 255 q).1 = -1 ∨ (tTake L 255 q).1 = 0)) → (z5 = tG5 L M q) → ∀ (H : Heap) (locs : List Loc), va_P (dC, dI) classes [(d, .inr (3, [.ref r, .int (nI (rNx z5)), .int (nI (rAn z5)), .int (rFt z5), .int (rPl z5)])), (r, .inr (2, [.ref b, .int (nI L.length)])), (b, .inl (cB, cap, .inl f)), (w, .inr (1, [.ref a, .int (nI M.length), .int x, .int y, .int g, .int t])), (a, .inl (cI, 1024, .inl fw))] H → va_D A [(d, .inr (3, [.ref r, .int (nI (rNx z5)), .int (nI (rAn z5)), .int (rFt z5), .int (rPl z5)])), (r, .inr (2, [.ref b, .int (nI L.length)])), (b, .inl (cB, cap, .inl f)), (w, .inr (1, [.ref a, .int (nI M.length), .int x, .int y, .int g, .int t])), (a, .inl (cI, 1024, .inl fw))] → va_S A s.heap H locs → ∀ (ls : Array Slot), lv_has ls 6 [(0, .ref d), (1, .ref w), (2, .int (nI (rNx q))), (3, .int (tTake L 255 q).1), (4, .int (nI (kN (tTake L 255 q).1))), (5, .int (tG4 L M q).1)] → W p l e (headSpec w_Rd_takeGroup ({ frames := 3, cells := 0, slots := 0, locals := 70 })).room s m [.ref d, .ref w].toArray below meth c H locs 0 0 (MQ below (Qc_Rd_takeGroup dC dI cI cB cZ d r q b cap f L w a fw M x y g t A) [.ref d, .ref w].toArray s 0 0 A) (F0 m 93 ls []) := by
    intro z5 hb1 h5 H locs hP hD hS ls hl
    subst h5
    refine lv_aload_n hx hb d_Rd_takeGroup_93 rfl (lv_at hl 0 rfl) ?_
    refine va_get (D := (dC, dI)) (ci := 3) (v := .int (rFt (tG5 L M q))) (C := "DemoTape$Reader") (T := F_Rd) (N := 5) hx hb hts i_Rd hown hK hP 0 rfl rfl 3 (by decide) (hts _ mw93) (fun _ h9 => h9) rfl d_Rd_takeGroup_94 ?_
    refine lv_if_eq (tgt := 102) hx hb d_Rd_takeGroup_97 (by decide) (fun c_97 => ?_) (fun c_97 => ?_)
    · have hroom := tG5_room hb1 c_97
      refine lv_aload_n hx hb d_Rd_takeGroup_102 rfl (lv_at hl 1 rfl) ?_
      refine lv_iload hx hb d_Rd_takeGroup_103 (lv_at hl 5 rfl) ?_
      refine lv_iload hx hb d_Rd_takeGroup_105 (lv_at hl 4 rfl) ?_
      refine kc_v (wr := [(d, .inr (3, [.ref r, .int (nI (rNx (tG5 L M q))), .int (nI (rAn (tG5 L M q))), .int (rFt (tG5 L M q)), .int (rPl (tG5 L M q))])), (r, .inr (2, [.ref b, .int (nI L.length)])), (b, .inl (cB, cap, .inl f))]) (w2 := fun (u9 : (Nat → Int32)) => [(d, .inr (3, [.ref r, .int (nI (rNx (tG5 L M q))), .int (nI (rAn (tG5 L M q))), .int (rFt (tG5 L M q)), .int (rPl (tG5 L M q))])), (r, .inr (2, [.ref b, .int (nI L.length)])), (b, .inl (cB, cap, .inl f)), (w, .inr (1, [.ref a, .int (nI (M ++ List.replicate (kN (tTake L 255 q).1) (tG4 L M q).1).length), .int x, .int y, .int g, .int t])), (a, .inl (cI, 1024, .inl u9))]) (va_runV (As := [.int (tG4 L M q).1, .int (nI (kN (tTake L 255 q).1))]) (rest := []) ⟨hx, hb, hml, hown, hts⟩ (c_Walk_append l dC dI cI cB cZ _ w a fw M x y g t (tG4 L M q).1 (kN (tTake L 255 q).1) (by first | with_reducible assumption | omega | decide) (by omega)) (cwV 2 hts (gV mw327 mw146 mw147 mw26 mw148) rfl rfl rfl (by decide +kernel) ⟨Nat.le_of_ble_eq_true rfl, Nat.le_of_ble_eq_true rfl⟩) (kpV (wc := [(w, .inr (1, [.ref a, .int (nI M.length), .int x, .int y, .int g, .int t])), (a, .inl (cI, 1024, .inl fw))]) (q0 := 3) (ci := 1) hK hP hD [3, 4] rfl (by decide) rfl rfl rfl) rfl rfl hl.1 rfl (lv_room (Nat.le_of_ble_eq_true rfl)) d_Rd_takeGroup_107 ⟨Nat.le_of_ble_eq_true rfl, Nat.le_of_ble_eq_true rfl⟩) hP hD hS hA [3, 4] [0, 1, 2] [0, 1, 2, 3, 4] rfl rfl (by decide) (by decide) (fun _ => rfl) (by decide) (fun _ => rfl) (fun u9 H locs hw hP hD hS => ?_)
      obtain ⟨f1_107, rfl⟩ : ∃ z, z = u9 := ⟨_, rfl⟩
      try dsimp only at hw
      have hP : va_P (dC, dI) classes [(d, .inr (3, [.ref r, .int (nI (rNx (tG5 L M q))), .int (nI (rAn (tG5 L M q))), .int (rFt (tG5 L M q)), .int (rPl (tG5 L M q))])), (r, .inr (2, [.ref b, .int (nI L.length)])), (b, .inl (cB, cap, .inl f)), (w, .inr (1, [.ref a, .int (nI (M ++ List.replicate (kN (tTake L 255 q).1) (tG4 L M q).1).length), .int x, .int y, .int g, .int t])), (a, .inl (cI, 1024, .inl f1_107))] H := hP
      have hD : va_D A [(d, .inr (3, [.ref r, .int (nI (rNx (tG5 L M q))), .int (nI (rAn (tG5 L M q))), .int (rFt (tG5 L M q)), .int (rPl (tG5 L M q))])), (r, .inr (2, [.ref b, .int (nI L.length)])), (b, .inl (cB, cap, .inl f)), (w, .inr (1, [.ref a, .int (nI (M ++ List.replicate (kN (tTake L 255 q).1) (tG4 L M q).1).length), .int x, .int y, .int g, .int t])), (a, .inl (cI, 1024, .inl f1_107))] := hD
      have hW_107 := hw
      refine lv_aload_n hx hb d_Rd_takeGroup_110 rfl (lv_at hl 0 rfl) ?_
      refine lv_iload hx hb d_Rd_takeGroup_111 (lv_at hl 4 rfl) ?_
      refine va_put (D := (dC, dI)) (ci := 3) (v := .int (nI (kN (tTake L 255 q).1))) (ty := .int) (C := "DemoTape$Reader") (T := F_Rd) (N := 5) hx hb hts i_Rd t_Rd t_Rd_ok n_Rd hown hK hP hD hS 0 rfl rfl 2 (by decide) (hts _ mw92) (fun _ h9 => h9) rfl (by decide +kernel) rfl rfl (Nat.le_of_ble_eq_true rfl) d_Rd_takeGroup_113 (fun H locs hP hD hS => ?_)
      have hP : va_P (dC, dI) classes [(d, .inr (3, [.ref r, .int (nI (rNx (tG5 L M q))), .int (nI (kN (tTake L 255 q).1)), .int (rFt (tG5 L M q)), .int (rPl (tG5 L M q))])), (r, .inr (2, [.ref b, .int (nI L.length)])), (b, .inl (cB, cap, .inl f)), (w, .inr (1, [.ref a, .int (nI (M ++ List.replicate (kN (tTake L 255 q).1) (tG4 L M q).1).length), .int x, .int y, .int g, .int t])), (a, .inl (cI, 1024, .inl f1_107))] H := hP
      have hD : va_D A [(d, .inr (3, [.ref r, .int (nI (rNx (tG5 L M q))), .int (nI (kN (tTake L 255 q).1)), .int (rFt (tG5 L M q)), .int (rPl (tG5 L M q))])), (r, .inr (2, [.ref b, .int (nI L.length)])), (b, .inl (cB, cap, .inl f)), (w, .inr (1, [.ref a, .int (nI (M ++ List.replicate (kN (tTake L 255 q).1) (tG4 L M q).1).length), .int x, .int y, .int g, .int t])), (a, .inl (cI, 1024, .inl f1_107))] := hD
      refine lv_iconst (v := 1) hx hb d_Rd_takeGroup_116 (by decide) ?_
      exact kr_i (v := 1) f1_107 hx hb hr (by decide) hK (hP.sub [0, 1, 2, 3, 4] (by rw [tGroup_k hb1 c_97]; first | done | rfl)) (hD.sub [0, 1, 2, 3, 4] (by decide) (by rw [tGroup_k hb1 c_97]; first | done | rfl)) hS ⟨by rw [tGroup_k hb1 c_97], by rw [tGroup_k hb1 c_97]; exact hW_107⟩ d_Rd_takeGroup_117 hlocks
    · refine lv_iconst (v := 0) hx hb d_Rd_takeGroup_100 (by decide) ?_
      exact kr_i (v := 0) fw hx hb hr (by decide) hK (hP.sub [0, 1, 2, 3, 4] (by rw [tGroup_f hb1 c_97]; first | done | rfl)) (hD.sub [0, 1, 2, 3, 4] (by decide) (by rw [tGroup_f hb1 c_97]; first | done | rfl)) hS ⟨by rw [tGroup_f hb1 c_97], by rw [tGroup_f hb1 c_97]; exact hW⟩ d_Rd_takeGroup_101 hlocks
  have J_56 : ∀ (z3 : RS), (¬ ((tTake L 255 q).1 = -1 ∨ (tTake L 255 q).1 = 0)) → (z3 = tG3 L M q) → ∀ (H : Heap) (locs : List Loc), va_P (dC, dI) classes [(d, .inr (3, [.ref r, .int (nI (rNx z3)), .int (nI (rAn z3)), .int (rFt z3), .int (rPl z3)])), (r, .inr (2, [.ref b, .int (nI L.length)])), (b, .inl (cB, cap, .inl f)), (w, .inr (1, [.ref a, .int (nI M.length), .int x, .int y, .int g, .int t])), (a, .inl (cI, 1024, .inl fw))] H → va_D A [(d, .inr (3, [.ref r, .int (nI (rNx z3)), .int (nI (rAn z3)), .int (rFt z3), .int (rPl z3)])), (r, .inr (2, [.ref b, .int (nI L.length)])), (b, .inl (cB, cap, .inl f)), (w, .inr (1, [.ref a, .int (nI M.length), .int x, .int y, .int g, .int t])), (a, .inl (cI, 1024, .inl fw))] → va_S A s.heap H locs → ∀ (ls : Array Slot), lv_has ls 6 [(0, .ref d), (1, .ref w), (2, .int (nI (rNx q))), (3, .int (tTake L 255 q).1), (4, .int (nI (kN (tTake L 255 q).1)))] → W p l e (headSpec w_Rd_takeGroup ({ frames := 3, cells := 0, slots := 0, locals := 70 })).room s m [.ref d, .ref w].toArray below meth c H locs 0 0 (MQ below (Qc_Rd_takeGroup dC dI cI cB cZ d r q b cap f L w a fw M x y g t A) [.ref d, .ref w].toArray s 0 0 A) (F0 m 56 ls []) := by
    intro z3 hb1 h3 H locs hP hD hS ls hl
    subst h3
    refine lv_aload_n hx hb d_Rd_takeGroup_56 rfl (lv_at hl 0 rfl) ?_
    refine lv_iload_n hx hb d_Rd_takeGroup_57 rfl (lv_at hl 3 rfl) ?_
    refine kc_i (wr := [(w, .inr (1, [.ref a, .int (nI M.length), .int x, .int y, .int g, .int t])), (a, .inl (cI, 1024, .inl fw))]) (w2 := fun (_ : Unit) => [(d, .inr (3, [.ref r, .int (nI (rNx (tCode L (tTake L 255 q).1 (tG3 L M q)).2)), .int (nI (rAn (tCode L (tTake L 255 q).1 (tG3 L M q)).2)), .int (rFt (tCode L (tTake L 255 q).1 (tG3 L M q)).2), .int (rPl (tCode L (tTake L 255 q).1 (tG3 L M q)).2)])), (r, .inr (2, [.ref b, .int (nI L.length)])), (b, .inl (cB, cap, .inl f)), (w, .inr (1, [.ref a, .int (nI M.length), .int x, .int y, .int g, .int t])), (a, .inl (cI, 1024, .inl fw))]) (va_runV (As := [.int (tTake L 255 q).1]) (rest := []) ⟨hx, hb, hml, hown, hts⟩ (c_Rd_takeCode l dC dI cI cB cZ _ d r (tG3 L M q) b cap f L (tTake L 255 q).1 (by first | with_reducible assumption | omega | decide) (tG3_nx hq hL)) (cwV 1 hts (gV mw320 mw322 mw10 mw29 mw323) rfl rfl rfl (by decide +kernel) ⟨Nat.le_of_ble_eq_true rfl, Nat.le_of_ble_eq_true rfl⟩) (kpV (wc := [(d, .inr (3, [.ref r, .int (nI (rNx (tG3 L M q))), .int (nI (rAn (tG3 L M q))), .int (rFt (tG3 L M q)), .int (rPl (tG3 L M q))])), (r, .inr (2, [.ref b, .int (nI L.length)])), (b, .inl (cB, cap, .inl f))]) (q0 := 0) (ci := 3) hK hP hD [0, 1, 2] rfl (by decide) rfl rfl rfl) rfl rfl hl.1 rfl (lv_room (Nat.le_of_ble_eq_true rfl)) d_Rd_takeGroup_58 ⟨Nat.le_of_ble_eq_true rfl, Nat.le_of_ble_eq_true rfl⟩) hP hD hS hA [0, 1, 2] [3, 4] [2, 3, 4, 0, 1] rfl rfl (by decide) (by decide) (fun _ => rfl) (by decide) (fun _ => rfl) (fun r_58 u9 H locs hw hP hD hS => ?_)
    have hP : va_P (dC, dI) classes [(d, .inr (3, [.ref r, .int (nI (rNx (tCode L (tTake L 255 q).1 (tG3 L M q)).2)), .int (nI (rAn (tCode L (tTake L 255 q).1 (tG3 L M q)).2)), .int (rFt (tCode L (tTake L 255 q).1 (tG3 L M q)).2), .int (rPl (tCode L (tTake L 255 q).1 (tG3 L M q)).2)])), (r, .inr (2, [.ref b, .int (nI L.length)])), (b, .inl (cB, cap, .inl f)), (w, .inr (1, [.ref a, .int (nI M.length), .int x, .int y, .int g, .int t])), (a, .inl (cI, 1024, .inl fw))] H := hP
    have hD : va_D A [(d, .inr (3, [.ref r, .int (nI (rNx (tCode L (tTake L 255 q).1 (tG3 L M q)).2)), .int (nI (rAn (tCode L (tTake L 255 q).1 (tG3 L M q)).2)), .int (rFt (tCode L (tTake L 255 q).1 (tG3 L M q)).2), .int (rPl (tCode L (tTake L 255 q).1 (tG3 L M q)).2)])), (r, .inr (2, [.ref b, .int (nI L.length)])), (b, .inl (cB, cap, .inl f)), (w, .inr (1, [.ref a, .int (nI M.length), .int x, .int y, .int g, .int t])), (a, .inl (cI, 1024, .inl fw))] := hD
    have e_58 := hw
    refine kt_i e_58 ?_
    refine kt_i (y := (tG4 L M q).1) (rfl) ?_
    refine lv_istore (lv' := [(5, .int (tG4 L M q).1), (0, .ref d), (1, .ref w), (2, .int (nI (rNx q))), (3, .int (tTake L 255 q).1), (4, .int (nI (kN (tTake L 255 q).1)))]) hx hb d_Rd_takeGroup_61 hl (by decide) rfl (fun ls hl => ?_)
    have hn4 : rAn (tCode L (tTake L 255 q).1 (tG3 L M q)).2 ≤ 63 := by rw [tG4_an]; exact hn
    refine lv_aload_n hx hb d_Rd_takeGroup_63 rfl (lv_at hl 1 rfl) ?_
    refine va_get (D := (dC, dI)) (ci := 3) (v := .int (nI (rAn (tCode L (tTake L 255 q).1 (tG3 L M q)).2))) (C := "DemoTape$Reader") (T := F_Rd) (N := 5) hx hb hts i_Rd hown hK hP 0 rfl rfl 2 (by decide) (hts _ mw92) (fun _ h9 => h9) rfl d_Rd_takeGroup_64 ?_
    refine lv_bipush (v := 63) hx hb d_Rd_takeGroup_67 (by decide) ?_
    refine lv_icmp_ge (tgt := 93) hx hb d_Rd_takeGroup_69 (by decide) (fun c_69 => ?_) (fun c_69 => ?_)
    · have n_69 := kn_le (a := 63) (b := rAn (tCode L (tTake L 255 q).1 (tG3 L M q)).2) c_69 rfl rfl (by omega) (by omega)
      exact J_93 (tCode L (tTake L 255 q).1 (tG3 L M q)).2 (by first | with_reducible assumption | omega) (by exact (tG5_n (fun z => absurd z.1 (by show ¬ rAn (tG4 L M q).2 < 63; exact Nat.not_lt.mpr n_69))).symm) _ _ (hP.sub [0, 1, 2, 3, 4] (rfl)) (hD.sub [0, 1, 2, 3, 4] (by decide) (rfl)) hS ls (lv_sub hl [1, 2, 3, 4, 5, 0] rfl)
    · have n_69 := kn_nle (a := 63) (b := rAn (tCode L (tTake L 255 q).1 (tG3 L M q)).2) c_69 rfl rfl (by omega) (by omega)
      refine lv_aload_n hx hb d_Rd_takeGroup_72 rfl (lv_at hl 2 rfl) ?_
      refine lv_aload_n hx hb d_Rd_takeGroup_73 rfl (lv_at hl 2 rfl) ?_
      refine kq_i (wr := [(d, .inr (3, [.ref r, .int (nI (rNx (tCode L (tTake L 255 q).1 (tG3 L M q)).2)), .int (nI (rAn (tCode L (tTake L 255 q).1 (tG3 L M q)).2)), .int (rFt (tCode L (tTake L 255 q).1 (tG3 L M q)).2), .int (rPl (tCode L (tTake L 255 q).1 (tG3 L M q)).2)])), (r, .inr (2, [.ref b, .int (nI L.length)])), (b, .inl (cB, cap, .inl f))]) (va_runV (As := []) (rest := [.ref w]) ⟨hx, hb, hml, hown, hts⟩ (c_Walk_count l dC dI cI cB cZ _ w a fw M x y g t ) (cwV 0 hts (gV mw325 mw153 mw154 mw26 mw155) rfl rfl rfl (by decide +kernel) ⟨Nat.le_of_ble_eq_true rfl, Nat.le_of_ble_eq_true rfl⟩) (kpV (wc := [(w, .inr (1, [.ref a, .int (nI M.length), .int x, .int y, .int g, .int t])), (a, .inl (cI, 1024, .inl fw))]) (q0 := 3) (ci := 1) hK hP hD [3, 4] rfl (by decide) rfl rfl rfl) rfl rfl hl.1 rfl (lv_room (Nat.le_of_ble_eq_true rfl)) d_Rd_takeGroup_74 ⟨Nat.le_of_ble_eq_true rfl, Nat.le_of_ble_eq_true rfl⟩) hP hD hS hA [3, 4] [0, 1, 2] [0, 1, 2, 3, 4] rfl rfl (by decide) (by decide) rfl (fun r_74 H locs hw hP hS => ?_)
      have e_74 := hw
      refine kt_i e_74 ?_
      refine lv_iconst (v := 1) hx hb d_Rd_takeGroup_77 (by decide) ?_
      refine lv_isub hx hb d_Rd_takeGroup_78 ?_
      refine kq_i (wr := [(d, .inr (3, [.ref r, .int (nI (rNx (tCode L (tTake L 255 q).1 (tG3 L M q)).2)), .int (nI (rAn (tCode L (tTake L 255 q).1 (tG3 L M q)).2)), .int (rFt (tCode L (tTake L 255 q).1 (tG3 L M q)).2), .int (rPl (tCode L (tTake L 255 q).1 (tG3 L M q)).2)])), (r, .inr (2, [.ref b, .int (nI L.length)])), (b, .inl (cB, cap, .inl f))]) (va_runV (As := [.int ((nI M.length) - 1)]) (rest := []) ⟨hx, hb, hml, hown, hts⟩ (c_Walk_codeAt l dC dI cI cB cZ _ w a fw M x y g t ((nI M.length) - 1) (by first | with_reducible assumption | omega | decide)) (cwV 1 hts (gV mw326 mw174 mw175 mw26 mw176) rfl rfl rfl (by decide +kernel) ⟨Nat.le_of_ble_eq_true rfl, Nat.le_of_ble_eq_true rfl⟩) (kpV (wc := [(w, .inr (1, [.ref a, .int (nI M.length), .int x, .int y, .int g, .int t])), (a, .inl (cI, 1024, .inl fw))]) (q0 := 3) (ci := 1) hK hP hD [3, 4] rfl (by decide) rfl rfl rfl) rfl rfl hl.1 rfl (lv_room (Nat.le_of_ble_eq_true rfl)) d_Rd_takeGroup_79 ⟨Nat.le_of_ble_eq_true rfl, Nat.le_of_ble_eq_true rfl⟩) hP hD hS hA [3, 4] [0, 1, 2] [0, 1, 2, 3, 4] rfl rfl (by decide) (by decide) rfl (fun r_79 H locs hw hP hS => ?_)
      have e_79 := hw
      refine kt_i e_79 ?_
      refine lv_iload hx hb d_Rd_takeGroup_82 (lv_at hl 0 rfl) ?_
      refine lv_icmp_ne (tgt := 93) hx hb d_Rd_takeGroup_84 (by decide) (fun c_84 => ?_) (fun c_84 => ?_)
      · exact J_93 (tCode L (tTake L 255 q).1 (tG3 L M q)).2 (by first | with_reducible assumption | omega) (by exact (tG5_n (fun z => c_84 z.2)).symm) _ _ (hP.sub [0, 1, 2, 3, 4] (rfl)) (hD.sub [0, 1, 2, 3, 4] (by decide) (rfl)) hS ls (lv_sub hl [1, 2, 3, 4, 5, 0] rfl)
      · refine lv_aload_n hx hb d_Rd_takeGroup_87 rfl (lv_at hl 1 rfl) ?_
        refine lv_iconst (v := 4) hx hb d_Rd_takeGroup_88 (by decide) ?_
        refine lv_iload_n hx hb d_Rd_takeGroup_89 rfl (lv_at hl 3 rfl) ?_
        refine kc_v (wr := [(r, .inr (2, [.ref b, .int (nI L.length)])), (b, .inl (cB, cap, .inl f)), (w, .inr (1, [.ref a, .int (nI M.length), .int x, .int y, .int g, .int t])), (a, .inl (cI, 1024, .inl fw))]) (w2 := fun (_ : Unit) => [(d, .inr (3, [.ref r, .int (nI (rNx (rFail 4 (nI (rNx q)) (tCode L (tTake L 255 q).1 (tG3 L M q)).2))), .int (nI (rAn (rFail 4 (nI (rNx q)) (tCode L (tTake L 255 q).1 (tG3 L M q)).2))), .int (rFt (rFail 4 (nI (rNx q)) (tCode L (tTake L 255 q).1 (tG3 L M q)).2)), .int (rPl (rFail 4 (nI (rNx q)) (tCode L (tTake L 255 q).1 (tG3 L M q)).2))])), (r, .inr (2, [.ref b, .int (nI L.length)])), (b, .inl (cB, cap, .inl f)), (w, .inr (1, [.ref a, .int (nI M.length), .int x, .int y, .int g, .int t])), (a, .inl (cI, 1024, .inl fw))]) (va_runV (As := [.int 4, .int (nI (rNx q))]) (rest := []) ⟨hx, hb, hml, hown, hts⟩ (c_Rd_fail l dC dI cI cB cZ _ d r (tCode L (tTake L 255 q).1 (tG3 L M q)).2 4 (nI (rNx q)) ) (cwV 2 hts (gV mw297 mw299 mw5 mw29 mw300) rfl rfl rfl (by decide +kernel) ⟨Nat.le_of_ble_eq_true rfl, Nat.le_of_ble_eq_true rfl⟩) (kpV (wc := [(d, .inr (3, [.ref r, .int (nI (rNx (tCode L (tTake L 255 q).1 (tG3 L M q)).2)), .int (nI (rAn (tCode L (tTake L 255 q).1 (tG3 L M q)).2)), .int (rFt (tCode L (tTake L 255 q).1 (tG3 L M q)).2), .int (rPl (tCode L (tTake L 255 q).1 (tG3 L M q)).2)]))]) (q0 := 0) (ci := 3) hK hP hD [0] rfl (by decide) rfl rfl rfl) rfl rfl hl.1 rfl (lv_room (Nat.le_of_ble_eq_true rfl)) d_Rd_takeGroup_90 ⟨Nat.le_of_ble_eq_true rfl, Nat.le_of_ble_eq_true rfl⟩) hP hD hS hA [0] [1, 2, 3, 4] [4, 0, 1, 2, 3] rfl rfl (by decide) (by decide) (fun _ => rfl) (by decide) (fun _ => rfl) (fun u9 H locs hw hP hD hS => ?_)
        have hP : va_P (dC, dI) classes [(d, .inr (3, [.ref r, .int (nI (rNx (rFail 4 (nI (rNx q)) (tCode L (tTake L 255 q).1 (tG3 L M q)).2))), .int (nI (rAn (rFail 4 (nI (rNx q)) (tCode L (tTake L 255 q).1 (tG3 L M q)).2))), .int (rFt (rFail 4 (nI (rNx q)) (tCode L (tTake L 255 q).1 (tG3 L M q)).2)), .int (rPl (rFail 4 (nI (rNx q)) (tCode L (tTake L 255 q).1 (tG3 L M q)).2))])), (r, .inr (2, [.ref b, .int (nI L.length)])), (b, .inl (cB, cap, .inl f)), (w, .inr (1, [.ref a, .int (nI M.length), .int x, .int y, .int g, .int t])), (a, .inl (cI, 1024, .inl fw))] H := hP
        have hD : va_D A [(d, .inr (3, [.ref r, .int (nI (rNx (rFail 4 (nI (rNx q)) (tCode L (tTake L 255 q).1 (tG3 L M q)).2))), .int (nI (rAn (rFail 4 (nI (rNx q)) (tCode L (tTake L 255 q).1 (tG3 L M q)).2))), .int (rFt (rFail 4 (nI (rNx q)) (tCode L (tTake L 255 q).1 (tG3 L M q)).2)), .int (rPl (rFail 4 (nI (rNx q)) (tCode L (tTake L 255 q).1 (tG3 L M q)).2))])), (r, .inr (2, [.ref b, .int (nI L.length)])), (b, .inl (cB, cap, .inl f)), (w, .inr (1, [.ref a, .int (nI M.length), .int x, .int y, .int g, .int t])), (a, .inl (cI, 1024, .inl fw))] := hD
        exact J_93 (rFail 4 (nI (rNx q)) (tCode L (tTake L 255 q).1 (tG3 L M q)).2) (by first | with_reducible assumption | omega) (by exact (tG5_y ⟨n_69, c_84⟩).symm) _ _ (hP.sub [0, 1, 2, 3, 4] (rfl)) (hD.sub [0, 1, 2, 3, 4] (by decide) (rfl)) hS ls (lv_sub hl [1, 2, 3, 4, 5, 0] rfl)
  have J_41 : ∀ (z2 : RS), (¬ ((tTake L 255 q).1 = -1 ∨ (tTake L 255 q).1 = 0)) → (z2 = tG2 L q) → ∀ (H : Heap) (locs : List Loc), va_P (dC, dI) classes [(d, .inr (3, [.ref r, .int (nI (rNx z2)), .int (nI (rAn z2)), .int (rFt z2), .int (rPl z2)])), (r, .inr (2, [.ref b, .int (nI L.length)])), (b, .inl (cB, cap, .inl f)), (w, .inr (1, [.ref a, .int (nI M.length), .int x, .int y, .int g, .int t])), (a, .inl (cI, 1024, .inl fw))] H → va_D A [(d, .inr (3, [.ref r, .int (nI (rNx z2)), .int (nI (rAn z2)), .int (rFt z2), .int (rPl z2)])), (r, .inr (2, [.ref b, .int (nI L.length)])), (b, .inl (cB, cap, .inl f)), (w, .inr (1, [.ref a, .int (nI M.length), .int x, .int y, .int g, .int t])), (a, .inl (cI, 1024, .inl fw))] → va_S A s.heap H locs → ∀ (ls : Array Slot), lv_has ls 6 [(0, .ref d), (1, .ref w), (2, .int (nI (rNx q))), (3, .int (tTake L 255 q).1), (4, .int (nI (kN (tTake L 255 q).1)))] → W p l e (headSpec w_Rd_takeGroup ({ frames := 3, cells := 0, slots := 0, locals := 70 })).room s m [.ref d, .ref w].toArray below meth c H locs 0 0 (MQ below (Qc_Rd_takeGroup dC dI cI cB cZ d r q b cap f L w a fw M x y g t A) [.ref d, .ref w].toArray s 0 0 A) (F0 m 41 ls []) := by
    intro z2 hb1 h2 H locs hP hD hS ls hl
    refine lv_iload hx hb d_Rd_takeGroup_41 (lv_at hl 4 rfl) ?_
    refine lv_aload_n hx hb d_Rd_takeGroup_43 rfl (lv_at hl 1 rfl) ?_
    refine kq_i (wr := [(d, .inr (3, [.ref r, .int (nI (rNx z2)), .int (nI (rAn z2)), .int (rFt z2), .int (rPl z2)])), (r, .inr (2, [.ref b, .int (nI L.length)])), (b, .inl (cB, cap, .inl f))]) (va_runV (As := []) (rest := [.int (nI (kN (tTake L 255 q).1))]) ⟨hx, hb, hml, hown, hts⟩ (c_Walk_room l dC dI cI cB cZ _ w a fw M x y g t (by first | with_reducible assumption | omega | decide)) (cwV 0 hts (gV mw319 mw138 mw139 mw26 mw140) rfl rfl rfl (by decide +kernel) ⟨Nat.le_of_ble_eq_true rfl, Nat.le_of_ble_eq_true rfl⟩) (kpV (wc := [(w, .inr (1, [.ref a, .int (nI M.length), .int x, .int y, .int g, .int t])), (a, .inl (cI, 1024, .inl fw))]) (q0 := 3) (ci := 1) hK hP hD [3, 4] rfl (by decide) rfl rfl rfl) rfl rfl hl.1 rfl (lv_room (Nat.le_of_ble_eq_true rfl)) d_Rd_takeGroup_44 ⟨Nat.le_of_ble_eq_true rfl, Nat.le_of_ble_eq_true rfl⟩) hP hD hS hA [3, 4] [0, 1, 2] [0, 1, 2, 3, 4] rfl rfl (by decide) (by decide) rfl (fun r_44 H locs hw hP hS => ?_)
    have e_44 := hw
    refine kt_i e_44 ?_
    refine lv_icmp_le (tgt := 56) hx hb d_Rd_takeGroup_47 (by decide) (fun c_47 => ?_) (fun c_47 => ?_)
    · have n_47 := kn_le (a := kN (tTake L 255 q).1) (b := 1024 - M.length) c_47 rfl rfl (by omega) (by omega)
      exact J_56 z2 (by first | with_reducible assumption | omega) (by rw [h2]; exact (tG3_y n_47).symm) _ _ (hP.sub [0, 1, 2, 3, 4] (rfl)) (hD.sub [0, 1, 2, 3, 4] (by decide) (rfl)) hS ls (lv_sub hl [0, 1, 2, 3, 4] rfl)
    · have n_47 := kn_nle (a := kN (tTake L 255 q).1) (b := 1024 - M.length) c_47 rfl rfl (by omega) (by omega)
      refine lv_aload_n hx hb d_Rd_takeGroup_50 rfl (lv_at hl 0 rfl) ?_
      refine lv_iconst (v := 5) hx hb d_Rd_takeGroup_51 (by decide) ?_
      refine lv_iload_n hx hb d_Rd_takeGroup_52 rfl (lv_at hl 2 rfl) ?_
      refine kc_v (wr := [(r, .inr (2, [.ref b, .int (nI L.length)])), (b, .inl (cB, cap, .inl f)), (w, .inr (1, [.ref a, .int (nI M.length), .int x, .int y, .int g, .int t])), (a, .inl (cI, 1024, .inl fw))]) (w2 := fun (_ : Unit) => [(d, .inr (3, [.ref r, .int (nI (rNx (rFail 5 (nI (rNx q)) z2))), .int (nI (rAn (rFail 5 (nI (rNx q)) z2))), .int (rFt (rFail 5 (nI (rNx q)) z2)), .int (rPl (rFail 5 (nI (rNx q)) z2))])), (r, .inr (2, [.ref b, .int (nI L.length)])), (b, .inl (cB, cap, .inl f)), (w, .inr (1, [.ref a, .int (nI M.length), .int x, .int y, .int g, .int t])), (a, .inl (cI, 1024, .inl fw))]) (va_runV (As := [.int 5, .int (nI (rNx q))]) (rest := []) ⟨hx, hb, hml, hown, hts⟩ (c_Rd_fail l dC dI cI cB cZ _ d r z2 5 (nI (rNx q)) ) (cwV 2 hts (gV mw297 mw299 mw5 mw29 mw300) rfl rfl rfl (by decide +kernel) ⟨Nat.le_of_ble_eq_true rfl, Nat.le_of_ble_eq_true rfl⟩) (kpV (wc := [(d, .inr (3, [.ref r, .int (nI (rNx z2)), .int (nI (rAn z2)), .int (rFt z2), .int (rPl z2)]))]) (q0 := 0) (ci := 3) hK hP hD [0] rfl (by decide) rfl rfl rfl) rfl rfl hl.1 rfl (lv_room (Nat.le_of_ble_eq_true rfl)) d_Rd_takeGroup_53 ⟨Nat.le_of_ble_eq_true rfl, Nat.le_of_ble_eq_true rfl⟩) hP hD hS hA [0] [1, 2, 3, 4] [4, 0, 1, 2, 3] rfl rfl (by decide) (by decide) (fun _ => rfl) (by decide) (fun _ => rfl) (fun u9 H locs hw hP hD hS => ?_)
      have hP : va_P (dC, dI) classes [(d, .inr (3, [.ref r, .int (nI (rNx (rFail 5 (nI (rNx q)) z2))), .int (nI (rAn (rFail 5 (nI (rNx q)) z2))), .int (rFt (rFail 5 (nI (rNx q)) z2)), .int (rPl (rFail 5 (nI (rNx q)) z2))])), (r, .inr (2, [.ref b, .int (nI L.length)])), (b, .inl (cB, cap, .inl f)), (w, .inr (1, [.ref a, .int (nI M.length), .int x, .int y, .int g, .int t])), (a, .inl (cI, 1024, .inl fw))] H := hP
      have hD : va_D A [(d, .inr (3, [.ref r, .int (nI (rNx (rFail 5 (nI (rNx q)) z2))), .int (nI (rAn (rFail 5 (nI (rNx q)) z2))), .int (rFt (rFail 5 (nI (rNx q)) z2)), .int (rPl (rFail 5 (nI (rNx q)) z2))])), (r, .inr (2, [.ref b, .int (nI L.length)])), (b, .inl (cB, cap, .inl f)), (w, .inr (1, [.ref a, .int (nI M.length), .int x, .int y, .int g, .int t])), (a, .inl (cI, 1024, .inl fw))] := hD
      exact J_56 (rFail 5 (nI (rNx q)) z2) (by first | with_reducible assumption | omega) (by rw [h2]; exact (tG3_n n_47).symm) _ _ (hP.sub [0, 1, 2, 3, 4] (rfl)) (hD.sub [0, 1, 2, 3, 4] (by decide) (rfl)) hS ls (lv_sub hl [0, 1, 2, 3, 4] rfl)
  refine lv_aload_n hx hb d_Rd_takeGroup_0 rfl (lv_at hl 0 rfl) ?_
  refine va_get (D := (dC, dI)) (ci := 3) (v := .int (nI (rNx q))) (C := "DemoTape$Reader") (T := F_Rd) (N := 5) hx hb hts i_Rd hown hK hP 0 rfl rfl 1 (by decide) (hts _ mw91) (fun _ h9 => h9) rfl d_Rd_takeGroup_1 ?_
  refine lv_istore_n (lv' := [(2, .int (nI (rNx q))), (0, .ref d), (1, .ref w)]) hx hb d_Rd_takeGroup_4 rfl hl (by decide) rfl (fun ls hl => ?_)
  refine lv_aload_n hx hb d_Rd_takeGroup_5 rfl (lv_at hl 1 rfl) ?_
  refine lv_sipush (v := 255) hx hb d_Rd_takeGroup_6 (by decide) ?_
  refine kc_i (wr := [(w, .inr (1, [.ref a, .int (nI M.length), .int x, .int y, .int g, .int t])), (a, .inl (cI, 1024, .inl fw))]) (w2 := fun (_ : Unit) => [(d, .inr (3, [.ref r, .int (nI (rNx (tTake L 255 q).2)), .int (nI (rAn (tTake L 255 q).2)), .int (rFt (tTake L 255 q).2), .int (rPl (tTake L 255 q).2)])), (r, .inr (2, [.ref b, .int (nI L.length)])), (b, .inl (cB, cap, .inl f)), (w, .inr (1, [.ref a, .int (nI M.length), .int x, .int y, .int g, .int t])), (a, .inl (cI, 1024, .inl fw))]) (va_runV (As := [.int 255]) (rest := []) ⟨hx, hb, hml, hown, hts⟩ (c_Rd_take l dC dI cI cB cZ _ d r q b cap f L 255 (by first | with_reducible assumption | omega | decide) (by first | with_reducible assumption | omega | decide)) (cwV 1 hts (gV mw292 mw294 mw4 mw29 mw295) rfl rfl rfl (by decide +kernel) ⟨Nat.le_of_ble_eq_true rfl, Nat.le_of_ble_eq_true rfl⟩) (kpV (wc := [(d, .inr (3, [.ref r, .int (nI (rNx q)), .int (nI (rAn q)), .int (rFt q), .int (rPl q)])), (r, .inr (2, [.ref b, .int (nI L.length)])), (b, .inl (cB, cap, .inl f))]) (q0 := 0) (ci := 3) hK hP hD [0, 1, 2] rfl (by decide) rfl rfl rfl) rfl rfl hl.1 rfl (lv_room (Nat.le_of_ble_eq_true rfl)) d_Rd_takeGroup_9 ⟨Nat.le_of_ble_eq_true rfl, Nat.le_of_ble_eq_true rfl⟩) hP hD hS hA [0, 1, 2] [3, 4] [2, 3, 4, 0, 1] rfl rfl (by decide) (by decide) (fun _ => rfl) (by decide) (fun _ => rfl) (fun r_9 u9 H locs hw hP hD hS => ?_)
  have hP : va_P (dC, dI) classes [(d, .inr (3, [.ref r, .int (nI (rNx (tTake L 255 q).2)), .int (nI (rAn (tTake L 255 q).2)), .int (rFt (tTake L 255 q).2), .int (rPl (tTake L 255 q).2)])), (r, .inr (2, [.ref b, .int (nI L.length)])), (b, .inl (cB, cap, .inl f)), (w, .inr (1, [.ref a, .int (nI M.length), .int x, .int y, .int g, .int t])), (a, .inl (cI, 1024, .inl fw))] H := hP
  have hD : va_D A [(d, .inr (3, [.ref r, .int (nI (rNx (tTake L 255 q).2)), .int (nI (rAn (tTake L 255 q).2)), .int (rFt (tTake L 255 q).2), .int (rPl (tTake L 255 q).2)])), (r, .inr (2, [.ref b, .int (nI L.length)])), (b, .inl (cB, cap, .inl f)), (w, .inr (1, [.ref a, .int (nI M.length), .int x, .int y, .int g, .int t])), (a, .inl (cI, 1024, .inl fw))] := hD
  have e_9 := hw
  refine kt_i e_9 ?_
  refine lv_istore_n (lv' := [(3, .int (tTake L 255 q).1), (2, .int (nI (rNx q))), (0, .ref d), (1, .ref w)]) hx hb d_Rd_takeGroup_12 rfl hl (by decide) rfl (fun ls hl => ?_)
  refine lv_iload_n hx hb d_Rd_takeGroup_13 rfl (lv_at hl 0 rfl) ?_
  refine lv_iconst (v := -1) hx hb d_Rd_takeGroup_14 (by decide) ?_
  refine lv_icmp_eq (tgt := 22) hx hb d_Rd_takeGroup_15 (by decide) (fun c_15 => ?_) (fun c_15 => ?_)
  · refine lv_iconst (v := 0) hx hb d_Rd_takeGroup_22 (by decide) ?_
    exact kr_i (v := 0) fw hx hb hr (by decide) hK (hP.sub [0, 1, 2, 3, 4] (by rw [tGroup_0 (Or.inl c_15)]; first | done | rfl)) (hD.sub [0, 1, 2, 3, 4] (by decide) (by rw [tGroup_0 (Or.inl c_15)]; first | done | rfl)) hS ⟨by rw [tGroup_0 (Or.inl c_15)], by rw [tGroup_0 (Or.inl c_15)]; exact hW⟩ d_Rd_takeGroup_23 hlocks
  · refine lv_iload_n hx hb d_Rd_takeGroup_18 rfl (lv_at hl 0 rfl) ?_
    refine lv_if_ne (tgt := 24) hx hb d_Rd_takeGroup_19 (by decide) (fun c_19 => ?_) (fun c_19 => ?_)
    · refine lv_iload_n hx hb d_Rd_takeGroup_24 rfl (lv_at hl 0 rfl) ?_
      refine lv_bipush (v := 63) hx hb d_Rd_takeGroup_25 (by decide) ?_
      refine lv_iand hx hb d_Rd_takeGroup_27 ?_
      refine kt_i (y := nI (kN (tTake L 255 q).1)) (kN_eq _) ?_
      refine lv_istore (lv' := [(4, .int (nI (kN (tTake L 255 q).1))), (3, .int (tTake L 255 q).1), (2, .int (nI (rNx q))), (0, .ref d), (1, .ref w)]) hx hb d_Rd_takeGroup_28 hl (by decide) rfl (fun ls hl => ?_)
      refine lv_iload hx hb d_Rd_takeGroup_30 (lv_at hl 0 rfl) ?_
      refine lv_if_ne (tgt := 41) hx hb d_Rd_takeGroup_32 (by decide) (fun c_32 => ?_) (fun c_32 => ?_)
      · have n_32 := kn_ne (a := kN (tTake L 255 q).1) (b := 0) c_32 rfl rfl (by omega) (by omega)
        exact J_41 (tTake L 255 q).2 (fun z => z.elim c_15 c_19) ((tG2_n n_32).symm) _ _ (hP.sub [0, 1, 2, 3, 4] (rfl)) (hD.sub [0, 1, 2, 3, 4] (by decide) (rfl)) hS ls (lv_sub hl [3, 4, 2, 1, 0] rfl)
      · have n_32 := kn_eq (a := kN (tTake L 255 q).1) (b := 0) (by first | exact c_32 | exact Decidable.not_not.mp c_32) rfl rfl (by omega) (by omega)
        refine lv_aload_n hx hb d_Rd_takeGroup_35 rfl (lv_at hl 3 rfl) ?_
        refine lv_iconst (v := 3) hx hb d_Rd_takeGroup_36 (by decide) ?_
        refine lv_iload_n hx hb d_Rd_takeGroup_37 rfl (lv_at hl 2 rfl) ?_
        refine kc_v (wr := [(r, .inr (2, [.ref b, .int (nI L.length)])), (b, .inl (cB, cap, .inl f)), (w, .inr (1, [.ref a, .int (nI M.length), .int x, .int y, .int g, .int t])), (a, .inl (cI, 1024, .inl fw))]) (w2 := fun (_ : Unit) => [(d, .inr (3, [.ref r, .int (nI (rNx (rFail 3 (nI (rNx q)) (tTake L 255 q).2))), .int (nI (rAn (rFail 3 (nI (rNx q)) (tTake L 255 q).2))), .int (rFt (rFail 3 (nI (rNx q)) (tTake L 255 q).2)), .int (rPl (rFail 3 (nI (rNx q)) (tTake L 255 q).2))])), (r, .inr (2, [.ref b, .int (nI L.length)])), (b, .inl (cB, cap, .inl f)), (w, .inr (1, [.ref a, .int (nI M.length), .int x, .int y, .int g, .int t])), (a, .inl (cI, 1024, .inl fw))]) (va_runV (As := [.int 3, .int (nI (rNx q))]) (rest := []) ⟨hx, hb, hml, hown, hts⟩ (c_Rd_fail l dC dI cI cB cZ _ d r (tTake L 255 q).2 3 (nI (rNx q)) ) (cwV 2 hts (gV mw297 mw299 mw5 mw29 mw300) rfl rfl rfl (by decide +kernel) ⟨Nat.le_of_ble_eq_true rfl, Nat.le_of_ble_eq_true rfl⟩) (kpV (wc := [(d, .inr (3, [.ref r, .int (nI (rNx (tTake L 255 q).2)), .int (nI (rAn (tTake L 255 q).2)), .int (rFt (tTake L 255 q).2), .int (rPl (tTake L 255 q).2)]))]) (q0 := 0) (ci := 3) hK hP hD [0] rfl (by decide) rfl rfl rfl) rfl rfl hl.1 rfl (lv_room (Nat.le_of_ble_eq_true rfl)) d_Rd_takeGroup_38 ⟨Nat.le_of_ble_eq_true rfl, Nat.le_of_ble_eq_true rfl⟩) hP hD hS hA [0] [1, 2, 3, 4] [4, 0, 1, 2, 3] rfl rfl (by decide) (by decide) (fun _ => rfl) (by decide) (fun _ => rfl) (fun u9 H locs hw hP hD hS => ?_)
        have hP : va_P (dC, dI) classes [(d, .inr (3, [.ref r, .int (nI (rNx (rFail 3 (nI (rNx q)) (tTake L 255 q).2))), .int (nI (rAn (rFail 3 (nI (rNx q)) (tTake L 255 q).2))), .int (rFt (rFail 3 (nI (rNx q)) (tTake L 255 q).2)), .int (rPl (rFail 3 (nI (rNx q)) (tTake L 255 q).2))])), (r, .inr (2, [.ref b, .int (nI L.length)])), (b, .inl (cB, cap, .inl f)), (w, .inr (1, [.ref a, .int (nI M.length), .int x, .int y, .int g, .int t])), (a, .inl (cI, 1024, .inl fw))] H := hP
        have hD : va_D A [(d, .inr (3, [.ref r, .int (nI (rNx (rFail 3 (nI (rNx q)) (tTake L 255 q).2))), .int (nI (rAn (rFail 3 (nI (rNx q)) (tTake L 255 q).2))), .int (rFt (rFail 3 (nI (rNx q)) (tTake L 255 q).2)), .int (rPl (rFail 3 (nI (rNx q)) (tTake L 255 q).2))])), (r, .inr (2, [.ref b, .int (nI L.length)])), (b, .inl (cB, cap, .inl f)), (w, .inr (1, [.ref a, .int (nI M.length), .int x, .int y, .int g, .int t])), (a, .inl (cI, 1024, .inl fw))] := hD
        exact J_41 (rFail 3 (nI (rNx q)) (tTake L 255 q).2) (fun z => z.elim c_15 c_19) ((tG2_y n_32).symm) _ _ (hP.sub [0, 1, 2, 3, 4] (rfl)) (hD.sub [0, 1, 2, 3, 4] (by decide) (rfl)) hS ls (lv_sub hl [3, 4, 2, 1, 0] rfl)
    · refine lv_iconst (v := 0) hx hb d_Rd_takeGroup_22 (by decide) ?_
      exact kr_i (v := 0) fw hx hb hr (by decide) hK (hP.sub [0, 1, 2, 3, 4] (by rw [tGroup_0 (Or.inr c_19)]; first | done | rfl)) (hD.sub [0, 1, 2, 3, 4] (by decide) (by rw [tGroup_0 (Or.inr c_19)]; first | done | rfl)) hS ⟨by rw [tGroup_0 (Or.inr c_19)], by rw [tGroup_0 (Or.inr c_19)]; exact hW⟩ d_Rd_takeGroup_23 hlocks
abbrev Qc_Rd_takeGroups (dC : Nat → ClassId) (dI : Nat → Nat → Nat) (cI cB cZ : ClassId) (d : Nat) (r : Nat) (q : RS) (b : Nat) (cap : Nat) (f : Nat → Int32) (L : List Nat) (w : Nat) (a : Nat) (fw : Nat → Int32) (M : List Int32) (x : Int32) (y : Int32) (g : Int32) (t : Int32) (A : Nat → Prop) := va_Qv (fun (u9 : (Nat → Int32)) => (WRow u9 (tGroups L 1025 M q).1)) (ka (dC, dI) classes [(cI, .int), (cB, .byte), (cZ, .boolean)] (fun (u9 : (Nat → Int32)) => [(d, .inr (3, [.ref r, .int (nI (rNx (tGroups L 1025 M q).2)), .int (nI (rAn (tGroups L 1025 M q).2)), .int (rFt (tGroups L 1025 M q).2), .int (rPl (tGroups L 1025 M q).2)])), (r, .inr (2, [.ref b, .int (nI L.length)])), (b, .inl (cB, cap, .inl f)), (w, .inr (1, [.ref a, .int (nI (tGroups L 1025 M q).1.length), .int x, .int y, .int g, .int t])), (a, .inl (cI, 1024, .inl u9))]) A) A
set_option maxHeartbeats 1000000 in
set_option maxRecDepth 100000 in
/-- Reader.takeGroups -/
theorem c_Rd_takeGroups (l : Launch) (dC : Nat → ClassId) (dI : Nat → Nat → Nat) (cI cB cZ : ClassId) (sz : Nat) (d : Nat) (r : Nat) (q : RS) (b : Nat) (cap : Nat) (f : Nat → Int32) (L : List Nat) (w : Nat) (a : Nat) (fw : Nat → Int32) (M : List Int32) (x : Int32) (y : Int32) (g : Int32) (t : Int32) (hB : BRow cap f L) (hq : rNx q ≤ L.length) (hW : WRow fw M) (hn : rAn q ≤ 63) : Met l y_Rd_takeGroups w_Rd_takeGroups ({ frames := 4, cells := 0, slots := 0, locals := 95 }) (va_Pc [.ref d, .ref w] (kp (dC, dI) classes [(cI, .int), (cB, .byte), (cZ, .boolean)] [(d, .inr (3, [.ref r, .int (nI (rNx q)), .int (nI (rAn q)), .int (rFt q), .int (rPl q)])), (r, .inr (2, [.ref b, .int (nI L.length)])), (b, .inl (cB, cap, .inl f)), (w, .inr (1, [.ref a, .int (nI M.length), .int x, .int y, .int g, .int t])), (a, .inl (cI, 1024, .inl fw))] sz)) (Qc_Rd_takeGroups dC dI cI cB cZ d r q b cap f L w a fw M x y g t (va_A [(d, .inr (3, [.ref r, .int (nI (rNx q)), .int (nI (rAn q)), .int (rFt q), .int (rPl q)])), (r, .inr (2, [.ref b, .int (nI L.length)])), (b, .inl (cB, cap, .inl f)), (w, .inr (1, [.ref a, .int (nI M.length), .int x, .int y, .int g, .int t])), (a, .inl (cI, 1024, .inl fw))] sz)) 0 0 (va_A [(d, .inr (3, [.ref r, .int (nI (rNx q)), .int (nI (rAn q)), .int (rFt q), .int (rPl q)])), (r, .inr (2, [.ref b, .int (nI L.length)])), (b, .inl (cB, cap, .inl f)), (w, .inr (1, [.ref a, .int (nI M.length), .int x, .int y, .int g, .int t])), (a, .inl (cI, 1024, .inl fw))] sz) := by
  refine Met.ofW (cc := prog_4_method_11_code) (maxL := 4) (ret := none) (by decide) rfl ?_
  intro p e s m args below meth c s₁ B hml hv
  obtain ⟨rfl, hsz, hP, hK, hD0⟩ := hv
  have hx := B.exec
  have hb := B.bytes
  have hr := B.returns
  have hts := fun w h => atoms_spec (ws := w_Rd_takeGroups) B.pre w (List.mem_cons_of_mem _ h)
  have hown : s.vm.findClass "DemoTape$Reader" = some m.cls := findClass_of_methodNamed B.named
  have hlocks := B.notSynchronized
  subst hsz
  have hD := hD0.self (sz := s.heap.size)
  generalize hAe : va_A ([(d, .inr (3, [.ref r, .int (nI (rNx q)), .int (nI (rAn q)), .int (rFt q), .int (rPl q)])), (r, .inr (2, [.ref b, .int (nI L.length)])), (b, .inl (cB, cap, .inl f)), (w, .inr (1, [.ref a, .int (nI M.length), .int x, .int y, .int g, .int t])), (a, .inl (cI, 1024, .inl fw))] : va_W) s.heap.size = A at hD ⊢
  have hA : ∀ q : Nat, s.heap.size ≤ q → A q := fun q h => by rw [← hAe]; exact Or.inr h
  have hS : va_S A s.heap s.heap [] := va_S.rf
  have hP : va_P (dC, dI) classes [(d, .inr (3, [.ref r, .int (nI (rNx q)), .int (nI (rAn q)), .int (rFt q), .int (rPl q)])), (r, .inr (2, [.ref b, .int (nI L.length)])), (b, .inl (cB, cap, .inl f)), (w, .inr (1, [.ref a, .int (nI M.length), .int x, .int y, .int g, .int t])), (a, .inl (cI, 1024, .inl fw))] s.heap := hP
  have hL : L.length ≤ 8192 := Nat.le_trans hB.2.2.1 hB.2.2.2
  have hl := lv_entry ([.ref d, .ref w]) (n := 4) (Nat.le_of_ble_eq_true rfl)
  rw [lg_entry_eq]
  generalize (lg_sl ([.ref d, .ref w]) ++ List.replicate (4 - (lg_sl ([.ref d, .ref w])).length) Slot.unset).toArray = ls at hl ⊢
  have hl : lv_has ls 4 [(0, .ref d), (1, .ref w)] := hl
  have J_4 : ∀ (fuel : Nat) (go9 : Int32) (n9 : Nat) (M9 : List Int32) (f9 : Nat → Int32) (q9 : RS), (1025 - n9 < fuel) → (n9 ≤ 1025) → (tGroups L 1025 M q = if go9 = 0 then (M9, q9) else tGroups L (1025 - n9) M9 q9) → (WRow f9 M9) → (rNx q9 ≤ L.length) → (rAn q9 ≤ 63) → ∀ (H : Heap) (locs : List Loc), va_P (dC, dI) classes [(d, .inr (3, [.ref r, .int (nI (rNx q9)), .int (nI (rAn q9)), .int (rFt q9), .int (rPl q9)])), (r, .inr (2, [.ref b, .int (nI L.length)])), (b, .inl (cB, cap, .inl f)), (w, .inr (1, [.ref a, .int (nI M9.length), .int x, .int y, .int g, .int t])), (a, .inl (cI, 1024, .inl f9))] H → va_D A [(d, .inr (3, [.ref r, .int (nI (rNx q9)), .int (nI (rAn q9)), .int (rFt q9), .int (rPl q9)])), (r, .inr (2, [.ref b, .int (nI L.length)])), (b, .inl (cB, cap, .inl f)), (w, .inr (1, [.ref a, .int (nI M9.length), .int x, .int y, .int g, .int t])), (a, .inl (cI, 1024, .inl f9))] → va_S A s.heap H locs → ∀ (ls : Array Slot), lv_has ls 4 [(0, .ref d), (1, .ref w), (2, .int go9), (3, .int (nI n9))] → W p l e (headSpec w_Rd_takeGroups ({ frames := 4, cells := 0, slots := 0, locals := 95 })).room s m [.ref d, .ref w].toArray below meth c H locs 0 0 (MQ below (Qc_Rd_takeGroups dC dI cI cB cZ d r q b cap f L w a fw M x y g t A) [.ref d, .ref w].toArray s 0 0 A) (F0 m 4 ls []) := by
    intro fuel
    induction fuel with
    | zero => intro go9 n9 M9 f9 q9 hm; exact absurd hm (Nat.not_lt_zero _)
    | succ fuel ih_4 =>
      intro go9 n9 M9 f9 q9 hm hn9 he hW9 hq9 ha9 H locs hP hD hS ls hl
      refine lv_iload_n hx hb d_Rd_takeGroups_4 rfl (lv_at hl 2 rfl) ?_
      refine lv_if_eq (tgt := 27) hx hb d_Rd_takeGroups_5 (by decide) (fun c_5 => ?_) (fun c_5 => ?_)
      · have e9 : tGroups L 1025 M q = (M9, q9) := by rw [he, if_pos c_5]
        exact kr_v f9 hx hb hr hK (hP.sub [0, 1, 2, 3, 4] (by rw [e9]; first | done | rfl)) (hD.sub [0, 1, 2, 3, 4] (by decide) (by rw [e9]; first | done | rfl)) hS (by rw [e9]; exact hW9) d_Rd_takeGroups_27 hlocks
      · refine lv_iload_n hx hb d_Rd_takeGroups_8 rfl (lv_at hl 3 rfl) ?_
        refine lv_sipush (v := 1024) hx hb d_Rd_takeGroups_9 (by decide) ?_
        refine lv_icmp_gt (tgt := 27) hx hb d_Rd_takeGroups_12 (by decide) (fun c_12 => ?_) (fun c_12 => ?_)
        · have n_12 := kn_lt (a := 1024) (b := n9) c_12 rfl rfl (by omega) (by omega)
          have e9 : tGroups L 1025 M q = (M9, q9) := by rw [he, if_neg c_5, show 1025 - n9 = 0 by omega]; rfl
          exact kr_v f9 hx hb hr hK (hP.sub [0, 1, 2, 3, 4] (by rw [e9]; first | done | rfl)) (hD.sub [0, 1, 2, 3, 4] (by decide) (by rw [e9]; first | done | rfl)) hS (by rw [e9]; exact hW9) d_Rd_takeGroups_27 hlocks
        · have n_12 := kn_nlt (a := 1024) (b := n9) c_12 rfl rfl (by omega) (by omega)
          refine lv_aload_n hx hb d_Rd_takeGroups_15 rfl (lv_at hl 0 rfl) ?_
          refine lv_aload_n hx hb d_Rd_takeGroups_16 rfl (lv_at hl 1 rfl) ?_
          refine kc_i (wr := []) (w2 := fun (u9 : (Nat → Int32)) => [(d, .inr (3, [.ref r, .int (nI (rNx (tGroup L M9 q9).2.2)), .int (nI (rAn (tGroup L M9 q9).2.2)), .int (rFt (tGroup L M9 q9).2.2), .int (rPl (tGroup L M9 q9).2.2)])), (r, .inr (2, [.ref b, .int (nI L.length)])), (b, .inl (cB, cap, .inl f)), (w, .inr (1, [.ref a, .int (nI (tGroup L M9 q9).2.1.length), .int x, .int y, .int g, .int t])), (a, .inl (cI, 1024, .inl u9))]) (va_runV (As := [.ref w]) (rest := []) ⟨hx, hb, hml, hown, hts⟩ (c_Rd_takeGroup l dC dI cI cB cZ _ d r q9 b cap f L w a f9 M9 x y g t (by first | with_reducible assumption | omega | decide) (by first | with_reducible assumption | omega | decide) (by first | with_reducible assumption | omega | decide) (by first | with_reducible assumption | omega | decide)) (cwV 1 hts (gV mw315 mw317 mw9 mw29 mw318) rfl rfl rfl (by decide +kernel) ⟨Nat.le_of_ble_eq_true rfl, Nat.le_of_ble_eq_true rfl⟩) (kpV (wc := [(d, .inr (3, [.ref r, .int (nI (rNx q9)), .int (nI (rAn q9)), .int (rFt q9), .int (rPl q9)])), (r, .inr (2, [.ref b, .int (nI L.length)])), (b, .inl (cB, cap, .inl f)), (w, .inr (1, [.ref a, .int (nI M9.length), .int x, .int y, .int g, .int t])), (a, .inl (cI, 1024, .inl f9))]) (q0 := 0) (ci := 3) hK hP hD [0, 1, 2, 3, 4] rfl (by decide) rfl rfl rfl) rfl rfl hl.1 rfl (lv_room (Nat.le_of_ble_eq_true rfl)) d_Rd_takeGroups_17 ⟨Nat.le_of_ble_eq_true rfl, Nat.le_of_ble_eq_true rfl⟩) hP hD hS hA [0, 1, 2, 3, 4] [] [0, 1, 2, 3, 4] rfl rfl (by decide) (by decide) (fun _ => rfl) (by decide) (fun _ => rfl) (fun r_17 u9 H locs hw hP hD hS => ?_)
          obtain ⟨fw1_17, rfl⟩ : ∃ z, z = u9 := ⟨_, rfl⟩
          try dsimp only at hw
          have hP : va_P (dC, dI) classes [(d, .inr (3, [.ref r, .int (nI (rNx (tGroup L M9 q9).2.2)), .int (nI (rAn (tGroup L M9 q9).2.2)), .int (rFt (tGroup L M9 q9).2.2), .int (rPl (tGroup L M9 q9).2.2)])), (r, .inr (2, [.ref b, .int (nI L.length)])), (b, .inl (cB, cap, .inl f)), (w, .inr (1, [.ref a, .int (nI (tGroup L M9 q9).2.1.length), .int x, .int y, .int g, .int t])), (a, .inl (cI, 1024, .inl fw1_17))] H := hP
          have hD : va_D A [(d, .inr (3, [.ref r, .int (nI (rNx (tGroup L M9 q9).2.2)), .int (nI (rAn (tGroup L M9 q9).2.2)), .int (rFt (tGroup L M9 q9).2.2), .int (rPl (tGroup L M9 q9).2.2)])), (r, .inr (2, [.ref b, .int (nI L.length)])), (b, .inl (cB, cap, .inl f)), (w, .inr (1, [.ref a, .int (nI (tGroup L M9 q9).2.1.length), .int x, .int y, .int g, .int t])), (a, .inl (cI, 1024, .inl fw1_17))] := hD
          obtain ⟨e_17, hW_17⟩ := hw
          refine kt_i e_17 ?_
          refine lv_istore_n (lv' := [(2, .int (tGroup L M9 q9).1), (0, .ref d), (1, .ref w), (3, .int (nI n9))]) hx hb d_Rd_takeGroups_20 rfl hl (by decide) rfl (fun ls hl => ?_)
          refine lv_iinc (v := nI (n9 + 1)) (lv' := [(3, .int (nI (n9 + 1))), (2, .int (tGroup L M9 q9).1), (0, .ref d), (1, .ref w)]) hx hb d_Rd_takeGroups_21 hl (k := 3) rfl (by first | rfl | exact nI_1 _) (by decide) rfl (fun ls hl => ?_)
          refine lv_goto (tgt := 4) hx hb d_Rd_takeGroups_24 (by decide) ?_
          exact ih_4 (tGroup L M9 q9).1 (n9 + 1) (tGroup L M9 q9).2.1 fw1_17 (tGroup L M9 q9).2.2 (by omega) (by first | with_reducible assumption | omega) (by rw [he, if_neg c_5]; exact tGroups_step (by omega)) (hW_17) (tGroup_nx hq9 hL) (tGroup_an ha9) _ _ (hP.sub [0, 1, 2, 3, 4] (rfl)) (hD.sub [0, 1, 2, 3, 4] (by decide) (rfl)) hS ls (lv_sub hl [2, 3, 1, 0] rfl)
  refine lv_iconst (v := 1) hx hb d_Rd_takeGroups_0 (by decide) ?_
  refine lv_istore_n (lv' := [(2, .int 1), (0, .ref d), (1, .ref w)]) hx hb d_Rd_takeGroups_1 rfl hl (by decide) rfl (fun ls hl => ?_)
  refine lv_iconst (v := 0) hx hb d_Rd_takeGroups_2 (by decide) ?_
  refine lv_istore_n (lv' := [(3, .int 0), (2, .int 1), (0, .ref d), (1, .ref w)]) hx hb d_Rd_takeGroups_3 rfl hl (by decide) rfl (fun ls hl => ?_)
  exact J_4 _ 1 0 M fw q (Nat.lt_succ_self _) (by first | with_reducible assumption | omega) ((if_neg (by decide)).symm) (hW) (hq) (hn) _ _ (hP.sub [0, 1, 2, 3, 4] (rfl)) (hD.sub [0, 1, 2, 3, 4] (by decide) (rfl)) hS ls (lv_sub hl [2, 3, 1, 0] rfl)
