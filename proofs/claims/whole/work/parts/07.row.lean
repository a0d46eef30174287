abbrev Qc_Row_size (dC : Nat → ClassId) (dI : Nat → Nat → Nat) (cI cB cZ : ClassId) (r : Nat) (b : Nat) (cap : Nat) (f : Nat → Int32) (L : List Nat) (A : Nat → Prop) := va_Qi (fun (r9 : Int32) (_ : Unit) => (r9 = nI L.length)) (ka (dC, dI) classes [(cI, .int), (cB, .byte), (cZ, .boolean)] (fun (_ : Unit) => [(r, .inr (2, [.ref b, .int (nI L.length)])), (b, .inl (cB, cap, .inl f))]) A) A
set_option maxHeartbeats 1000000 in
set_option maxRecDepth 100000 in
/-- ByteRow.size -/
theorem c_Row_size (l : Launch) (dC : Nat → ClassId) (dI : Nat → Nat → Nat) (cI cB cZ : ClassId) (sz : Nat) (r : Nat) (b : Nat) (cap : Nat) (f : Nat → Int32) (L : List Nat)  : Met l y_Row_size w_Row_size ({ frames := 0, cells := 0, slots := 0, locals := 0 }) (va_Pc [.ref r] (kp (dC, dI) classes [(cI, .int), (cB, .byte), (cZ, .boolean)] [(r, .inr (2, [.ref b, .int (nI L.length)])), (b, .inl (cB, cap, .inl f))] sz)) (Qc_Row_size dC dI cI cB cZ r b cap f L (va_A [(r, .inr (2, [.ref b, .int (nI L.length)])), (b, .inl (cB, cap, .inl f))] sz)) 0 0 (va_A [(r, .inr (2, [.ref b, .int (nI L.length)])), (b, .inl (cB, cap, .inl f))] sz) := by
  refine Met.ofW (cc := prog_2_method_2_code) (maxL := 1) (ret := (some .int)) (by decide) rfl ?_
  intro p e s m args below meth c s₁ B hml hv
  obtain ⟨rfl, hsz, hP, hK, hD0⟩ := hv
  have hx := B.exec
  have hb := B.bytes
  have hr := B.returns
  have hts := fun w h => atoms_spec (ws := w_Row_size) B.pre w (List.mem_cons_of_mem _ h)
  have hown : s.vm.findClass "DemoTape$ByteRow" = some m.cls := findClass_of_methodNamed B.named
  have hlocks := B.notSynchronized
  subst hsz
  have hD := hD0.self (sz := s.heap.size)
  generalize hAe : va_A ([(r, .inr (2, [.ref b, .int (nI L.length)])), (b, .inl (cB, cap, .inl f))] : va_W) s.heap.size = A at hD ⊢
  have hA : ∀ q : Nat, s.heap.size ≤ q → A q := fun q h => by rw [← hAe]; exact Or.inr h
  have hS : va_S A s.heap s.heap [] := va_S.rf
  have hP : va_P (dC, dI) classes [(r, .inr (2, [.ref b, .int (nI L.length)])), (b, .inl (cB, cap, .inl f))] s.heap := hP
  have hl := lv_entry ([.ref r]) (n := 1) (Nat.le_of_ble_eq_true rfl)
  rw [lg_entry_eq]
  generalize (lg_sl ([.ref r]) ++ List.replicate (1 - (lg_sl ([.ref r])).length) Slot.unset).toArray = ls at hl ⊢
  have hl : lv_has ls 1 [(0, .ref r)] := hl
  refine lv_aload_n hx hb d_Row_size_0 rfl (lv_at hl 0 rfl) ?_
  refine va_get (D := (dC, dI)) (ci := 2) (v := .int (nI L.length)) (C := "DemoTape$ByteRow") (T := F_Row) (N := 2) hx hb hts i_Row hown hK hP 0 rfl rfl 1 (by decide) (hts _ mw77) (fun _ h9 => h9) rfl d_Row_size_1 ?_
  exact kr_i (v := nI L.length) () hx hb hr rfl hK (hP.sub [0, 1] (rfl)) (hD.sub [0, 1] (by decide) (rfl)) hS (by first | with_reducible rfl | with_reducible assumption | rfl | omega) d_Row_size_4 hlocks
abbrev Qc_Row_room (dC : Nat → ClassId) (dI : Nat → Nat → Nat) (cI cB cZ : ClassId) (r : Nat) (b : Nat) (cap : Nat) (f : Nat → Int32) (L : List Nat) (A : Nat → Prop) := va_Qi (fun (r9 : Int32) (_ : Unit) => (r9 = nI (cap - L.length))) (ka (dC, dI) classes [(cI, .int), (cB, .byte), (cZ, .boolean)] (fun (_ : Unit) => [(r, .inr (2, [.ref b, .int (nI L.length)])), (b, .inl (cB, cap, .inl f))]) A) A
set_option maxHeartbeats 1000000 in
set_option maxRecDepth 100000 in
/-- ByteRow.room -/
theorem c_Row_room (l : Launch) (dC : Nat → ClassId) (dI : Nat → Nat → Nat) (cI cB cZ : ClassId) (sz : Nat) (r : Nat) (b : Nat) (cap : Nat) (f : Nat → Int32) (L : List Nat) (hB : BRow cap f L) : Met l y_Row_room w_Row_room ({ frames := 0, cells := 0, slots := 0, locals := 0 }) (va_Pc [.ref r] (kp (dC, dI) classes [(cI, .int), (cB, .byte), (cZ, .boolean)] [(r, .inr (2, [.ref b, .int (nI L.length)])), (b, .inl (cB, cap, .inl f))] sz)) (Qc_Row_room dC dI cI cB cZ r b cap f L (va_A [(r, .inr (2, [.ref b, .int (nI L.length)])), (b, .inl (cB, cap, .inl f))] sz)) 0 0 (va_A [(r, .inr (2, [.ref b, .int (nI L.length)])), (b, .inl (cB, cap, .inl f))] sz) := by
  refine Met.ofW (cc := prog_2_method_3_code) (maxL := 1) (ret := (some .int)) (by decide) rfl ?_
  intro p e s m args below meth c s₁ B hml hv
  obtain ⟨rfl, hsz, hP, hK, hD0⟩ := hv
  have hx := B.exec
  have hb := B.bytes
  have hr := B.returns
  have hts := fun w h => atoms_spec (ws := w_Row_room) B.pre w (List.mem_cons_of_mem _ h)
  have hown : s.vm.findClass "DemoTape$ByteRow" = some m.cls := findClass_of_methodNamed B.named
  have hlocks := B.notSynchronized
  subst hsz
  have hD := hD0.self (sz := s.heap.size)
  generalize hAe : va_A ([(r, .inr (2, [.ref b, .int (nI L.length)])), (b, .inl (cB, cap, .inl f))] : va_W) s.heap.size = A at hD ⊢
  have hA : ∀ q : Nat, s.heap.size ≤ q → A q := fun q h => by rw [← hAe]; exact Or.inr h
  have hS : va_S A s.heap s.heap [] := va_S.rf
  have hP : va_P (dC, dI) classes [(r, .inr (2, [.ref b, .int (nI L.length)])), (b, .inl (cB, cap, .inl f))] s.heap := hP
  obtain ⟨hf, hy, hc, hcap⟩ := id hB
  have hl := lv_entry ([.ref r]) (n := 1) (Nat.le_of_ble_eq_true rfl)
  rw [lg_entry_eq]
  generalize (lg_sl ([.ref r]) ++ List.replicate (1 - (lg_sl ([.ref r])).length) Slot.unset).toArray = ls at hl ⊢
  have hl : lv_has ls 1 [(0, .ref r)] := hl
  refine lv_aload_n hx hb d_Row_room_0 rfl (lv_at hl 0 rfl) ?_
  refine va_get (D := (dC, dI)) (ci := 2) (v := .ref b) (C := "DemoTape$ByteRow") (T := F_Row) (N := 2) hx hb hts i_Row hown hK hP 0 rfl rfl 0 (by decide) (hts _ mw76) (fun _ h9 => h9) rfl d_Row_room_1 ?_
  refine va_alen (v := nI cap) hx hb hK hP 1 1 rfl rfl rfl d_Row_room_4 ?_
  refine lv_aload_n hx hb d_Row_room_5 rfl (lv_at hl 0 rfl) ?_
  refine va_get (D := (dC, dI)) (ci := 2) (v := .int (nI L.length)) (C := "DemoTape$ByteRow") (T := F_Row) (N := 2) hx hb hts i_Row hown hK hP 0 rfl rfl 1 (by decide) (hts _ mw77) (fun _ h9 => h9) rfl d_Row_room_6 ?_
  refine lv_isub hx hb d_Row_room_9 ?_
  refine kt_i (y := nI (cap - L.length)) (pk_sub (by omega)) ?_
  exact kr_i (v := nI (cap - L.length)) () hx hb hr rfl hK (hP.sub [0, 1] (rfl)) (hD.sub [0, 1] (by decide) (rfl)) hS (by first | with_reducible rfl | with_reducible assumption | rfl | omega) d_Row_room_10 hlocks
abbrev Qc_Row_get (dC : Nat → ClassId) (dI : Nat → Nat → Nat) (cI cB cZ : ClassId) (r : Nat) (b : Nat) (cap : Nat) (f : Nat → Int32) (L : List Nat) (i : Int32) (A : Nat → Prop) := va_Qi (fun (r9 : Int32) (_ : Unit) => (r9 = kGetB L i)) (ka (dC, dI) classes [(cI, .int), (cB, .byte), (cZ, .boolean)] (fun (_ : Unit) => [(r, .inr (2, [.ref b, .int (nI L.length)])), (b, .inl (cB, cap, .inl f))]) A) A
set_option maxHeartbeats 1000000 in
set_option maxRecDepth 100000 in
/-- ByteRow.get -/
theorem c_Row_get (l : Launch) (dC : Nat → ClassId) (dI : Nat → Nat → Nat) (cI cB cZ : ClassId) (sz : Nat) (r : Nat) (b : Nat) (cap : Nat) (f : Nat → Int32) (L : List Nat) (i : Int32) (hB : BRow cap f L) : Met l y_Row_get w_Row_get ({ frames := 0, cells := 0, slots := 0, locals := 0 }) (va_Pc [.ref r, .int i] (kp (dC, dI) classes [(cI, .int), (cB, .byte), (cZ, .boolean)] [(r, .inr (2, [.ref b, .int (nI L.length)])), (b, .inl (cB, cap, .inl f))] sz)) (Qc_Row_get dC dI cI cB cZ r b cap f L i (va_A [(r, .inr (2, [.ref b, .int (nI L.length)])), (b, .inl (cB, cap, .inl f))] sz)) 0 0 (va_A [(r, .inr (2, [.ref b, .int (nI L.length)])), (b, .inl (cB, cap, .inl f))] sz) := by
  refine Met.ofW (cc := prog_2_method_4_code) (maxL := 2) (ret := (some .int)) (by decide) rfl ?_
  intro p e s m args below meth c s₁ B hml hv
  obtain ⟨rfl, hsz, hP, hK, hD0⟩ := hv
  have hx := B.exec
  have hb := B.bytes
  have hr := B.returns
  have hts := fun w h => atoms_spec (ws := w_Row_get) B.pre w (List.mem_cons_of_mem _ h)
  have hown : s.vm.findClass "DemoTape$ByteRow" = some m.cls := findClass_of_methodNamed B.named
  have hlocks := B.notSynchronized
  subst hsz
  have hD := hD0.self (sz := s.heap.size)
  generalize hAe : va_A ([(r, .inr (2, [.ref b, .int (nI L.length)])), (b, .inl (cB, cap, .inl f))] : va_W) s.heap.size = A at hD ⊢
  have hA : ∀ q : Nat, s.heap.size ≤ q → A q := fun q h => by rw [← hAe]; exact Or.inr h
  have hS : va_S A s.heap s.heap [] := va_S.rf
  have hP : va_P (dC, dI) classes [(r, .inr (2, [.ref b, .int (nI L.length)])), (b, .inl (cB, cap, .inl f))] s.heap := hP
  obtain ⟨hf, hy, hc, hcap⟩ := id hB
  have hl := lv_entry ([.ref r, .int i]) (n := 2) (Nat.le_of_ble_eq_true rfl)
  rw [lg_entry_eq]
  generalize (lg_sl ([.ref r, .int i]) ++ List.replicate (2 - (lg_sl ([.ref r, .int i])).length) Slot.unset).toArray = ls at hl ⊢
  have hl : lv_has ls 2 [(0, .ref r), (1, .int i)] := hl
  refine lv_iload_n hx hb d_Row_get_0 rfl (lv_at hl 1 rfl) ?_
  refine lv_if_lt (tgt := 34) hx hb d_Row_get_1 (by decide) (fun c_1 => ?_) (fun c_1 => ?_)
  · refine lv_iconst (v := -1) hx hb d_Row_get_34 (by decide) ?_
    exact kr_i (v := -1) () hx hb hr rfl hK (hP.sub [0, 1] (rfl)) (hD.sub [0, 1] (by decide) (rfl)) hS ((kGetB_neg c_1).symm) d_Row_get_35 hlocks
  · obtain ⟨j, hj, rfl⟩ := nI_of c_1
    refine lv_iload_n hx hb d_Row_get_4 rfl (lv_at hl 1 rfl) ?_
    refine lv_aload_n hx hb d_Row_get_5 rfl (lv_at hl 0 rfl) ?_
    refine va_get (D := (dC, dI)) (ci := 2) (v := .int (nI L.length)) (C := "DemoTape$ByteRow") (T := F_Row) (N := 2) hx hb hts i_Row hown hK hP 0 rfl rfl 1 (by decide) (hts _ mw77) (fun _ h9 => h9) rfl d_Row_get_6 ?_
    refine lv_icmp_ge (tgt := 34) hx hb d_Row_get_9 (by decide) (fun c_9 => ?_) (fun c_9 => ?_)
    · have n_9 := kn_le (a := L.length) (b := j) c_9 rfl rfl (by omega) (by omega)
      refine lv_iconst (v := -1) hx hb d_Row_get_34 (by decide) ?_
      exact kr_i (v := -1) () hx hb hr rfl hK (hP.sub [0, 1] (rfl)) (hD.sub [0, 1] (by decide) (rfl)) hS (by rw [kGetB_nI hj, List.getElem?_eq_none n_9]; rfl) d_Row_get_35 hlocks
    · have n_9 := kn_nle (a := L.length) (b := j) c_9 rfl rfl (by omega) (by omega)
      refine lv_iload_n hx hb d_Row_get_12 rfl (lv_at hl 1 rfl) ?_
      refine lv_aload_n hx hb d_Row_get_13 rfl (lv_at hl 0 rfl) ?_
      refine va_get (D := (dC, dI)) (ci := 2) (v := .ref b) (C := "DemoTape$ByteRow") (T := F_Row) (N := 2) hx hb hts i_Row hown hK hP 0 rfl rfl 0 (by decide) (hts _ mw76) (fun _ h9 => h9) rfl d_Row_get_14 ?_
      refine va_alen (v := nI cap) hx hb hK hP 1 1 rfl rfl rfl d_Row_get_17 ?_
      refine lv_icmp_ge (tgt := 34) hx hb d_Row_get_18 (by decide) (fun c_18 => ?_) (fun c_18 => ?_)
      · have n_18 := kn_le (a := cap) (b := j) c_18 rfl rfl (by omega) (by omega)
        refine lv_iconst (v := -1) hx hb d_Row_get_34 (by decide) ?_
        exact kr_i (v := -1) () hx hb hr rfl hK (hP.sub [0, 1] (rfl)) (hD.sub [0, 1] (by decide) (rfl)) hS (absurd n_18 (by omega)) d_Row_get_35 hlocks
      · have n_18 := kn_nle (a := cap) (b := j) c_18 rfl rfl (by omega) (by omega)
        refine lv_aload_n hx hb d_Row_get_21 rfl (lv_at hl 0 rfl) ?_
        refine va_get (D := (dC, dI)) (ci := 2) (v := .ref b) (C := "DemoTape$ByteRow") (T := F_Row) (N := 2) hx hb hts i_Row hown hK hP 0 rfl rfl 0 (by decide) (hts _ mw76) (fun _ h9 => h9) rfl d_Row_get_22 ?_
        refine lv_iload_n hx hb d_Row_get_25 rfl (lv_at hl 1 rfl) ?_
        refine kt_bald (j := j) hx hb hK hP 1 1 rfl rfl (by omega) (by omega) d_Row_get_26 ?_
        refine lv_sipush (v := 255) hx hb d_Row_get_27 (by decide) ?_
        refine lv_iand hx hb d_Row_get_30 ?_
        refine lv_goto (tgt := 35) hx hb d_Row_get_31 (by decide) ?_
        exact kr_i (v := (f j) &&& 255) () hx hb hr rfl hK (hP.sub [0, 1] (rfl)) (hD.sub [0, 1] (by decide) (rfl)) hS (by rw [kGetB_nI hj]; exact hf.at hy n_9) d_Row_get_35 hlocks
abbrev Qc_Row_set (dC : Nat → ClassId) (dI : Nat → Nat → Nat) (cI cB cZ : ClassId) (r : Nat) (b : Nat) (cap : Nat) (f : Nat → Int32) (L : List Nat) (j : Nat) (v : Int32) (A : Nat → Prop) := va_Qv (fun (u9 : (Nat → Int32)) => (BRow cap u9 (L.set j (iByte v)))) (ka (dC, dI) classes [(cI, .int), (cB, .byte), (cZ, .boolean)] (fun (u9 : (Nat → Int32)) => [(r, .inr (2, [.ref b, .int (nI (L.set j (iByte v)).length)])), (b, .inl (cB, cap, .inl u9))]) A) A
set_option maxHeartbeats 1000000 in
set_option maxRecDepth 100000 in
/-- ByteRow.set -/
theorem c_Row_set (l : Launch) (dC : Nat → ClassId) (dI : Nat → Nat → Nat) (cI cB cZ : ClassId) (sz : Nat) (r : Nat) (b : Nat) (cap : Nat) (f : Nat → Int32) (L : List Nat) (j : Nat) (v : Int32) (hB : BRow cap f L) (hj : j < L.length) : Met l y_Row_set w_Row_set ({ frames := 0, cells := 0, slots := 0, locals := 0 }) (va_Pc [.ref r, .int (nI j), .int v] (kp (dC, dI) classes [(cI, .int), (cB, .byte), (cZ, .boolean)] [(r, .inr (2, [.ref b, .int (nI L.length)])), (b, .inl (cB, cap, .inl f))] sz)) (Qc_Row_set dC dI cI cB cZ r b cap f L j v (va_A [(r, .inr (2, [.ref b, .int (nI L.length)])), (b, .inl (cB, cap, .inl f))] sz)) 0 0 (va_A [(r, .inr (2, [.ref b, .int (nI L.length)])), (b, .inl (cB, cap, .inl f))] sz) := by
  refine Met.ofW (cc := prog_2_method_5_code) (maxL := 3) (ret := none) (by decide) rfl ?_
  intro p e s m args below meth c s₁ B hml hv
  obtain ⟨rfl, hsz, hP, hK, hD0⟩ := hv
  have hx := B.exec
  have hb := B.bytes
  have hr := B.returns
  have hts := fun w h => atoms_spec (ws := w_Row_set) B.pre w (List.mem_cons_of_mem _ h)
  have hown : s.vm.findClass "DemoTape$ByteRow" = some m.cls := findClass_of_methodNamed B.named
  have hlocks := B.notSynchronized
  subst hsz
  have hD := hD0.self (sz := s.heap.size)
  generalize hAe : va_A ([(r, .inr (2, [.ref b, .int (nI L.length)])), (b, .inl (cB, cap, .inl f))] : va_W) s.heap.size = A at hD ⊢
  have hA : ∀ q : Nat, s.heap.size ≤ q → A q := fun q h => by rw [← hAe]; exact Or.inr h
  have hS : va_S A s.heap s.heap [] := va_S.rf
  have hP : va_P (dC, dI) classes [(r, .inr (2, [.ref b, .int (nI L.length)])), (b, .inl (cB, cap, .inl f))] s.heap := hP
  obtain ⟨hf, hy, hc, hcap⟩ := id hB
  have hl := lv_entry ([.ref r, .int (nI j), .int v]) (n := 3) (Nat.le_of_ble_eq_true rfl)
  rw [lg_entry_eq]
  generalize (lg_sl ([.ref r, .int (nI j), .int v]) ++ List.replicate (3 - (lg_sl ([.ref r, .int (nI j), .int v])).length) Slot.unset).toArray = ls at hl ⊢
  have hl : lv_has ls 3 [(0, .ref r), (1, .int (nI j)), (2, .int v)] := hl
  refine lv_iload_n hx hb d_Row_set_0 rfl (lv_at hl 1 rfl) ?_
  refine lv_if_lt (tgt := 29) hx hb d_Row_set_1 (by decide) (fun c_1 => ?_) (fun c_1 => ?_)
  · exact absurd c_1 (nI_pos (by omega))
  · refine lv_iload_n hx hb d_Row_set_4 rfl (lv_at hl 1 rfl) ?_
    refine lv_aload_n hx hb d_Row_set_5 rfl (lv_at hl 0 rfl) ?_
    refine va_get (D := (dC, dI)) (ci := 2) (v := .int (nI L.length)) (C := "DemoTape$ByteRow") (T := F_Row) (N := 2) hx hb hts i_Row hown hK hP 0 rfl rfl 1 (by decide) (hts _ mw77) (fun _ h9 => h9) rfl d_Row_set_6 ?_
    refine lv_icmp_ge (tgt := 29) hx hb d_Row_set_9 (by decide) (fun c_9 => ?_) (fun c_9 => ?_)
    · exact absurd c_9 (nI_ge (by omega) (by omega))
    · refine lv_iload_n hx hb d_Row_set_12 rfl (lv_at hl 1 rfl) ?_
      refine lv_aload_n hx hb d_Row_set_13 rfl (lv_at hl 0 rfl) ?_
      refine va_get (D := (dC, dI)) (ci := 2) (v := .ref b) (C := "DemoTape$ByteRow") (T := F_Row) (N := 2) hx hb hts i_Row hown hK hP 0 rfl rfl 0 (by decide) (hts _ mw76) (fun _ h9 => h9) rfl d_Row_set_14 ?_
      refine va_alen (v := nI cap) hx hb hK hP 1 1 rfl rfl rfl d_Row_set_17 ?_
      refine lv_icmp_ge (tgt := 29) hx hb d_Row_set_18 (by decide) (fun c_18 => ?_) (fun c_18 => ?_)
      · exact absurd c_18 (nI_ge (by omega) (by omega))
      · refine lv_aload_n hx hb d_Row_set_21 rfl (lv_at hl 0 rfl) ?_
        refine va_get (D := (dC, dI)) (ci := 2) (v := .ref b) (C := "DemoTape$ByteRow") (T := F_Row) (N := 2) hx hb hts i_Row hown hK hP 0 rfl rfl 0 (by decide) (hts _ mw76) (fun _ h9 => h9) rfl d_Row_set_22 ?_
        refine lv_iload_n hx hb d_Row_set_25 rfl (lv_at hl 1 rfl) ?_
        refine lv_iload_n hx hb d_Row_set_26 rfl (lv_at hl 2 rfl) ?_
        refine lv_i2b (v := v.toInt8.toInt32) hx hb d_Row_set_27 rfl ?_
        refine kt_bast (j := j) hx hb hK hP hD hS 1 1 rfl rfl (by omega) (by omega) d_Row_set_28 (fun H locs hP hD hS => ?_)
        have hP : va_P (dC, dI) classes [(r, .inr (2, [.ref b, .int (nI L.length)])), (b, .inl (cB, cap, .inl (upd f j v.toInt8.toInt32.toInt8.toInt32)))] H := hP
        have hD : va_D A [(r, .inr (2, [.ref b, .int (nI L.length)])), (b, .inl (cB, cap, .inl (upd f j v.toInt8.toInt32.toInt8.toInt32)))] := hD
        rw [show nI L.length = nI (L.set j (iByte v)).length by rw [List.length_set]] at hP hD
        exact kr_v (upd f j v.toInt8.toInt32.toInt8.toInt32) hx hb hr hK (hP.sub [0, 1] (rfl)) (hD.sub [0, 1] (by decide) (rfl)) hS (⟨hf.set (iByte_sb v), hy.set (Nat.mod_lt _ (by decide)), by rw [List.length_set]; exact hc, hcap⟩) d_Row_set_29 hlocks
abbrev Qc_Row_addLowest (dC : Nat → ClassId) (dI : Nat → Nat → Nat) (cI cB cZ : ClassId) (r : Nat) (b : Nat) (cap : Nat) (f : Nat → Int32) (L : List Nat) (v : Int64) (k : Nat) (A : Nat → Prop) := va_Qv (fun (u9 : (Nat → Int32)) => (BRow cap u9 (L ++ lowB (lNat v) k))) (ka (dC, dI) classes [(cI, .int), (cB, .byte), (cZ, .boolean)] (fun (u9 : (Nat → Int32)) => [(r, .inr (2, [.ref b, .int (nI (L ++ lowB (lNat v) k).length)])), (b, .inl (cB, cap, .inl u9))]) A) A
set_option maxHeartbeats 1000000 in
set_option maxRecDepth 100000 in
/-- ByteRow.addLowest -/
theorem c_Row_addLowest (l : Launch) (dC : Nat → ClassId) (dI : Nat → Nat → Nat) (cI cB cZ : ClassId) (sz : Nat) (r : Nat) (b : Nat) (cap : Nat) (f : Nat → Int32) (L : List Nat) (v : Int64) (k : Nat) (hB : BRow cap f L) (hk8 : k ≤ 8) (hk : L.length + k ≤ cap) : Met l y_Row_addLowest w_Row_addLowest ({ frames := 0, cells := 0, slots := 0, locals := 0 }) (va_Pc [.ref r, .long v, .int (nI k)] (kp (dC, dI) classes [(cI, .int), (cB, .byte), (cZ, .boolean)] [(r, .inr (2, [.ref b, .int (nI L.length)])), (b, .inl (cB, cap, .inl f))] sz)) (Qc_Row_addLowest dC dI cI cB cZ r b cap f L v k (va_A [(r, .inr (2, [.ref b, .int (nI L.length)])), (b, .inl (cB, cap, .inl f))] sz)) 0 0 (va_A [(r, .inr (2, [.ref b, .int (nI L.length)])), (b, .inl (cB, cap, .inl f))] sz) := by
  refine Met.ofW (cc := prog_2_method_6_code) (maxL := 5) (ret := none) (by decide) rfl ?_
  intro p e s m args below meth c s₁ B hml hv
  obtain ⟨rfl, hsz, hP, hK, hD0⟩ := hv
  have hx := B.exec
  have hb := B.bytes
  have hr := B.returns
  have hts := fun w h => atoms_spec (ws := w_Row_addLowest) B.pre w (List.mem_cons_of_mem _ h)
  have hown : s.vm.findClass "DemoTape$ByteRow" = some m.cls := findClass_of_methodNamed B.named
  have hlocks := B.notSynchronized
  subst hsz
  have hD := hD0.self (sz := s.heap.size)
  generalize hAe : va_A ([(r, .inr (2, [.ref b, .int (nI L.length)])), (b, .inl (cB, cap, .inl f))] : va_W) s.heap.size = A at hD ⊢
  have hA : ∀ q : Nat, s.heap.size ≤ q → A q := fun q h => by rw [← hAe]; exact Or.inr h
  have hS : va_S A s.heap s.heap [] := va_S.rf
  have hP : va_P (dC, dI) classes [(r, .inr (2, [.ref b, .int (nI L.length)])), (b, .inl (cB, cap, .inl f))] s.heap := hP
  obtain ⟨hf, hy, hc, hcap⟩ := id hB
  have hl := lv_entry ([.ref r, .long v, .int (nI k)]) (n := 5) (Nat.le_of_ble_eq_true rfl)
  rw [lg_entry_eq]
  generalize (lg_sl ([.ref r, .long v, .int (nI k)]) ++ List.replicate (5 - (lg_sl ([.ref r, .long v, .int (nI k)])).length) Slot.unset).toArray = ls at hl ⊢
  have hl : lv_has ls 5 [(0, .ref r), (1, .long v), (3, .int (nI k))] := hl
  have J_5 : ∀ (fuel : Nat) (q : Nat) (f2 : Nat → Int32) (M : List Nat), (q < fuel) → (q ≤ 8) → (BRow cap f2 M) → (M ++ lowB (lNat v) q = L ++ lowB (lNat v) k) → (M.length + q ≤ cap) → ∀ (H : Heap) (locs : List Loc), va_P (dC, dI) classes [(r, .inr (2, [.ref b, .int (nI M.length)])), (b, .inl (cB, cap, .inl f2))] H → va_D A [(r, .inr (2, [.ref b, .int (nI M.length)])), (b, .inl (cB, cap, .inl f2))] → va_S A s.heap H locs → ∀ (ls : Array Slot), lv_has ls 5 [(0, .ref r), (1, .long v), (4, .int (nI q - 1))] → W p l e (headSpec w_Row_addLowest ({ frames := 0, cells := 0, slots := 0, locals := 0 })).room s m [.ref r, .long v, .int (nI k)].toArray below meth c H locs 0 0 (MQ below (Qc_Row_addLowest dC dI cI cB cZ r b cap f L v k A) [.ref r, .long v, .int (nI k)].toArray s 0 0 A) (F0 m 5 ls []) := by
    intro fuel
    induction fuel with
    | zero => intro q f2 M hm; exact absurd hm (Nat.not_lt_zero _)
    | succ fuel ih_5 =>
      intro q f2 M hm hq hM he hl2 H locs hP hD hS ls hl
      refine lv_iload hx hb d_Row_addLowest_5 (lv_at hl 2 rfl) ?_
      refine lv_if_lt (tgt := 56) hx hb d_Row_addLowest_7 (by decide) (fun c_7 => ?_) (fun c_7 => ?_)
      · obtain rfl : q = 0 := kq0 c_7 (by omega)
        have hM0 : M = L ++ lowB (lNat v) k := by rw [← he]; exact (List.append_nil M).symm
        rw [hM0] at hP hD hM
        exact kr_v f2 hx hb hr hK (hP.sub [0, 1] (rfl)) (hD.sub [0, 1] (by decide) (rfl)) hS (hM) d_Row_addLowest_56 hlocks
      · obtain ⟨q1, rfl⟩ : ∃ z, q = z + 1 := kq1 c_7
        refine lv_aload_n hx hb d_Row_addLowest_10 rfl (lv_at hl 0 rfl) ?_
        refine va_get (D := (dC, dI)) (ci := 2) (v := .int (nI M.length)) (C := "DemoTape$ByteRow") (T := F_Row) (N := 2) hx hb hts i_Row hown hK hP 0 rfl rfl 1 (by decide) (hts _ mw77) (fun _ h9 => h9) rfl d_Row_addLowest_11 ?_
        refine lv_aload_n hx hb d_Row_addLowest_14 rfl (lv_at hl 0 rfl) ?_
        refine va_get (D := (dC, dI)) (ci := 2) (v := .ref b) (C := "DemoTape$ByteRow") (T := F_Row) (N := 2) hx hb hts i_Row hown hK hP 0 rfl rfl 0 (by decide) (hts _ mw76) (fun _ h9 => h9) rfl d_Row_addLowest_15 ?_
        refine va_alen (v := nI cap) hx hb hK hP 1 1 rfl rfl rfl d_Row_addLowest_18 ?_
        refine lv_icmp_ge (tgt := 56) hx hb d_Row_addLowest_19 (by decide) (fun c_19 => ?_) (fun c_19 => ?_)
        · exact absurd c_19 (nI_ge (by omega) (by omega))
        · have hcap := hM.2.2.2
          refine lv_aload_n hx hb d_Row_addLowest_22 rfl (lv_at hl 0 rfl) ?_
          refine va_get (D := (dC, dI)) (ci := 2) (v := .ref b) (C := "DemoTape$ByteRow") (T := F_Row) (N := 2) hx hb hts i_Row hown hK hP 0 rfl rfl 0 (by decide) (hts _ mw76) (fun _ h9 => h9) rfl d_Row_addLowest_23 ?_
          refine lv_aload_n hx hb d_Row_addLowest_26 rfl (lv_at hl 0 rfl) ?_
          refine va_get (D := (dC, dI)) (ci := 2) (v := .int (nI M.length)) (C := "DemoTape$ByteRow") (T := F_Row) (N := 2) hx hb hts i_Row hown hK hP 0 rfl rfl 1 (by decide) (hts _ mw77) (fun _ h9 => h9) rfl d_Row_addLowest_27 ?_
          refine lv_lload_n hx hb d_Row_addLowest_30 rfl (lv_at hl 1 rfl) ?_
          refine lv_bipush (v := 8) hx hb d_Row_addLowest_31 (by decide) ?_
          refine lv_iload hx hb d_Row_addLowest_33 (lv_at hl 2 rfl) ?_
          refine kt_i (y := nI q1) (nI_pred _) ?_
          refine lv_imul hx hb d_Row_addLowest_35 ?_
          refine kt_i (y := nI (8 * q1)) (pk_mul 8 q1) ?_
          refine lv_lushr (v := (v.toUInt64 >>> ((nI (8 * q1)).toInt64.toUInt64 &&& Int64.toUInt64 63)).toInt64) hx hb d_Row_addLowest_36 rfl ?_
          refine lv_l2i (v := (v.toUInt64 >>> ((nI (8 * q1)).toInt64.toUInt64 &&& Int64.toUInt64 63)).toInt64.toInt32) hx hb d_Row_addLowest_37 rfl ?_
          refine lv_i2b (v := (v.toUInt64 >>> ((nI (8 * q1)).toInt64.toUInt64 &&& Int64.toUInt64 63)).toInt64.toInt32.toInt8.toInt32) hx hb d_Row_addLowest_38 rfl ?_
          refine kt_i (y := sb_b (lNat v / 2 ^ (8 * q1) % 256)) (lNat_byte v q1 (by omega)) ?_
          refine kt_bast (j := M.length) hx hb hK hP hD hS 1 1 rfl rfl (by omega) (by omega) d_Row_addLowest_39 (fun H locs hP hD hS => ?_)
          have hP : va_P (dC, dI) classes [(r, .inr (2, [.ref b, .int (nI M.length)])), (b, .inl (cB, cap, .inl (upd f2 M.length (sb_b (lNat v / 2 ^ (8 * q1) % 256)).toInt8.toInt32)))] H := hP
          have hD : va_D A [(r, .inr (2, [.ref b, .int (nI M.length)])), (b, .inl (cB, cap, .inl (upd f2 M.length (sb_b (lNat v / 2 ^ (8 * q1) % 256)).toInt8.toInt32)))] := hD
          refine lv_aload_n hx hb d_Row_addLowest_40 rfl (lv_at hl 0 rfl) ?_
          refine lv_dup hx hb d_Row_addLowest_41 rfl ?_
          refine va_get (D := (dC, dI)) (ci := 2) (v := .int (nI M.length)) (C := "DemoTape$ByteRow") (T := F_Row) (N := 2) hx hb hts i_Row hown hK hP 0 rfl rfl 1 (by decide) (hts _ mw77) (fun _ h9 => h9) rfl d_Row_addLowest_42 ?_
          refine lv_iconst (v := 1) hx hb d_Row_addLowest_45 (by decide) ?_
          refine lv_iadd hx hb d_Row_addLowest_46 ?_
          refine kt_i (y := nI (M ++ [lNat v / 2 ^ (8 * q1) % 256]).length) (by rw [List.length_append]; exact nI_1 _) ?_
          refine va_put (D := (dC, dI)) (ci := 2) (v := .int (nI (M ++ [lNat v / 2 ^ (8 * q1) % 256]).length)) (ty := .int) (C := "DemoTape$ByteRow") (T := F_Row) (N := 2) hx hb hts i_Row t_Row t_Row_ok n_Row hown hK hP hD hS 0 rfl rfl 1 (by decide) (hts _ mw77) (fun _ h9 => h9) rfl (by decide +kernel) rfl rfl (Nat.le_of_ble_eq_true rfl) d_Row_addLowest_47 (fun H locs hP hD hS => ?_)
          have hP : va_P (dC, dI) classes [(r, .inr (2, [.ref b, .int (nI (M ++ [lNat v / 2 ^ (8 * q1) % 256]).length)])), (b, .inl (cB, cap, .inl (upd f2 M.length (sb_b (lNat v / 2 ^ (8 * q1) % 256)).toInt8.toInt32)))] H := hP
          have hD : va_D A [(r, .inr (2, [.ref b, .int (nI (M ++ [lNat v / 2 ^ (8 * q1) % 256]).length)])), (b, .inl (cB, cap, .inl (upd f2 M.length (sb_b (lNat v / 2 ^ (8 * q1) % 256)).toInt8.toInt32)))] := hD
          refine lv_iinc (v := nI q1 - 1) (lv' := [(4, .int (nI q1 - 1)), (0, .ref r), (1, .long v)]) hx hb d_Row_addLowest_50 hl (k := 2) rfl (by rw [nI_pred, Int32.sub_eq_add_neg]; rfl) (by decide) rfl (fun ls hl => ?_)
          refine lv_goto (tgt := 5) hx hb d_Row_addLowest_53 (by decide) ?_
          exact ih_5 q1 (upd f2 M.length (sb_b (lNat v / 2 ^ (8 * q1) % 256)).toInt8.toInt32) (M ++ [lNat v / 2 ^ (8 * q1) % 256]) (by omega) (by first | with_reducible assumption | omega) (hM.push (by rw [sb8]) (Nat.mod_lt _ (by decide)) (by omega)) (by rw [← he, List.append_assoc]; rfl) (by rw [List.length_append, List.length_singleton]; omega) _ _ (hP.sub [0, 1] (rfl)) (hD.sub [0, 1] (by decide) (rfl)) hS ls (lv_sub hl [1, 2, 0] rfl)
  refine lv_iload_n hx hb d_Row_addLowest_0 rfl (lv_at hl 2 rfl) ?_
  refine lv_iconst (v := 1) hx hb d_Row_addLowest_1 (by decide) ?_
  refine lv_isub hx hb d_Row_addLowest_2 ?_
  refine lv_istore (lv' := [(4, .int ((nI k) - 1)), (0, .ref r), (1, .long v), (3, .int (nI k))]) hx hb d_Row_addLowest_3 hl (by decide) rfl (fun ls hl => ?_)
  exact J_5 _ k f L (Nat.lt_succ_self _) (by first | with_reducible assumption | omega) (hB) (rfl) (hk) _ _ (hP.sub [0, 1] (rfl)) (hD.sub [0, 1] (by decide) (rfl)) hS ls (lv_sub hl [1, 2, 0] rfl)
abbrev Qc_Row_keepFirst (dC : Nat → ClassId) (dI : Nat → Nat → Nat) (cI cB cZ : ClassId) (r : Nat) (b : Nat) (cap : Nat) (f : Nat → Int32) (L : List Nat) (k : Nat) (A : Nat → Prop) := va_Qv (fun (_ : Unit) => (BRow cap f (L.take k))) (ka (dC, dI) classes [(cI, .int), (cB, .byte), (cZ, .boolean)] (fun (_ : Unit) => [(r, .inr (2, [.ref b, .int (nI (L.take k).length)])), (b, .inl (cB, cap, .inl f))]) A) A
set_option maxHeartbeats 1000000 in
set_option maxRecDepth 100000 in
/-- ByteRow.keepFirst -/
theorem c_Row_keepFirst (l : Launch) (dC : Nat → ClassId) (dI : Nat → Nat → Nat) (cI cB cZ : ClassId) (sz : Nat) (r : Nat) (b : Nat) (cap : Nat) (f : Nat → Int32) (L : List Nat) (k : Nat) (hB : BRow cap f L) (hk : k ≤ L.length) : Met l y_Row_keepFirst w_Row_keepFirst ({ frames := 1, cells := 0, slots := 0, locals := 14 }) (va_Pc [.ref r, .int (nI k)] (kp (dC, dI) classes [(cI, .int), (cB, .byte), (cZ, .boolean)] [(r, .inr (2, [.ref b, .int (nI L.length)])), (b, .inl (cB, cap, .inl f))] sz)) (Qc_Row_keepFirst dC dI cI cB cZ r b cap f L k (va_A [(r, .inr (2, [.ref b, .int (nI L.length)])), (b, .inl (cB, cap, .inl f))] sz)) 0 0 (va_A [(r, .inr (2, [.ref b, .int (nI L.length)])), (b, .inl (cB, cap, .inl f))] sz) := by
  refine Met.ofW (cc := prog_2_method_7_code) (maxL := 2) (ret := none) (by decide) rfl ?_
  intro p e s m args below meth c s₁ B hml hv
  obtain ⟨rfl, hsz, hP, hK, hD0⟩ := hv
  have hx := B.exec
  have hb := B.bytes
  have hr := B.returns
  have hts := fun w h => atoms_spec (ws := w_Row_keepFirst) B.pre w (List.mem_cons_of_mem _ h)
  have hown : s.vm.findClass "DemoTape$ByteRow" = some m.cls := findClass_of_methodNamed B.named
  have hlocks := B.notSynchronized
  subst hsz
  have hD := hD0.self (sz := s.heap.size)
  generalize hAe : va_A ([(r, .inr (2, [.ref b, .int (nI L.length)])), (b, .inl (cB, cap, .inl f))] : va_W) s.heap.size = A at hD ⊢
  have hA : ∀ q : Nat, s.heap.size ≤ q → A q := fun q h => by rw [← hAe]; exact Or.inr h
  have hS : va_S A s.heap s.heap [] := va_S.rf
  have hP : va_P (dC, dI) classes [(r, .inr (2, [.ref b, .int (nI L.length)])), (b, .inl (cB, cap, .inl f))] s.heap := hP
  obtain ⟨hf, hy, hc, hcap⟩ := id hB
  have hl := lv_entry ([.ref r, .int (nI k)]) (n := 2) (Nat.le_of_ble_eq_true rfl)
  rw [lg_entry_eq]
  generalize (lg_sl ([.ref r, .int (nI k)]) ++ List.replicate (2 - (lg_sl ([.ref r, .int (nI k)])).length) Slot.unset).toArray = ls at hl ⊢
  have hl : lv_has ls 2 [(0, .ref r), (1, .int (nI k))] := hl
  refine lv_aload_n hx hb d_Row_keepFirst_0 rfl (lv_at hl 0 rfl) ?_
  refine lv_iload_n hx hb d_Row_keepFirst_1 rfl (lv_at hl 1 rfl) ?_
  refine lv_aload_n hx hb d_Row_keepFirst_2 rfl (lv_at hl 0 rfl) ?_
  refine va_get (D := (dC, dI)) (ci := 2) (v := .int (nI L.length)) (C := "DemoTape$ByteRow") (T := F_Row) (N := 2) hx hb hts i_Row hown hK hP 0 rfl rfl 1 (by decide) (hts _ mw77) (fun _ h9 => h9) rfl d_Row_keepFirst_3 ?_
  refine va_mmin hx hb (by rw [hml]; exact hl.1.symm) hown (hts _ mw186) (hts _ mw150) (hts _ mw28) (hts _ mw151) (Nat.le_of_ble_eq_true rfl) (Nat.le_of_ble_eq_true rfl) (Nat.le_of_ble_eq_true rfl) (Nat.le_of_ble_eq_true rfl) d_Row_keepFirst_6 ?_
  refine kt_i (y := nI k) (if_neg (nI_nlt (by omega) (by omega))) ?_
  refine lv_iconst (v := 0) hx hb d_Row_keepFirst_9 (by decide) ?_
  refine va_mmax hx hb (by rw [hml]; exact hl.1.symm) hown (hts _ mw73) (hts _ mw74) (hts _ mw28) (hts _ mw75) (Nat.le_of_ble_eq_true rfl) (Nat.le_of_ble_eq_true rfl) (Nat.le_of_ble_eq_true rfl) (Nat.le_of_ble_eq_true rfl) d_Row_keepFirst_10 ?_
  refine kt_i (y := nI (L.take k).length) (by rw [if_neg (nI_pos (by omega)), List.length_take, Nat.min_eq_left (by omega)]) ?_
  refine va_put (D := (dC, dI)) (ci := 2) (v := .int (nI (L.take k).length)) (ty := .int) (C := "DemoTape$ByteRow") (T := F_Row) (N := 2) hx hb hts i_Row t_Row t_Row_ok n_Row hown hK hP hD hS 0 rfl rfl 1 (by decide) (hts _ mw77) (fun _ h9 => h9) rfl (by decide +kernel) rfl rfl (Nat.le_of_ble_eq_true rfl) d_Row_keepFirst_13 (fun H locs hP hD hS => ?_)
  have hP : va_P (dC, dI) classes [(r, .inr (2, [.ref b, .int (nI (L.take k).length)])), (b, .inl (cB, cap, .inl f))] H := hP
  have hD : va_D A [(r, .inr (2, [.ref b, .int (nI (L.take k).length)])), (b, .inl (cB, cap, .inl f))] := hD
  exact kr_v () hx hb hr hK (hP.sub [0, 1] (rfl)) (hD.sub [0, 1] (by decide) (rfl)) hS (⟨hf.take _, hy.take _, by rw [List.length_take]; omega, hcap⟩) d_Row_keepFirst_16 hlocks
abbrev Qc_Row_become (dC : Nat → ClassId) (dI : Nat → Nat → Nat) (cI cB cZ : ClassId) (r : Nat) (b : Nat) (cap : Nat) (f : Nat → Int32) (L : List Nat) (r2 : Nat) (b2 : Nat) (cap2 : Nat) (f2 : Nat → Int32) (L2 : List Nat) (A : Nat → Prop) := va_Qv (fun (u9 : (Nat → Int32)) => (BRow cap u9 L2)) (ka (dC, dI) classes [(cI, .int), (cB, .byte), (cZ, .boolean)] (fun (u9 : (Nat → Int32)) => [(r, .inr (2, [.ref b, .int (nI L2.length)])), (b, .inl (cB, cap, .inl u9)), (r2, .inr (2, [.ref b2, .int (nI L2.length)])), (b2, .inl (cB, cap2, .inl f2))]) A) A
set_option maxHeartbeats 1000000 in
set_option maxRecDepth 100000 in
/-- ByteRow.become -/
theorem c_Row_become (l : Launch) (dC : Nat → ClassId) (dI : Nat → Nat → Nat) (cI cB cZ : ClassId) (sz : Nat) (r : Nat) (b : Nat) (cap : Nat) (f : Nat → Int32) (L : List Nat) (r2 : Nat) (b2 : Nat) (cap2 : Nat) (f2 : Nat → Int32) (L2 : List Nat) (hB : BRow cap f L) (hB2 : BRow cap2 f2 L2) (hk : L2.length ≤ cap) : Met l y_Row_become w_Row_become ({ frames := 1, cells := 0, slots := 0, locals := 40 }) (va_Pc [.ref r, .ref r2] (kp (dC, dI) classes [(cI, .int), (cB, .byte), (cZ, .boolean)] [(r, .inr (2, [.ref b, .int (nI L.length)])), (b, .inl (cB, cap, .inl f)), (r2, .inr (2, [.ref b2, .int (nI L2.length)])), (b2, .inl (cB, cap2, .inl f2))] sz)) (Qc_Row_become dC dI cI cB cZ r b cap f L r2 b2 cap2 f2 L2 (va_A [(r, .inr (2, [.ref b, .int (nI L.length)])), (b, .inl (cB, cap, .inl f)), (r2, .inr (2, [.ref b2, .int (nI L2.length)])), (b2, .inl (cB, cap2, .inl f2))] sz)) 0 0 (va_A [(r, .inr (2, [.ref b, .int (nI L.length)])), (b, .inl (cB, cap, .inl f)), (r2, .inr (2, [.ref b2, .int (nI L2.length)])), (b2, .inl (cB, cap2, .inl f2))] sz) := by
  refine Met.ofW (cc := prog_2_method_8_code) (maxL := 2) (ret := none) (by decide) rfl ?_
  intro p e s m args below meth c s₁ B hml hv
  obtain ⟨rfl, hsz, hP, hK, hD0⟩ := hv
  have hx := B.exec
  have hb := B.bytes
  have hr := B.returns
  have hts := fun w h => atoms_spec (ws := w_Row_become) B.pre w (List.mem_cons_of_mem _ h)
  have hown : s.vm.findClass "DemoTape$ByteRow" = some m.cls := findClass_of_methodNamed B.named
  have hlocks := B.notSynchronized
  subst hsz
  have hD := hD0.self (sz := s.heap.size)
  generalize hAe : va_A ([(r, .inr (2, [.ref b, .int (nI L.length)])), (b, .inl (cB, cap, .inl f)), (r2, .inr (2, [.ref b2, .int (nI L2.length)])), (b2, .inl (cB, cap2, .inl f2))] : va_W) s.heap.size = A at hD ⊢
  have hA : ∀ q : Nat, s.heap.size ≤ q → A q := fun q h => by rw [← hAe]; exact Or.inr h
  have hS : va_S A s.heap s.heap [] := va_S.rf
  have hP : va_P (dC, dI) classes [(r, .inr (2, [.ref b, .int (nI L.length)])), (b, .inl (cB, cap, .inl f)), (r2, .inr (2, [.ref b2, .int (nI L2.length)])), (b2, .inl (cB, cap2, .inl f2))] s.heap := hP
  obtain ⟨hf, hy, hc, hcap⟩ := id hB
  obtain ⟨hf2, hy2, hc2, hcap2⟩ := id hB2
  have hl := lv_entry ([.ref r, .ref r2]) (n := 2) (Nat.le_of_ble_eq_true rfl)
  rw [lg_entry_eq]
  generalize (lg_sl ([.ref r, .ref r2]) ++ List.replicate (2 - (lg_sl ([.ref r, .ref r2])).length) Slot.unset).toArray = ls at hl ⊢
  have hl : lv_has ls 2 [(0, .ref r), (1, .ref r2)] := hl
  refine lv_aload_n hx hb d_Row_become_0 rfl (lv_at hl 0 rfl) ?_
  refine lv_aload_n hx hb d_Row_become_1 rfl (lv_at hl 1 rfl) ?_
  refine va_get (D := (dC, dI)) (ci := 2) (v := .int (nI L2.length)) (C := "DemoTape$ByteRow") (T := F_Row) (N := 2) hx hb hts i_Row hown hK hP 2 rfl rfl 1 (by decide) (hts _ mw77) (fun _ h9 => h9) rfl d_Row_become_2 ?_
  refine lv_aload_n hx hb d_Row_become_5 rfl (lv_at hl 0 rfl) ?_
  refine va_get (D := (dC, dI)) (ci := 2) (v := .ref b) (C := "DemoTape$ByteRow") (T := F_Row) (N := 2) hx hb hts i_Row hown hK hP 0 rfl rfl 0 (by decide) (hts _ mw76) (fun _ h9 => h9) rfl d_Row_become_6 ?_
  refine va_alen (v := nI cap) hx hb hK hP 1 1 rfl rfl rfl d_Row_become_9 ?_
  refine va_mmin hx hb (by rw [hml]; exact hl.1.symm) hown (hts _ mw186) (hts _ mw150) (hts _ mw28) (hts _ mw151) (Nat.le_of_ble_eq_true rfl) (Nat.le_of_ble_eq_true rfl) (Nat.le_of_ble_eq_true rfl) (Nat.le_of_ble_eq_true rfl) d_Row_become_10 ?_
  refine kt_i (y := nI L2.length) (if_neg (nI_nlt (by omega) (by omega))) ?_
  refine va_put (D := (dC, dI)) (ci := 2) (v := .int (nI L2.length)) (ty := .int) (C := "DemoTape$ByteRow") (T := F_Row) (N := 2) hx hb hts i_Row t_Row t_Row_ok n_Row hown hK hP hD hS 0 rfl rfl 1 (by decide) (hts _ mw77) (fun _ h9 => h9) rfl (by decide +kernel) rfl rfl (Nat.le_of_ble_eq_true rfl) d_Row_become_13 (fun H locs hP hD hS => ?_)
  have hP : va_P (dC, dI) classes [(r, .inr (2, [.ref b, .int (nI L2.length)])), (b, .inl (cB, cap, .inl f)), (r2, .inr (2, [.ref b2, .int (nI L2.length)])), (b2, .inl (cB, cap2, .inl f2))] H := hP
  have hD : va_D A [(r, .inr (2, [.ref b, .int (nI L2.length)])), (b, .inl (cB, cap, .inl f)), (r2, .inr (2, [.ref b2, .int (nI L2.length)])), (b2, .inl (cB, cap2, .inl f2))] := hD
  refine lv_aload_n hx hb d_Row_become_16 rfl (lv_at hl 1 rfl) ?_
  refine va_get (D := (dC, dI)) (ci := 2) (v := .ref b2) (C := "DemoTape$ByteRow") (T := F_Row) (N := 2) hx hb hts i_Row hown hK hP 2 rfl rfl 0 (by decide) (hts _ mw76) (fun _ h9 => h9) rfl d_Row_become_17 ?_
  refine lv_iconst (v := 0) hx hb d_Row_become_20 (by decide) ?_
  refine lv_aload_n hx hb d_Row_become_21 rfl (lv_at hl 0 rfl) ?_
  refine va_get (D := (dC, dI)) (ci := 2) (v := .ref b) (C := "DemoTape$ByteRow") (T := F_Row) (N := 2) hx hb hts i_Row hown hK hP 0 rfl rfl 0 (by decide) (hts _ mw76) (fun _ h9 => h9) rfl d_Row_become_22 ?_
  refine lv_iconst (v := 0) hx hb d_Row_become_25 (by decide) ?_
  refine lv_aload_n hx hb d_Row_become_26 rfl (lv_at hl 0 rfl) ?_
  refine va_get (D := (dC, dI)) (ci := 2) (v := .int (nI L2.length)) (C := "DemoTape$ByteRow") (T := F_Row) (N := 2) hx hb hts i_Row hown hK hP 0 rfl rfl 1 (by decide) (hts _ mw77) (fun _ h9 => h9) rfl d_Row_become_27 ?_
  refine va_copyi (ty := .byte) hx hb (by rw [hml]; exact hl.1.symm) hown (hts _ mw256) (hts _ mw258) (hts _ mw257) (hts _ mw32) hK hP hD hS 3 1 1 1 rfl rfl rfl rfl rfl (by decide) (by decide) (nI_pos (by omega)) (by rw [sb_cl0, nI_clamp (by omega)]; omega) (by rw [sb_cl0, nI_clamp (by omega)]; omega) (fun i hi => by rw [nI_clamp (by omega)] at hi; rw [sb_cl0, Nat.zero_add, hf2 i hi]; exact sb_fitB _) (Nat.le_of_ble_eq_true rfl) (Nat.le_of_ble_eq_true rfl) d_Row_become_30 (fun H locs hP hD hS => ?_)
  have hP : va_P (dC, dI) classes [(r, .inr (2, [.ref b, .int (nI L2.length)])), (b, .inl (cB, cap, .inl (va_cpy f2 f (0 : Int32).toNatClampNeg (0 : Int32).toNatClampNeg (nI L2.length).toNatClampNeg))), (r2, .inr (2, [.ref b2, .int (nI L2.length)])), (b2, .inl (cB, cap2, .inl f2))] H := hP
  have hD : va_D A [(r, .inr (2, [.ref b, .int (nI L2.length)])), (b, .inl (cB, cap, .inl (va_cpy f2 f (0 : Int32).toNatClampNeg (0 : Int32).toNatClampNeg (nI L2.length).toNatClampNeg))), (r2, .inr (2, [.ref b2, .int (nI L2.length)])), (b2, .inl (cB, cap2, .inl f2))] := hD
  rw [nI_clamp (by omega)] at hP hD
  have hP : va_P (dC, dI) classes [(r, .inr (2, [.ref b, .int (nI L2.length)])), (b, .inl (cB, cap, .inl (va_cpy f2 f (0 : Int32).toNatClampNeg (0 : Int32).toNatClampNeg L2.length))), (r2, .inr (2, [.ref b2, .int (nI L2.length)])), (b2, .inl (cB, cap2, .inl f2))] H := hP
  have hD : va_D A [(r, .inr (2, [.ref b, .int (nI L2.length)])), (b, .inl (cB, cap, .inl (va_cpy f2 f (0 : Int32).toNatClampNeg (0 : Int32).toNatClampNeg L2.length))), (r2, .inr (2, [.ref b2, .int (nI L2.length)])), (b2, .inl (cB, cap2, .inl f2))] := hD
  exact kr_v (va_cpy f2 f (0 : Int32).toNatClampNeg (0 : Int32).toNatClampNeg L2.length) hx hb hr hK (hP.sub [0, 1, 2, 3] (rfl)) (hD.sub [0, 1, 2, 3] (by decide) (rfl)) hS (⟨hf2.cpy, hy2, hk, hcap⟩) d_Row_become_33 hlocks
abbrev Qc_Row_checkOfFirst (dC : Nat → ClassId) (dI : Nat → Nat → Nat) (cI cB cZ : ClassId) (r : Nat) (b : Nat) (cap : Nat) (f : Nat → Int32) (L : List Nat) (k : Nat) (A : Nat → Prop) := va_Qi (fun (r9 : Int32) (_ : Unit) => (r9 = kChk (L.take k))) (ka (dC, dI) classes [(cI, .int), (cB, .byte), (cZ, .boolean)] (fun (_ : Unit) => [(r, .inr (2, [.ref b, .int (nI L.length)])), (b, .inl (cB, cap, .inl f))]) A) A
set_option maxHeartbeats 1000000 in
set_option maxRecDepth 100000 in
/-- ByteRow.checkOfFirst -/
theorem c_Row_checkOfFirst (l : Launch) (dC : Nat → ClassId) (dI : Nat → Nat → Nat) (cI cB cZ : ClassId) (sz : Nat) (r : Nat) (b : Nat) (cap : Nat) (f : Nat → Int32) (L : List Nat) (k : Nat) (hB : BRow cap f L) (hk : k ≤ L.length) : Met l y_Row_checkOfFirst w_Row_checkOfFirst ({ frames := 1, cells := 0, slots := 0, locals := 21 }) (va_Pc [.ref r, .int (nI k)] (kp (dC, dI) classes [(cI, .int), (cB, .byte), (cZ, .boolean)] [(r, .inr (2, [.ref b, .int (nI L.length)])), (b, .inl (cB, cap, .inl f))] sz)) (Qc_Row_checkOfFirst dC dI cI cB cZ r b cap f L k (va_A [(r, .inr (2, [.ref b, .int (nI L.length)])), (b, .inl (cB, cap, .inl f))] sz)) 0 0 (va_A [(r, .inr (2, [.ref b, .int (nI L.length)])), (b, .inl (cB, cap, .inl f))] sz) := by
  refine Met.ofW (cc := prog_2_method_9_code) (maxL := 5) (ret := (some .int)) (by decide) rfl ?_
  intro p e s m args below meth c s₁ B hml hv
  obtain ⟨rfl, hsz, hP, hK, hD0⟩ := hv
  have hx := B.exec
  have hb := B.bytes
  have hr := B.returns
  have hts := fun w h => atoms_spec (ws := w_Row_checkOfFirst) B.pre w (List.mem_cons_of_mem _ h)
  have hown : s.vm.findClass "DemoTape$ByteRow" = some m.cls := findClass_of_methodNamed B.named
  have hlocks := B.notSynchronized
  subst hsz
  have hD := hD0.self (sz := s.heap.size)
  generalize hAe : va_A ([(r, .inr (2, [.ref b, .int (nI L.length)])), (b, .inl (cB, cap, .inl f))] : va_W) s.heap.size = A at hD ⊢
  have hA : ∀ q : Nat, s.heap.size ≤ q → A q := fun q h => by rw [← hAe]; exact Or.inr h
  have hS : va_S A s.heap s.heap [] := va_S.rf
  have hP : va_P (dC, dI) classes [(r, .inr (2, [.ref b, .int (nI L.length)])), (b, .inl (cB, cap, .inl f))] s.heap := hP
  obtain ⟨hf, hy, hc, hcap⟩ := id hB
  have hl := lv_entry ([.ref r, .int (nI k)]) (n := 5) (Nat.le_of_ble_eq_true rfl)
  rw [lg_entry_eq]
  generalize (lg_sl ([.ref r, .int (nI k)]) ++ List.replicate (5 - (lg_sl ([.ref r, .int (nI k)])).length) Slot.unset).toArray = ls at hl ⊢
  have hl : lv_has ls 5 [(0, .ref r), (1, .int (nI k))] := hl
  have J_7 : ∀ (fuel : Nat) (j : Nat) (a9 : Nat) (b9 : Nat), (k - j < fuel) → (j ≤ k) → (kCk (L.take j) (1, 0) = (a9, b9)) → (a9 < 65521) → (b9 < 65521) → ∀ (H : Heap) (locs : List Loc), va_P (dC, dI) classes [(r, .inr (2, [.ref b, .int (nI L.length)])), (b, .inl (cB, cap, .inl f))] H → va_D A [(r, .inr (2, [.ref b, .int (nI L.length)])), (b, .inl (cB, cap, .inl f))] → va_S A s.heap H locs → ∀ (ls : Array Slot), lv_has ls 5 [(0, .ref r), (1, .int (nI k)), (2, .int (nI a9)), (3, .int (nI b9)), (4, .int (nI j))] → W p l e (headSpec w_Row_checkOfFirst ({ frames := 1, cells := 0, slots := 0, locals := 21 })).room s m [.ref r, .int (nI k)].toArray below meth c H locs 0 0 (MQ below (Qc_Row_checkOfFirst dC dI cI cB cZ r b cap f L k A) [.ref r, .int (nI k)].toArray s 0 0 A) (F0 m 7 ls []) := by
    intro fuel
    induction fuel with
    | zero => intro j a9 b9 hm; exact absurd hm (Nat.not_lt_zero _)
    | succ fuel ih_7 =>
      intro j a9 b9 hm hj he ha hb9 H locs hP hD hS ls hl
      refine lv_iload hx hb d_Row_checkOfFirst_7 (lv_at hl 4 rfl) ?_
      refine lv_iload_n hx hb d_Row_checkOfFirst_9 rfl (lv_at hl 1 rfl) ?_
      refine lv_icmp_ge (tgt := 47) hx hb d_Row_checkOfFirst_10 (by decide) (fun c_10 => ?_) (fun c_10 => ?_)
      · have n_10 := kn_le (a := k) (b := j) c_10 rfl rfl (by omega) (by omega)
        refine lv_iload_n hx hb d_Row_checkOfFirst_47 rfl (lv_at hl 3 rfl) ?_
        refine lv_bipush (v := 16) hx hb d_Row_checkOfFirst_48 (by decide) ?_
        refine lv_ishl hx hb d_Row_checkOfFirst_50 ?_
        refine lv_iload_n hx hb d_Row_checkOfFirst_51 rfl (lv_at hl 2 rfl) ?_
        refine lv_ior hx hb d_Row_checkOfFirst_52 ?_
        exact kr_i (v := ((nI b9) <<< ((16 : Int32) &&& 31)) ||| (nI a9)) () hx hb hr rfl hK (hP.sub [0, 1] (rfl)) (hD.sub [0, 1] (by decide) (rfl)) hS (by have e9 : k = j := (by omega); rw [e9]; unfold kChk; rw [he]) d_Row_checkOfFirst_53 hlocks
      · have n_10 := kn_nle (a := k) (b := j) c_10 rfl rfl (by omega) (by omega)
        refine lv_iload hx hb d_Row_checkOfFirst_13 (lv_at hl 4 rfl) ?_
        refine lv_aload_n hx hb d_Row_checkOfFirst_15 rfl (lv_at hl 0 rfl) ?_
        refine va_get (D := (dC, dI)) (ci := 2) (v := .int (nI L.length)) (C := "DemoTape$ByteRow") (T := F_Row) (N := 2) hx hb hts i_Row hown hK hP 0 rfl rfl 1 (by decide) (hts _ mw77) (fun _ h9 => h9) rfl d_Row_checkOfFirst_16 ?_
        refine lv_icmp_ge (tgt := 47) hx hb d_Row_checkOfFirst_19 (by decide) (fun c_19 => ?_) (fun c_19 => ?_)
        · exact absurd c_19 (nI_ge (by omega) (by omega))
        · refine lv_iload_n hx hb d_Row_checkOfFirst_22 rfl (lv_at hl 2 rfl) ?_
          refine lv_aload_n hx hb d_Row_checkOfFirst_23 rfl (lv_at hl 0 rfl) ?_
          refine lv_iload hx hb d_Row_checkOfFirst_24 (lv_at hl 4 rfl) ?_
          refine kq_i (wr := []) (va_runV (As := [.int (nI j)]) (rest := [.int (nI a9)]) ⟨hx, hb, hml, hown, hts⟩ (c_Row_get l dC dI cI cB cZ _ r b cap f L (nI j) (by first | with_reducible assumption | omega | decide)) (cwV 1 hts (gV mw233 mw234 mw235 mw27 mw236) rfl rfl rfl (by decide +kernel) ⟨Nat.le_of_ble_eq_true rfl, Nat.le_of_ble_eq_true rfl⟩) (kpV (wc := [(r, .inr (2, [.ref b, .int (nI L.length)])), (b, .inl (cB, cap, .inl f))]) (q0 := 0) (ci := 2) hK hP hD [0, 1] rfl (by decide) rfl rfl rfl) rfl rfl hl.1 rfl (lv_room (Nat.le_of_ble_eq_true rfl)) d_Row_checkOfFirst_26 ⟨Nat.le_of_ble_eq_true rfl, Nat.le_of_ble_eq_true rfl⟩) hP hD hS hA [0, 1] [] [0, 1] rfl rfl (by decide) (by decide) rfl (fun r_26 H locs hw hP hS => ?_)
          have e_26 := hw
          refine kt_i e_26 ?_
          refine kt_i (y := nI (L.getD j 0)) (kGetB_at (by omega) (by omega)) ?_
          have hlt := Byt.getD hy j
          refine lv_iadd hx hb d_Row_checkOfFirst_29 ?_
          refine kt_i (y := nI (a9 + L.getD j 0)) (nI_add _ _) ?_
          refine lv_ldc (v := 65521) hx hb hown (hts _ mw237) d_Row_checkOfFirst_30 ?_
          refine lv_irem hx hb d_Row_checkOfFirst_32 (by decide) ?_
          refine kt_i (y := nI ((a9 + L.getD j 0) % 65521)) (pk_rem (by omega) (by decide) (by decide)) ?_
          refine lv_istore_n (lv' := [(2, .int (nI ((a9 + L.getD j 0) % 65521))), (0, .ref r), (1, .int (nI k)), (3, .int (nI b9)), (4, .int (nI j))]) hx hb d_Row_checkOfFirst_33 rfl hl (by decide) rfl (fun ls hl => ?_)
          refine lv_iload_n hx hb d_Row_checkOfFirst_34 rfl (lv_at hl 3 rfl) ?_
          refine lv_iload_n hx hb d_Row_checkOfFirst_35 rfl (lv_at hl 0 rfl) ?_
          refine lv_iadd hx hb d_Row_checkOfFirst_36 ?_
          refine kt_i (y := nI (b9 + (a9 + L.getD j 0) % 65521)) (nI_add _ _) ?_
          refine lv_ldc (v := 65521) hx hb hown (hts _ mw237) d_Row_checkOfFirst_37 ?_
          refine lv_irem hx hb d_Row_checkOfFirst_39 (by decide) ?_
          refine kt_i (y := nI ((b9 + (a9 + L.getD j 0) % 65521) % 65521)) (pk_rem (by omega) (by decide) (by decide)) ?_
          refine lv_istore_n (lv' := [(3, .int (nI ((b9 + (a9 + L.getD j 0) % 65521) % 65521))), (2, .int (nI ((a9 + L.getD j 0) % 65521))), (0, .ref r), (1, .int (nI k)), (4, .int (nI j))]) hx hb d_Row_checkOfFirst_40 rfl hl (by decide) rfl (fun ls hl => ?_)
          refine lv_iinc (v := nI (j + 1)) (lv' := [(4, .int (nI (j + 1))), (3, .int (nI ((b9 + (a9 + L.getD j 0) % 65521) % 65521))), (2, .int (nI ((a9 + L.getD j 0) % 65521))), (0, .ref r), (1, .int (nI k))]) hx hb d_Row_checkOfFirst_41 hl (k := 4) rfl (by first | rfl | exact nI_1 _) (by decide) rfl (fun ls hl => ?_)
          refine lv_goto (tgt := 7) hx hb d_Row_checkOfFirst_44 (by decide) ?_
          exact ih_7 (j + 1) ((a9 + L.getD j 0) % 65521) ((b9 + (a9 + L.getD j 0) % 65521) % 65521) (by omega) (by first | with_reducible assumption | omega) (kCk_step he (by omega)) (Nat.mod_lt _ (by decide)) (Nat.mod_lt _ (by decide)) _ _ (hP.sub [0, 1] (rfl)) (hD.sub [0, 1] (by decide) (rfl)) hS ls (lv_sub hl [3, 4, 2, 1, 0] rfl)
  refine lv_iconst (v := 1) hx hb d_Row_checkOfFirst_0 (by decide) ?_
  refine lv_istore_n (lv' := [(2, .int 1), (0, .ref r), (1, .int (nI k))]) hx hb d_Row_checkOfFirst_1 rfl hl (by decide) rfl (fun ls hl => ?_)
  refine lv_iconst (v := 0) hx hb d_Row_checkOfFirst_2 (by decide) ?_
  refine lv_istore_n (lv' := [(3, .int 0), (2, .int 1), (0, .ref r), (1, .int (nI k))]) hx hb d_Row_checkOfFirst_3 rfl hl (by decide) rfl (fun ls hl => ?_)
  refine lv_iconst (v := 0) hx hb d_Row_checkOfFirst_4 (by decide) ?_
  refine lv_istore (lv' := [(4, .int 0), (3, .int 0), (2, .int 1), (0, .ref r), (1, .int (nI k))]) hx hb d_Row_checkOfFirst_5 hl (by decide) rfl (fun ls hl => ?_)
  exact J_7 _ 0 1 0 (Nat.lt_succ_self _) (by first | with_reducible assumption | omega) (rfl) (by decide) (by decide) _ _ (hP.sub [0, 1] (rfl)) (hD.sub [0, 1] (by decide) (rfl)) hS ls (lv_sub hl [3, 4, 2, 1, 0] rfl)
