abbrev Qc_Walk_count (dC : Nat → ClassId) (dI : Nat → Nat → Nat) (cI cB cZ : ClassId) (w : Nat) (a : Nat) (f : Nat → Int32) (L : List Int32) (x : Int32) (y : Int32) (g : Int32) (t : Int32) (A : Nat → Prop) := va_Qi (fun (r9 : Int32) (_ : Unit) => (r9 = nI L.length)) (ka (dC, dI) classes [(cI, .int), (cB, .byte), (cZ, .boolean)] (fun (_ : Unit) => [(w, .inr (1, [.ref a, .int (nI L.length), .int x, .int y, .int g, .int t])), (a, .inl (cI, 1024, .inl f))]) A) A
set_option maxHeartbeats 1000000 in
set_option maxRecDepth 100000 in
/-- Walk.count -/
theorem c_Walk_count (l : Launch) (dC : Nat → ClassId) (dI : Nat → Nat → Nat) (cI cB cZ : ClassId) (sz : Nat) (w : Nat) (a : Nat) (f : Nat → Int32) (L : List Int32) (x : Int32) (y : Int32) (g : Int32) (t : Int32)  : Met l y_Walk_count w_Walk_count ({ frames := 0, cells := 0, slots := 0, locals := 0 }) (va_Pc [.ref w] (kp (dC, dI) classes [(cI, .int), (cB, .byte), (cZ, .boolean)] [(w, .inr (1, [.ref a, .int (nI L.length), .int x, .int y, .int g, .int t])), (a, .inl (cI, 1024, .inl f))] sz)) (Qc_Walk_count dC dI cI cB cZ w a f L x y g t (va_A [(w, .inr (1, [.ref a, .int (nI L.length), .int x, .int y, .int g, .int t])), (a, .inl (cI, 1024, .inl f))] sz)) 0 0 (va_A [(w, .inr (1, [.ref a, .int (nI L.length), .int x, .int y, .int g, .int t])), (a, .inl (cI, 1024, .inl f))] sz) := by
  refine Met.ofW (cc := prog_5_method_2_code) (maxL := 1) (ret := (some .int)) (by decide) rfl ?_
  intro p e s m args below meth c s₁ B hml hv
  obtain ⟨rfl, hsz, hP, hK, hD0⟩ := hv
  have hx := B.exec
  have hb := B.bytes
  have hr := B.returns
  have hts := fun w h => atoms_spec (ws := w_Walk_count) B.pre w (List.mem_cons_of_mem _ h)
  have hown : s.vm.findClass "DemoTape$Walk" = some m.cls := findClass_of_methodNamed B.named
  have hlocks := B.notSynchronized
  subst hsz
  have hD := hD0.self (sz := s.heap.size)
  generalize hAe : va_A ([(w, .inr (1, [.ref a, .int (nI L.length), .int x, .int y, .int g, .int t])), (a, .inl (cI, 1024, .inl f))] : va_W) s.heap.size = A at hD ⊢
  have hA : ∀ q : Nat, s.heap.size ≤ q → A q := fun q h => by rw [← hAe]; exact Or.inr h
  have hS : va_S A s.heap s.heap [] := va_S.rf
  have hP : va_P (dC, dI) classes [(w, .inr (1, [.ref a, .int (nI L.length), .int x, .int y, .int g, .int t])), (a, .inl (cI, 1024, .inl f))] s.heap := hP
  have hl := lv_entry ([.ref w]) (n := 1) (Nat.le_of_ble_eq_true rfl)
  rw [lg_entry_eq]
  generalize (lg_sl ([.ref w]) ++ List.replicate (1 - (lg_sl ([.ref w])).length) Slot.unset).toArray = ls at hl ⊢
  have hl : lv_has ls 1 [(0, .ref w)] := hl
  refine lv_aload_n hx hb d_Walk_count_0 rfl (lv_at hl 0 rfl) ?_
  refine va_get (D := (dC, dI)) (ci := 1) (v := .int (nI L.length)) (C := "DemoTape$Walk") (T := F_Walk) (N := 6) hx hb hts i_Walk hown hK hP 0 rfl rfl 1 (by decide) (hts _ mw48) (fun _ h9 => h9) rfl d_Walk_count_1 ?_
  exact kr_i (v := nI L.length) () hx hb hr rfl hK (hP.sub [0, 1] (rfl)) (hD.sub [0, 1] (by decide) (rfl)) hS (by first | with_reducible rfl | with_reducible assumption | rfl | omega) d_Walk_count_4 hlocks
abbrev Qc_Walk_room (dC : Nat → ClassId) (dI : Nat → Nat → Nat) (cI cB cZ : ClassId) (w : Nat) (a : Nat) (f : Nat → Int32) (L : List Int32) (x : Int32) (y : Int32) (g : Int32) (t : Int32) (A : Nat → Prop) := va_Qi (fun (r9 : Int32) (_ : Unit) => (r9 = nI (1024 - L.length))) (ka (dC, dI) classes [(cI, .int), (cB, .byte), (cZ, .boolean)] (fun (_ : Unit) => [(w, .inr (1, [.ref a, .int (nI L.length), .int x, .int y, .int g, .int t])), (a, .inl (cI, 1024, .inl f))]) A) A
set_option maxHeartbeats 1000000 in
set_option maxRecDepth 100000 in
/-- Walk.room -/
theorem c_Walk_room (l : Launch) (dC : Nat → ClassId) (dI : Nat → Nat → Nat) (cI cB cZ : ClassId) (sz : Nat) (w : Nat) (a : Nat) (f : Nat → Int32) (L : List Int32) (x : Int32) (y : Int32) (g : Int32) (t : Int32) (hW : WRow f L) : Met l y_Walk_room w_Walk_room ({ frames := 0, cells := 0, slots := 0, locals := 0 }) (va_Pc [.ref w] (kp (dC, dI) classes [(cI, .int), (cB, .byte), (cZ, .boolean)] [(w, .inr (1, [.ref a, .int (nI L.length), .int x, .int y, .int g, .int t])), (a, .inl (cI, 1024, .inl f))] sz)) (Qc_Walk_room dC dI cI cB cZ w a f L x y g t (va_A [(w, .inr (1, [.ref a, .int (nI L.length), .int x, .int y, .int g, .int t])), (a, .inl (cI, 1024, .inl f))] sz)) 0 0 (va_A [(w, .inr (1, [.ref a, .int (nI L.length), .int x, .int y, .int g, .int t])), (a, .inl (cI, 1024, .inl f))] sz) := by
  refine Met.ofW (cc := prog_5_method_3_code) (maxL := 1) (ret := (some .int)) (by decide) rfl ?_
  intro p e s m args below meth c s₁ B hml hv
  obtain ⟨rfl, hsz, hP, hK, hD0⟩ := hv
  have hx := B.exec
  have hb := B.bytes
  have hr := B.returns
  have hts := fun w h => atoms_spec (ws := w_Walk_room) B.pre w (List.mem_cons_of_mem _ h)
  have hown : s.vm.findClass "DemoTape$Walk" = some m.cls := findClass_of_methodNamed B.named
  have hlocks := B.notSynchronized
  subst hsz
  have hD := hD0.self (sz := s.heap.size)
  generalize hAe : va_A ([(w, .inr (1, [.ref a, .int (nI L.length), .int x, .int y, .int g, .int t])), (a, .inl (cI, 1024, .inl f))] : va_W) s.heap.size = A at hD ⊢
  have hA : ∀ q : Nat, s.heap.size ≤ q → A q := fun q h => by rw [← hAe]; exact Or.inr h
  have hS : va_S A s.heap s.heap [] := va_S.rf
  have hP : va_P (dC, dI) classes [(w, .inr (1, [.ref a, .int (nI L.length), .int x, .int y, .int g, .int t])), (a, .inl (cI, 1024, .inl f))] s.heap := hP
  obtain ⟨hf, hL⟩ := id hW
  have hl := lv_entry ([.ref w]) (n := 1) (Nat.le_of_ble_eq_true rfl)
  rw [lg_entry_eq]
  generalize (lg_sl ([.ref w]) ++ List.replicate (1 - (lg_sl ([.ref w])).length) Slot.unset).toArray = ls at hl ⊢
  have hl : lv_has ls 1 [(0, .ref w)] := hl
  refine lv_aload_n hx hb d_Walk_room_0 rfl (lv_at hl 0 rfl) ?_
  refine va_get (D := (dC, dI)) (ci := 1) (v := .ref a) (C := "DemoTape$Walk") (T := F_Walk) (N := 6) hx hb hts i_Walk hown hK hP 0 rfl rfl 0 (by decide) (hts _ mw47) (fun _ h9 => h9) rfl d_Walk_room_1 ?_
  refine va_alen (v := nI 1024) hx hb hK hP 1 0 rfl rfl rfl d_Walk_room_4 ?_
  refine lv_aload_n hx hb d_Walk_room_5 rfl (lv_at hl 0 rfl) ?_
  refine va_get (D := (dC, dI)) (ci := 1) (v := .int (nI L.length)) (C := "DemoTape$Walk") (T := F_Walk) (N := 6) hx hb hts i_Walk hown hK hP 0 rfl rfl 1 (by decide) (hts _ mw48) (fun _ h9 => h9) rfl d_Walk_room_6 ?_
  refine lv_isub hx hb d_Walk_room_9 ?_
  refine kt_i (y := nI (1024 - L.length)) (pk_sub (by omega)) ?_
  exact kr_i (v := nI (1024 - L.length)) () hx hb hr rfl hK (hP.sub [0, 1] (rfl)) (hD.sub [0, 1] (by decide) (rfl)) hS (by first | with_reducible rfl | with_reducible assumption | rfl | omega) d_Walk_room_10 hlocks
abbrev Qc_Walk_codeAt (dC : Nat → ClassId) (dI : Nat → Nat → Nat) (cI cB cZ : ClassId) (w : Nat) (a : Nat) (f : Nat → Int32) (L : List Int32) (x : Int32) (y : Int32) (g : Int32) (t : Int32) (i : Int32) (A : Nat → Prop) := va_Qi (fun (r9 : Int32) (_ : Unit) => (r9 = kGet L i)) (ka (dC, dI) classes [(cI, .int), (cB, .byte), (cZ, .boolean)] (fun (_ : Unit) => [(w, .inr (1, [.ref a, .int (nI L.length), .int x, .int y, .int g, .int t])), (a, .inl (cI, 1024, .inl f))]) A) A
set_option maxHeartbeats 1000000 in
set_option maxRecDepth 100000 in
/-- Walk.codeAt -/
theorem c_Walk_codeAt (l : Launch) (dC : Nat → ClassId) (dI : Nat → Nat → Nat) (cI cB cZ : ClassId) (sz : Nat) (w : Nat) (a : Nat) (f : Nat → Int32) (L : List Int32) (x : Int32) (y : Int32) (g : Int32) (t : Int32) (i : Int32) (hW : WRow f L) : Met l y_Walk_codeAt w_Walk_codeAt ({ frames := 0, cells := 0, slots := 0, locals := 0 }) (va_Pc [.ref w, .int i] (kp (dC, dI) classes [(cI, .int), (cB, .byte), (cZ, .boolean)] [(w, .inr (1, [.ref a, .int (nI L.length), .int x, .int y, .int g, .int t])), (a, .inl (cI, 1024, .inl f))] sz)) (Qc_Walk_codeAt dC dI cI cB cZ w a f L x y g t i (va_A [(w, .inr (1, [.ref a, .int (nI L.length), .int x, .int y, .int g, .int t])), (a, .inl (cI, 1024, .inl f))] sz)) 0 0 (va_A [(w, .inr (1, [.ref a, .int (nI L.length), .int x, .int y, .int g, .int t])), (a, .inl (cI, 1024, .inl f))] sz) := by
  refine Met.ofW (cc := prog_5_method_4_code) (maxL := 2) (ret := (some .int)) (by decide) rfl ?_
  intro p e s m args below meth c s₁ B hml hv
  obtain ⟨rfl, hsz, hP, hK, hD0⟩ := hv
  have hx := B.exec
  have hb := B.bytes
  have hr := B.returns
  have hts := fun w h => atoms_spec (ws := w_Walk_codeAt) B.pre w (List.mem_cons_of_mem _ h)
  have hown : s.vm.findClass "DemoTape$Walk" = some m.cls := findClass_of_methodNamed B.named
  have hlocks := B.notSynchronized
  subst hsz
  have hD := hD0.self (sz := s.heap.size)
  generalize hAe : va_A ([(w, .inr (1, [.ref a, .int (nI L.length), .int x, .int y, .int g, .int t])), (a, .inl (cI, 1024, .inl f))] : va_W) s.heap.size = A at hD ⊢
  have hA : ∀ q : Nat, s.heap.size ≤ q → A q := fun q h => by rw [← hAe]; exact Or.inr h
  have hS : va_S A s.heap s.heap [] := va_S.rf
  have hP : va_P (dC, dI) classes [(w, .inr (1, [.ref a, .int (nI L.length), .int x, .int y, .int g, .int t])), (a, .inl (cI, 1024, .inl f))] s.heap := hP
  obtain ⟨hf, hL⟩ := id hW
  have hl := lv_entry ([.ref w, .int i]) (n := 2) (Nat.le_of_ble_eq_true rfl)
  rw [lg_entry_eq]
  generalize (lg_sl ([.ref w, .int i]) ++ List.replicate (2 - (lg_sl ([.ref w, .int i])).length) Slot.unset).toArray = ls at hl ⊢
  have hl : lv_has ls 2 [(0, .ref w), (1, .int i)] := hl
  refine lv_iload_n hx hb d_Walk_codeAt_0 rfl (lv_at hl 1 rfl) ?_
  refine lv_if_lt (tgt := 30) hx hb d_Walk_codeAt_1 (by decide) (fun c_1 => ?_) (fun c_1 => ?_)
  · refine lv_iconst (v := -1) hx hb d_Walk_codeAt_30 (by decide) ?_
    exact kr_i (v := -1) () hx hb hr rfl hK (hP.sub [0, 1] (rfl)) (hD.sub [0, 1] (by decide) (rfl)) hS ((kGet_neg c_1).symm) d_Walk_codeAt_31 hlocks
  · obtain ⟨j, hj, rfl⟩ := nI_of c_1
    refine lv_iload_n hx hb d_Walk_codeAt_4 rfl (lv_at hl 1 rfl) ?_
    refine lv_aload_n hx hb d_Walk_codeAt_5 rfl (lv_at hl 0 rfl) ?_
    refine va_get (D := (dC, dI)) (ci := 1) (v := .int (nI L.length)) (C := "DemoTape$Walk") (T := F_Walk) (N := 6) hx hb hts i_Walk hown hK hP 0 rfl rfl 1 (by decide) (hts _ mw48) (fun _ h9 => h9) rfl d_Walk_codeAt_6 ?_
    refine lv_icmp_ge (tgt := 30) hx hb d_Walk_codeAt_9 (by decide) (fun c_9 => ?_) (fun c_9 => ?_)
    · have n_9 := kn_le (a := L.length) (b := j) c_9 rfl rfl (by omega) (by omega)
      refine lv_iconst (v := -1) hx hb d_Walk_codeAt_30 (by decide) ?_
      exact kr_i (v := -1) () hx hb hr rfl hK (hP.sub [0, 1] (rfl)) (hD.sub [0, 1] (by decide) (rfl)) hS (by rw [kGet_nI hj, List.getElem?_eq_none n_9]; rfl) d_Walk_codeAt_31 hlocks
    · have n_9 := kn_nle (a := L.length) (b := j) c_9 rfl rfl (by omega) (by omega)
      refine lv_iload_n hx hb d_Walk_codeAt_12 rfl (lv_at hl 1 rfl) ?_
      refine lv_aload_n hx hb d_Walk_codeAt_13 rfl (lv_at hl 0 rfl) ?_
      refine va_get (D := (dC, dI)) (ci := 1) (v := .ref a) (C := "DemoTape$Walk") (T := F_Walk) (N := 6) hx hb hts i_Walk hown hK hP 0 rfl rfl 0 (by decide) (hts _ mw47) (fun _ h9 => h9) rfl d_Walk_codeAt_14 ?_
      refine va_alen (v := nI 1024) hx hb hK hP 1 0 rfl rfl rfl d_Walk_codeAt_17 ?_
      refine lv_icmp_ge (tgt := 30) hx hb d_Walk_codeAt_18 (by decide) (fun c_18 => ?_) (fun c_18 => ?_)
      · have n_18 := kn_le (a := 1024) (b := j) c_18 rfl rfl (by omega) (by omega)
        refine lv_iconst (v := -1) hx hb d_Walk_codeAt_30 (by decide) ?_
        exact kr_i (v := -1) () hx hb hr rfl hK (hP.sub [0, 1] (rfl)) (hD.sub [0, 1] (by decide) (rfl)) hS (absurd n_18 (by omega)) d_Walk_codeAt_31 hlocks
      · have n_18 := kn_nle (a := 1024) (b := j) c_18 rfl rfl (by omega) (by omega)
        refine lv_aload_n hx hb d_Walk_codeAt_21 rfl (lv_at hl 0 rfl) ?_
        refine va_get (D := (dC, dI)) (ci := 1) (v := .ref a) (C := "DemoTape$Walk") (T := F_Walk) (N := 6) hx hb hts i_Walk hown hK hP 0 rfl rfl 0 (by decide) (hts _ mw47) (fun _ h9 => h9) rfl d_Walk_codeAt_22 ?_
        refine lv_iload_n hx hb d_Walk_codeAt_25 rfl (lv_at hl 1 rfl) ?_
        refine kt_iald (j := j) hx hb hK hP 1 0 rfl rfl (by omega) (by decide) d_Walk_codeAt_26 ?_
        refine lv_goto (tgt := 31) hx hb d_Walk_codeAt_27 (by decide) ?_
        exact kr_i (v := f j) () hx hb hr rfl hK (hP.sub [0, 1] (rfl)) (hD.sub [0, 1] (by decide) (rfl)) hS (by rw [kGet_nI hj]; exact hf.at n_9) d_Walk_codeAt_31 hlocks
abbrev Qc_Walk_setStart (dC : Nat → ClassId) (dI : Nat → Nat → Nat) (cI cB cZ : ClassId) (w : Nat) (a : Nat) (f : Nat → Int32) (L : List Int32) (x : Int32) (y : Int32) (g : Int32) (t : Int32) (x1 : Int32) (y1 : Int32) (g1 : Int32) (t1 : Int32) (A : Nat → Prop) := va_Qv (fun (_ : Unit) => True) (ka (dC, dI) classes [(cI, .int), (cB, .byte), (cZ, .boolean)] (fun (_ : Unit) => [(w, .inr (1, [.ref a, .int (nI L.length), .int x1, .int y1, .int g1, .int t1])), (a, .inl (cI, 1024, .inl f))]) A) A
set_option maxHeartbeats 1000000 in
set_option maxRecDepth 100000 in
/-- Walk.setStart -/
theorem c_Walk_setStart (l : Launch) (dC : Nat → ClassId) (dI : Nat → Nat → Nat) (cI cB cZ : ClassId) (sz : Nat) (w : Nat) (a : Nat) (f : Nat → Int32) (L : List Int32) (x : Int32) (y : Int32) (g : Int32) (t : Int32) (x1 : Int32) (y1 : Int32) (g1 : Int32) (t1 : Int32)  : Met l y_Walk_setStart w_Walk_setStart ({ frames := 0, cells := 0, slots := 0, locals := 0 }) (va_Pc [.ref w, .int x1, .int y1, .int g1, .int t1] (kp (dC, dI) classes [(cI, .int), (cB, .byte), (cZ, .boolean)] [(w, .inr (1, [.ref a, .int (nI L.length), .int x, .int y, .int g, .int t])), (a, .inl (cI, 1024, .inl f))] sz)) (Qc_Walk_setStart dC dI cI cB cZ w a f L x y g t x1 y1 g1 t1 (va_A [(w, .inr (1, [.ref a, .int (nI L.length), .int x, .int y, .int g, .int t])), (a, .inl (cI, 1024, .inl f))] sz)) 0 0 (va_A [(w, .inr (1, [.ref a, .int (nI L.length), .int x, .int y, .int g, .int t])), (a, .inl (cI, 1024, .inl f))] sz) := by
  refine Met.ofW (cc := prog_5_method_5_code) (maxL := 5) (ret := none) (by decide) rfl ?_
  intro p e s m args below meth c s₁ B hml hv
  obtain ⟨rfl, hsz, hP, hK, hD0⟩ := hv
  have hx := B.exec
  have hb := B.bytes
  have hr := B.returns
  have hts := fun w h => atoms_spec (ws := w_Walk_setStart) B.pre w (List.mem_cons_of_mem _ h)
  have hown : s.vm.findClass "DemoTape$Walk" = some m.cls := findClass_of_methodNamed B.named
  have hlocks := B.notSynchronized
  subst hsz
  have hD := hD0.self (sz := s.heap.size)
  generalize hAe : va_A ([(w, .inr (1, [.ref a, .int (nI L.length), .int x, .int y, .int g, .int t])), (a, .inl (cI, 1024, .inl f))] : va_W) s.heap.size = A at hD ⊢
  have hA : ∀ q : Nat, s.heap.size ≤ q → A q := fun q h => by rw [← hAe]; exact Or.inr h
  have hS : va_S A s.heap s.heap [] := va_S.rf
  have hP : va_P (dC, dI) classes [(w, .inr (1, [.ref a, .int (nI L.length), .int x, .int y, .int g, .int t])), (a, .inl (cI, 1024, .inl f))] s.heap := hP
  have hl := lv_entry ([.ref w, .int x1, .int y1, .int g1, .int t1]) (n := 5) (Nat.le_of_ble_eq_true rfl)
  rw [lg_entry_eq]
  generalize (lg_sl ([.ref w, .int x1, .int y1, .int g1, .int t1]) ++ List.replicate (5 - (lg_sl ([.ref w, .int x1, .int y1, .int g1, .int t1])).length) Slot.unset).toArray = ls at hl ⊢
  have hl : lv_has ls 5 [(0, .ref w), (1, .int x1), (2, .int y1), (3, .int g1), (4, .int t1)] := hl
  refine lv_aload_n hx hb d_Walk_setStart_0 rfl (lv_at hl 0 rfl) ?_
  refine lv_iload_n hx hb d_Walk_setStart_1 rfl (lv_at hl 1 rfl) ?_
  refine va_put (D := (dC, dI)) (ci := 1) (v := .int x1) (ty := .int) (C := "DemoTape$Walk") (T := F_Walk) (N := 6) hx hb hts i_Walk t_Walk t_Walk_ok n_Walk hown hK hP hD hS 0 rfl rfl 2 (by decide) (hts _ mw49) (fun _ h9 => h9) rfl (by decide +kernel) rfl rfl (Nat.le_of_ble_eq_true rfl) d_Walk_setStart_2 (fun H locs hP hD hS => ?_)
  have hP : va_P (dC, dI) classes [(w, .inr (1, [.ref a, .int (nI L.length), .int x1, .int y, .int g, .int t])), (a, .inl (cI, 1024, .inl f))] H := hP
  have hD : va_D A [(w, .inr (1, [.ref a, .int (nI L.length), .int x1, .int y, .int g, .int t])), (a, .inl (cI, 1024, .inl f))] := hD
  refine lv_aload_n hx hb d_Walk_setStart_5 rfl (lv_at hl 0 rfl) ?_
  refine lv_iload_n hx hb d_Walk_setStart_6 rfl (lv_at hl 2 rfl) ?_
  refine va_put (D := (dC, dI)) (ci := 1) (v := .int y1) (ty := .int) (C := "DemoTape$Walk") (T := F_Walk) (N := 6) hx hb hts i_Walk t_Walk t_Walk_ok n_Walk hown hK hP hD hS 0 rfl rfl 3 (by decide) (hts _ mw50) (fun _ h9 => h9) rfl (by decide +kernel) rfl rfl (Nat.le_of_ble_eq_true rfl) d_Walk_setStart_7 (fun H locs hP hD hS => ?_)
  have hP : va_P (dC, dI) classes [(w, .inr (1, [.ref a, .int (nI L.length), .int x1, .int y1, .int g, .int t])), (a, .inl (cI, 1024, .inl f))] H := hP
  have hD : va_D A [(w, .inr (1, [.ref a, .int (nI L.length), .int x1, .int y1, .int g, .int t])), (a, .inl (cI, 1024, .inl f))] := hD
  refine lv_aload_n hx hb d_Walk_setStart_10 rfl (lv_at hl 0 rfl) ?_
  refine lv_iload_n hx hb d_Walk_setStart_11 rfl (lv_at hl 3 rfl) ?_
  refine va_put (D := (dC, dI)) (ci := 1) (v := .int g1) (ty := .int) (C := "DemoTape$Walk") (T := F_Walk) (N := 6) hx hb hts i_Walk t_Walk t_Walk_ok n_Walk hown hK hP hD hS 0 rfl rfl 4 (by decide) (hts _ mw51) (fun _ h9 => h9) rfl (by decide +kernel) rfl rfl (Nat.le_of_ble_eq_true rfl) d_Walk_setStart_12 (fun H locs hP hD hS => ?_)
  have hP : va_P (dC, dI) classes [(w, .inr (1, [.ref a, .int (nI L.length), .int x1, .int y1, .int g1, .int t])), (a, .inl (cI, 1024, .inl f))] H := hP
  have hD : va_D A [(w, .inr (1, [.ref a, .int (nI L.length), .int x1, .int y1, .int g1, .int t])), (a, .inl (cI, 1024, .inl f))] := hD
  refine lv_aload_n hx hb d_Walk_setStart_15 rfl (lv_at hl 0 rfl) ?_
  refine lv_iload hx hb d_Walk_setStart_16 (lv_at hl 4 rfl) ?_
  refine va_put (D := (dC, dI)) (ci := 1) (v := .int t1) (ty := .int) (C := "DemoTape$Walk") (T := F_Walk) (N := 6) hx hb hts i_Walk t_Walk t_Walk_ok n_Walk hown hK hP hD hS 0 rfl rfl 5 (by decide) (hts _ mw52) (fun _ h9 => h9) rfl (by decide +kernel) rfl rfl (Nat.le_of_ble_eq_true rfl) d_Walk_setStart_18 (fun H locs hP hD hS => ?_)
  have hP : va_P (dC, dI) classes [(w, .inr (1, [.ref a, .int (nI L.length), .int x1, .int y1, .int g1, .int t1])), (a, .inl (cI, 1024, .inl f))] H := hP
  have hD : va_D A [(w, .inr (1, [.ref a, .int (nI L.length), .int x1, .int y1, .int g1, .int t1])), (a, .inl (cI, 1024, .inl f))] := hD
  exact kr_v () hx hb hr hK (hP.sub [0, 1] (rfl)) (hD.sub [0, 1] (by decide) (rfl)) hS trivial d_Walk_setStart_21 hlocks
abbrev Qc_Walk_startPart (dC : Nat → ClassId) (dI : Nat → Nat → Nat) (cI cB cZ : ClassId) (w : Nat) (a : Nat) (f : Nat → Int32) (L : List Int32) (x : Int32) (y : Int32) (g : Int32) (t : Int32) (wh : Int32) (A : Nat → Prop) := va_Qi (fun (r9 : Int32) (_ : Unit) => (r9 = kStart x y g t wh)) (ka (dC, dI) classes [(cI, .int), (cB, .byte), (cZ, .boolean)] (fun (_ : Unit) => [(w, .inr (1, [.ref a, .int (nI L.length), .int x, .int y, .int g, .int t])), (a, .inl (cI, 1024, .inl f))]) A) A
set_option maxHeartbeats 1000000 in
set_option maxRecDepth 100000 in
/-- Walk.startPart -/
theorem c_Walk_startPart (l : Launch) (dC : Nat → ClassId) (dI : Nat → Nat → Nat) (cI cB cZ : ClassId) (sz : Nat) (w : Nat) (a : Nat) (f : Nat → Int32) (L : List Int32) (x : Int32) (y : Int32) (g : Int32) (t : Int32) (wh : Int32)  : Met l y_Walk_startPart w_Walk_startPart ({ frames := 0, cells := 0, slots := 0, locals := 0 }) (va_Pc [.ref w, .int wh] (kp (dC, dI) classes [(cI, .int), (cB, .byte), (cZ, .boolean)] [(w, .inr (1, [.ref a, .int (nI L.length), .int x, .int y, .int g, .int t])), (a, .inl (cI, 1024, .inl f))] sz)) (Qc_Walk_startPart dC dI cI cB cZ w a f L x y g t wh (va_A [(w, .inr (1, [.ref a, .int (nI L.length), .int x, .int y, .int g, .int t])), (a, .inl (cI, 1024, .inl f))] sz)) 0 0 (va_A [(w, .inr (1, [.ref a, .int (nI L.length), .int x, .int y, .int g, .int t])), (a, .inl (cI, 1024, .inl f))] sz) := by
  refine Met.ofW (cc := prog_5_method_6_code) (maxL := 2) (ret := (some .int)) (by decide) rfl ?_
  intro p e s m args below meth c s₁ B hml hv
  obtain ⟨rfl, hsz, hP, hK, hD0⟩ := hv
  have hx := B.exec
  have hb := B.bytes
  have hr := B.returns
  have hts := fun w h => atoms_spec (ws := w_Walk_startPart) B.pre w (List.mem_cons_of_mem _ h)
  have hown : s.vm.findClass "DemoTape$Walk" = some m.cls := findClass_of_methodNamed B.named
  have hlocks := B.notSynchronized
  subst hsz
  have hD := hD0.self (sz := s.heap.size)
  generalize hAe : va_A ([(w, .inr (1, [.ref a, .int (nI L.length), .int x, .int y, .int g, .int t])), (a, .inl (cI, 1024, .inl f))] : va_W) s.heap.size = A at hD ⊢
  have hA : ∀ q : Nat, s.heap.size ≤ q → A q := fun q h => by rw [← hAe]; exact Or.inr h
  have hS : va_S A s.heap s.heap [] := va_S.rf
  have hP : va_P (dC, dI) classes [(w, .inr (1, [.ref a, .int (nI L.length), .int x, .int y, .int g, .int t])), (a, .inl (cI, 1024, .inl f))] s.heap := hP
  have hl := lv_entry ([.ref w, .int wh]) (n := 2) (Nat.le_of_ble_eq_true rfl)
  rw [lg_entry_eq]
  generalize (lg_sl ([.ref w, .int wh]) ++ List.replicate (2 - (lg_sl ([.ref w, .int wh])).length) Slot.unset).toArray = ls at hl ⊢
  have hl : lv_has ls 2 [(0, .ref w), (1, .int wh)] := hl
  refine lv_iload_n hx hb d_Walk_startPart_0 rfl (lv_at hl 1 rfl) ?_
  by_cases c_1 : wh.toInt < 0 ∨ 3 < wh.toInt
  · refine lv_tableOut (tgt := 52) hx hb d_Walk_startPart_1 c_1 (by decide) ?_
    refine lv_ldc (v := 100000) hx hb hown (hts _ mw356) d_Walk_startPart_52 ?_
    exact kr_i (v := 100000) () hx hb hr rfl hK (hP.sub [0, 1] (rfl)) (hD.sub [0, 1] (by decide) (rfl)) hS ((kStart_out c_1).symm) d_Walk_startPart_54 hlocks
  · by_cases c_1_0 : wh = 0
    · refine lv_tableIn (tgt := 32) (off := 31) hx hb d_Walk_startPart_1 (by rw [c_1_0]; decide) (by rw [c_1_0]; decide) (by rw [c_1_0]; rfl) (by decide) ?_
      refine lv_aload_n hx hb d_Walk_startPart_32 rfl (lv_at hl 0 rfl) ?_
      refine va_get (D := (dC, dI)) (ci := 1) (v := .int x) (C := "DemoTape$Walk") (T := F_Walk) (N := 6) hx hb hts i_Walk hown hK hP 0 rfl rfl 2 (by decide) (hts _ mw49) (fun _ h9 => h9) rfl d_Walk_startPart_33 ?_
      exact kr_i (v := x) () hx hb hr rfl hK (hP.sub [0, 1] (rfl)) (hD.sub [0, 1] (by decide) (rfl)) hS (by rw [c_1_0]; rfl) d_Walk_startPart_36 hlocks
    · by_cases c_1_1 : wh = 1
      · refine lv_tableIn (tgt := 37) (off := 36) hx hb d_Walk_startPart_1 (by rw [c_1_1]; decide) (by rw [c_1_1]; decide) (by rw [c_1_1]; rfl) (by decide) ?_
        refine lv_aload_n hx hb d_Walk_startPart_37 rfl (lv_at hl 0 rfl) ?_
        refine va_get (D := (dC, dI)) (ci := 1) (v := .int y) (C := "DemoTape$Walk") (T := F_Walk) (N := 6) hx hb hts i_Walk hown hK hP 0 rfl rfl 3 (by decide) (hts _ mw50) (fun _ h9 => h9) rfl d_Walk_startPart_38 ?_
        exact kr_i (v := y) () hx hb hr rfl hK (hP.sub [0, 1] (rfl)) (hD.sub [0, 1] (by decide) (rfl)) hS (by rw [c_1_1]; rfl) d_Walk_startPart_41 hlocks
      · by_cases c_1_2 : wh = 2
        · refine lv_tableIn (tgt := 42) (off := 41) hx hb d_Walk_startPart_1 (by rw [c_1_2]; decide) (by rw [c_1_2]; decide) (by rw [c_1_2]; rfl) (by decide) ?_
          refine lv_aload_n hx hb d_Walk_startPart_42 rfl (lv_at hl 0 rfl) ?_
          refine va_get (D := (dC, dI)) (ci := 1) (v := .int g) (C := "DemoTape$Walk") (T := F_Walk) (N := 6) hx hb hts i_Walk hown hK hP 0 rfl rfl 4 (by decide) (hts _ mw51) (fun _ h9 => h9) rfl d_Walk_startPart_43 ?_
          exact kr_i (v := g) () hx hb hr rfl hK (hP.sub [0, 1] (rfl)) (hD.sub [0, 1] (by decide) (rfl)) hS (by rw [c_1_2]; rfl) d_Walk_startPart_46 hlocks
        · have c_1_3 : wh = 3 := by have h100 : wh.toInt ≠ 0 := fun h => c_1_0 (Int32.toInt_inj.mp (h.trans (by decide))); have h101 : wh.toInt ≠ 1 := fun h => c_1_1 (Int32.toInt_inj.mp (h.trans (by decide))); have h102 : wh.toInt ≠ 2 := fun h => c_1_2 (Int32.toInt_inj.mp (h.trans (by decide))); apply Int32.toInt_inj.mp; have h0 : (3 : Int32).toInt = 3 := (by decide); rw [h0]; omega
          refine lv_tableIn (tgt := 47) (off := 46) hx hb d_Walk_startPart_1 (by rw [c_1_3]; decide) (by rw [c_1_3]; decide) (by rw [c_1_3]; rfl) (by decide) ?_
          refine lv_aload_n hx hb d_Walk_startPart_47 rfl (lv_at hl 0 rfl) ?_
          refine va_get (D := (dC, dI)) (ci := 1) (v := .int t) (C := "DemoTape$Walk") (T := F_Walk) (N := 6) hx hb hts i_Walk hown hK hP 0 rfl rfl 5 (by decide) (hts _ mw52) (fun _ h9 => h9) rfl d_Walk_startPart_48 ?_
          exact kr_i (v := t) () hx hb hr rfl hK (hP.sub [0, 1] (rfl)) (hD.sub [0, 1] (by decide) (rfl)) hS (by rw [c_1_3]; rfl) d_Walk_startPart_51 hlocks
abbrev Qc_Walk_append (dC : Nat → ClassId) (dI : Nat → Nat → Nat) (cI cB cZ : ClassId) (w : Nat) (a : Nat) (f : Nat → Int32) (L : List Int32) (x : Int32) (y : Int32) (g : Int32) (t : Int32) (cd : Int32) (k : Nat) (A : Nat → Prop) := va_Qv (fun (u9 : (Nat → Int32)) => (WRow u9 (L ++ List.replicate k cd))) (ka (dC, dI) classes [(cI, .int), (cB, .byte), (cZ, .boolean)] (fun (u9 : (Nat → Int32)) => [(w, .inr (1, [.ref a, .int (nI (L ++ List.replicate k cd).length), .int x, .int y, .int g, .int t])), (a, .inl (cI, 1024, .inl u9))]) A) A
set_option maxHeartbeats 1000000 in
set_option maxRecDepth 100000 in
/-- Walk.append -/
theorem c_Walk_append (l : Launch) (dC : Nat → ClassId) (dI : Nat → Nat → Nat) (cI cB cZ : ClassId) (sz : Nat) (w : Nat) (a : Nat) (f : Nat → Int32) (L : List Int32) (x : Int32) (y : Int32) (g : Int32) (t : Int32) (cd : Int32) (k : Nat) (hW : WRow f L) (hk : L.length + k ≤ 1024) : Met l y_Walk_append w_Walk_append ({ frames := 1, cells := 0, slots := 0, locals := 13 }) (va_Pc [.ref w, .int cd, .int (nI k)] (kp (dC, dI) classes [(cI, .int), (cB, .byte), (cZ, .boolean)] [(w, .inr (1, [.ref a, .int (nI L.length), .int x, .int y, .int g, .int t])), (a, .inl (cI, 1024, .inl f))] sz)) (Qc_Walk_append dC dI cI cB cZ w a f L x y g t cd k (va_A [(w, .inr (1, [.ref a, .int (nI L.length), .int x, .int y, .int g, .int t])), (a, .inl (cI, 1024, .inl f))] sz)) 0 0 (va_A [(w, .inr (1, [.ref a, .int (nI L.length), .int x, .int y, .int g, .int t])), (a, .inl (cI, 1024, .inl f))] sz) := by
  refine Met.ofW (cc := prog_5_method_7_code) (maxL := 5) (ret := none) (by decide) rfl ?_
  intro p e s m args below meth c s₁ B hml hv
  obtain ⟨rfl, hsz, hP, hK, hD0⟩ := hv
  have hx := B.exec
  have hb := B.bytes
  have hr := B.returns
  have hts := fun w h => atoms_spec (ws := w_Walk_append) B.pre w (List.mem_cons_of_mem _ h)
  have hown : s.vm.findClass "DemoTape$Walk" = some m.cls := findClass_of_methodNamed B.named
  have hlocks := B.notSynchronized
  subst hsz
  have hD := hD0.self (sz := s.heap.size)
  generalize hAe : va_A ([(w, .inr (1, [.ref a, .int (nI L.length), .int x, .int y, .int g, .int t])), (a, .inl (cI, 1024, .inl f))] : va_W) s.heap.size = A at hD ⊢
  have hA : ∀ q : Nat, s.heap.size ≤ q → A q := fun q h => by rw [← hAe]; exact Or.inr h
  have hS : va_S A s.heap s.heap [] := va_S.rf
  have hP : va_P (dC, dI) classes [(w, .inr (1, [.ref a, .int (nI L.length), .int x, .int y, .int g, .int t])), (a, .inl (cI, 1024, .inl f))] s.heap := hP
  obtain ⟨hf, hL⟩ := id hW
  have hl := lv_entry ([.ref w, .int cd, .int (nI k)]) (n := 5) (Nat.le_of_ble_eq_true rfl)
  rw [lg_entry_eq]
  generalize (lg_sl ([.ref w, .int cd, .int (nI k)]) ++ List.replicate (5 - (lg_sl ([.ref w, .int cd, .int (nI k)])).length) Slot.unset).toArray = ls at hl ⊢
  have hl : lv_has ls 5 [(0, .ref w), (1, .int cd), (2, .int (nI k))] := hl
  have J_21 : ∀ (fuel : Nat) (j : Nat) (f2 : Nat → Int32), (k - j < fuel) → (j ≤ k) → (Hold f2 (L ++ List.replicate j cd)) → ∀ (H : Heap) (locs : List Loc), va_P (dC, dI) classes [(w, .inr (1, [.ref a, .int (nI L.length), .int x, .int y, .int g, .int t])), (a, .inl (cI, 1024, .inl f2))] H → va_D A [(w, .inr (1, [.ref a, .int (nI L.length), .int x, .int y, .int g, .int t])), (a, .inl (cI, 1024, .inl f2))] → va_S A s.heap H locs → ∀ (ls : Array Slot), lv_has ls 5 [(0, .ref w), (1, .int cd), (3, .int (nI (L.length + k))), (4, .int (nI (L.length + j)))] → W p l e (headSpec w_Walk_append ({ frames := 1, cells := 0, slots := 0, locals := 13 })).room s m [.ref w, .int cd, .int (nI k)].toArray below meth c H locs 0 0 (MQ below (Qc_Walk_append dC dI cI cB cZ w a f L x y g t cd k A) [.ref w, .int cd, .int (nI k)].toArray s 0 0 A) (F0 m 21 ls []) := by
    intro fuel
    induction fuel with
    | zero => intro j f2 hm; exact absurd hm (Nat.not_lt_zero _)
    | succ fuel ih_21 =>
      intro j f2 hm hj hf2 H locs hP hD hS ls hl
      refine lv_iload hx hb d_Walk_append_21 (lv_at hl 3 rfl) ?_
      refine lv_iload_n hx hb d_Walk_append_23 rfl (lv_at hl 2 rfl) ?_
      refine lv_icmp_ge (tgt := 41) hx hb d_Walk_append_24 (by decide) (fun c_24 => ?_) (fun c_24 => ?_)
      · have n_24 := kn_le (a := L.length + k) (b := L.length + j) c_24 rfl rfl (by omega) (by omega)
        refine lv_aload_n hx hb d_Walk_append_41 rfl (lv_at hl 0 rfl) ?_
        refine lv_iload_n hx hb d_Walk_append_42 rfl (lv_at hl 2 rfl) ?_
        refine kt_i (y := nI (L ++ List.replicate k cd).length) (by rw [List.length_append, List.length_replicate]) ?_
        refine va_put (D := (dC, dI)) (ci := 1) (v := .int (nI (L ++ List.replicate k cd).length)) (ty := .int) (C := "DemoTape$Walk") (T := F_Walk) (N := 6) hx hb hts i_Walk t_Walk t_Walk_ok n_Walk hown hK hP hD hS 0 rfl rfl 1 (by decide) (hts _ mw48) (fun _ h9 => h9) rfl (by decide +kernel) rfl rfl (Nat.le_of_ble_eq_true rfl) d_Walk_append_43 (fun H locs hP hD hS => ?_)
        have hP : va_P (dC, dI) classes [(w, .inr (1, [.ref a, .int (nI (L ++ List.replicate k cd).length), .int x, .int y, .int g, .int t])), (a, .inl (cI, 1024, .inl f2))] H := hP
        have hD : va_D A [(w, .inr (1, [.ref a, .int (nI (L ++ List.replicate k cd).length), .int x, .int y, .int g, .int t])), (a, .inl (cI, 1024, .inl f2))] := hD
        exact kr_v f2 hx hb hr hK (hP.sub [0, 1] (rfl)) (hD.sub [0, 1] (by decide) (rfl)) hS (by have e9 : k = j := (by omega); rw [e9]; exact ⟨hf2, by rw [List.length_append, List.length_replicate]; omega⟩) d_Walk_append_46 hlocks
      · have n_24 := kn_nle (a := L.length + k) (b := L.length + j) c_24 rfl rfl (by omega) (by omega)
        refine lv_aload_n hx hb d_Walk_append_27 rfl (lv_at hl 0 rfl) ?_
        refine va_get (D := (dC, dI)) (ci := 1) (v := .ref a) (C := "DemoTape$Walk") (T := F_Walk) (N := 6) hx hb hts i_Walk hown hK hP 0 rfl rfl 0 (by decide) (hts _ mw47) (fun _ h9 => h9) rfl d_Walk_append_28 ?_
        refine lv_iload hx hb d_Walk_append_31 (lv_at hl 3 rfl) ?_
        refine lv_iload_n hx hb d_Walk_append_33 rfl (lv_at hl 1 rfl) ?_
        refine kt_iast (j := L.length + j) hx hb hK hP hD hS 1 0 rfl rfl (by omega) (by decide) d_Walk_append_34 (fun H locs hP hD hS => ?_)
        have hP : va_P (dC, dI) classes [(w, .inr (1, [.ref a, .int (nI L.length), .int x, .int y, .int g, .int t])), (a, .inl (cI, 1024, .inl (upd f2 (L.length + j) cd)))] H := hP
        have hD : va_D A [(w, .inr (1, [.ref a, .int (nI L.length), .int x, .int y, .int g, .int t])), (a, .inl (cI, 1024, .inl (upd f2 (L.length + j) cd)))] := hD
        refine lv_iinc (v := nI (L.length + j + 1)) (lv' := [(4, .int (nI (L.length + j + 1))), (0, .ref w), (1, .int cd), (3, .int (nI (L.length + k)))]) hx hb d_Walk_append_35 hl (k := 3) rfl (by first | rfl | exact nI_1 _) (by decide) rfl (fun ls hl => ?_)
        refine lv_goto (tgt := 21) hx hb d_Walk_append_38 (by decide) ?_
        exact ih_21 (j + 1) (upd f2 (L.length + j) cd) (by omega) (by first | with_reducible assumption | omega) (by have h9 := hf2.push cd; rw [List.length_append, List.length_replicate] at h9; rw [List.replicate_succ', ← List.append_assoc]; exact h9) _ _ (hP.sub [0, 1] (rfl)) (hD.sub [0, 1] (by decide) (rfl)) hS ls (lv_sub hl [1, 2, 3, 0] rfl)
  refine lv_aload_n hx hb d_Walk_append_0 rfl (lv_at hl 0 rfl) ?_
  refine va_get (D := (dC, dI)) (ci := 1) (v := .int (nI L.length)) (C := "DemoTape$Walk") (T := F_Walk) (N := 6) hx hb hts i_Walk hown hK hP 0 rfl rfl 1 (by decide) (hts _ mw48) (fun _ h9 => h9) rfl d_Walk_append_1 ?_
  refine lv_iload_n hx hb d_Walk_append_4 rfl (lv_at hl 2 rfl) ?_
  refine lv_iadd hx hb d_Walk_append_5 ?_
  refine kt_i (y := nI (L.length + k)) (nI_add _ _) ?_
  refine lv_aload_n hx hb d_Walk_append_6 rfl (lv_at hl 0 rfl) ?_
  refine va_get (D := (dC, dI)) (ci := 1) (v := .ref a) (C := "DemoTape$Walk") (T := F_Walk) (N := 6) hx hb hts i_Walk hown hK hP 0 rfl rfl 0 (by decide) (hts _ mw47) (fun _ h9 => h9) rfl d_Walk_append_7 ?_
  refine va_alen (v := nI 1024) hx hb hK hP 1 0 rfl rfl rfl d_Walk_append_10 ?_
  refine va_mmin hx hb (by rw [hml]; exact hl.1.symm) hown (hts _ mw149) (hts _ mw150) (hts _ mw28) (hts _ mw151) (Nat.le_of_ble_eq_true rfl) (Nat.le_of_ble_eq_true rfl) (Nat.le_of_ble_eq_true rfl) (Nat.le_of_ble_eq_true rfl) d_Walk_append_11 ?_
  refine kt_i (y := nI (L.length + k)) (if_neg (fun q => by have := kn_lt q rfl rfl (by omega) (by omega); omega)) ?_
  refine lv_istore_n (lv' := [(3, .int (nI (L.length + k))), (0, .ref w), (1, .int cd), (2, .int (nI k))]) hx hb d_Walk_append_14 rfl hl (by decide) rfl (fun ls hl => ?_)
  refine lv_aload_n hx hb d_Walk_append_15 rfl (lv_at hl 1 rfl) ?_
  refine va_get (D := (dC, dI)) (ci := 1) (v := .int (nI L.length)) (C := "DemoTape$Walk") (T := F_Walk) (N := 6) hx hb hts i_Walk hown hK hP 0 rfl rfl 1 (by decide) (hts _ mw48) (fun _ h9 => h9) rfl d_Walk_append_16 ?_
  refine lv_istore (lv' := [(4, .int (nI L.length)), (3, .int (nI (L.length + k))), (0, .ref w), (1, .int cd), (2, .int (nI k))]) hx hb d_Walk_append_19 hl (by decide) rfl (fun ls hl => ?_)
  exact J_21 _ 0 f (Nat.lt_succ_self _) (by first | with_reducible assumption | omega) (by simpa using hf) _ _ (hP.sub [0, 1] (rfl)) (hD.sub [0, 1] (by decide) (rfl)) hS ls (lv_sub hl [2, 3, 1, 0] rfl)
abbrev Qc_Walk_repeat (dC : Nat → ClassId) (dI : Nat → Nat → Nat) (cI cB cZ : ClassId) (w : Nat) (a : Nat) (f : Nat → Int32) (L : List Int32) (x : Int32) (y : Int32) (g : Int32) (t : Int32) (ia : Nat) (k : Nat) (A : Nat → Prop) := va_Qv (fun (u9 : (Nat → Int32)) => (WRow u9 (L ++ (L.drop ia).take k))) (ka (dC, dI) classes [(cI, .int), (cB, .byte), (cZ, .boolean)] (fun (u9 : (Nat → Int32)) => [(w, .inr (1, [.ref a, .int (nI (L ++ (L.drop ia).take k).length), .int x, .int y, .int g, .int t])), (a, .inl (cI, 1024, .inl u9))]) A) A
set_option maxHeartbeats 1000000 in
set_option maxRecDepth 100000 in
/-- Walk.repeat -/
theorem c_Walk_repeat (l : Launch) (dC : Nat → ClassId) (dI : Nat → Nat → Nat) (cI cB cZ : ClassId) (sz : Nat) (w : Nat) (a : Nat) (f : Nat → Int32) (L : List Int32) (x : Int32) (y : Int32) (g : Int32) (t : Int32) (ia : Nat) (k : Nat) (hW : WRow f L) (h1 : ia + k ≤ L.length) (h2 : L.length + k ≤ 1024) : Met l y_Walk_repeat w_Walk_repeat ({ frames := 2, cells := 0, slots := 0, locals := 37 }) (va_Pc [.ref w, .int (nI ia), .int (nI k)] (kp (dC, dI) classes [(cI, .int), (cB, .byte), (cZ, .boolean)] [(w, .inr (1, [.ref a, .int (nI L.length), .int x, .int y, .int g, .int t])), (a, .inl (cI, 1024, .inl f))] sz)) (Qc_Walk_repeat dC dI cI cB cZ w a f L x y g t ia k (va_A [(w, .inr (1, [.ref a, .int (nI L.length), .int x, .int y, .int g, .int t])), (a, .inl (cI, 1024, .inl f))] sz)) 0 0 (va_A [(w, .inr (1, [.ref a, .int (nI L.length), .int x, .int y, .int g, .int t])), (a, .inl (cI, 1024, .inl f))] sz) := by
  refine Met.ofW (cc := prog_5_method_8_code) (maxL := 4) (ret := none) (by decide) rfl ?_
  intro p e s m args below meth c s₁ B hml hv
  obtain ⟨rfl, hsz, hP, hK, hD0⟩ := hv
  have hx := B.exec
  have hb := B.bytes
  have hr := B.returns
  have hts := fun w h => atoms_spec (ws := w_Walk_repeat) B.pre w (List.mem_cons_of_mem _ h)
  have hown : s.vm.findClass "DemoTape$Walk" = some m.cls := findClass_of_methodNamed B.named
  have hlocks := B.notSynchronized
  subst hsz
  have hD := hD0.self (sz := s.heap.size)
  generalize hAe : va_A ([(w, .inr (1, [.ref a, .int (nI L.length), .int x, .int y, .int g, .int t])), (a, .inl (cI, 1024, .inl f))] : va_W) s.heap.size = A at hD ⊢
  have hA : ∀ q : Nat, s.heap.size ≤ q → A q := fun q h => by rw [← hAe]; exact Or.inr h
  have hS : va_S A s.heap s.heap [] := va_S.rf
  have hP : va_P (dC, dI) classes [(w, .inr (1, [.ref a, .int (nI L.length), .int x, .int y, .int g, .int t])), (a, .inl (cI, 1024, .inl f))] s.heap := hP
  obtain ⟨hf, hL⟩ := id hW
  have hl := lv_entry ([.ref w, .int (nI ia), .int (nI k)]) (n := 4) (Nat.le_of_ble_eq_true rfl)
  rw [lg_entry_eq]
  generalize (lg_sl ([.ref w, .int (nI ia), .int (nI k)]) ++ List.replicate (4 - (lg_sl ([.ref w, .int (nI ia), .int (nI k)])).length) Slot.unset).toArray = ls at hl ⊢
  have hl : lv_has ls 4 [(0, .ref w), (1, .int (nI ia)), (2, .int (nI k))] := hl
  have J_2 : ∀ (fuel : Nat) (j : Nat) (f2 : Nat → Int32), (k - j < fuel) → (j ≤ k) → (WRow f2 (L ++ (L.drop ia).take j)) → ∀ (H : Heap) (locs : List Loc), va_P (dC, dI) classes [(w, .inr (1, [.ref a, .int (nI (L ++ (L.drop ia).take j).length), .int x, .int y, .int g, .int t])), (a, .inl (cI, 1024, .inl f2))] H → va_D A [(w, .inr (1, [.ref a, .int (nI (L ++ (L.drop ia).take j).length), .int x, .int y, .int g, .int t])), (a, .inl (cI, 1024, .inl f2))] → va_S A s.heap H locs → ∀ (ls : Array Slot), lv_has ls 4 [(0, .ref w), (1, .int (nI ia)), (2, .int (nI k)), (3, .int (nI j))] → W p l e (headSpec w_Walk_repeat ({ frames := 2, cells := 0, slots := 0, locals := 37 })).room s m [.ref w, .int (nI ia), .int (nI k)].toArray below meth c H locs 0 0 (MQ below (Qc_Walk_repeat dC dI cI cB cZ w a f L x y g t ia k A) [.ref w, .int (nI ia), .int (nI k)].toArray s 0 0 A) (F0 m 2 ls []) := by
    intro fuel
    induction fuel with
    | zero => intro j f2 hm; exact absurd hm (Nat.not_lt_zero _)
    | succ fuel ih_2 =>
      intro j f2 hm hj hf2 H locs hP hD hS ls hl
      refine lv_iload_n hx hb d_Walk_repeat_2 rfl (lv_at hl 3 rfl) ?_
      refine lv_iload_n hx hb d_Walk_repeat_3 rfl (lv_at hl 2 rfl) ?_
      refine lv_icmp_ge (tgt := 25) hx hb d_Walk_repeat_4 (by decide) (fun c_4 => ?_) (fun c_4 => ?_)
      · have n_4 := kn_le (a := k) (b := j) c_4 rfl rfl (by omega) (by omega)
        obtain rfl : k = j := by omega
        exact kr_v f2 hx hb hr hK (hP.sub [0, 1] (rfl)) (hD.sub [0, 1] (by decide) (rfl)) hS (hf2) d_Walk_repeat_25 hlocks
      · have n_4 := kn_nle (a := k) (b := j) c_4 rfl rfl (by omega) (by omega)
        refine lv_aload_n hx hb d_Walk_repeat_7 rfl (lv_at hl 0 rfl) ?_
        refine lv_aload_n hx hb d_Walk_repeat_8 rfl (lv_at hl 0 rfl) ?_
        refine lv_iload_n hx hb d_Walk_repeat_9 rfl (lv_at hl 1 rfl) ?_
        refine lv_iload_n hx hb d_Walk_repeat_10 rfl (lv_at hl 3 rfl) ?_
        refine lv_iadd hx hb d_Walk_repeat_11 ?_
        refine kt_i (y := nI (ia + j)) (nI_add _ _) ?_
        refine kq_i (wr := []) (va_runV (As := [.int (nI (ia + j))]) (rest := [.ref w]) ⟨hx, hb, hml, hown, hts⟩ (c_Walk_codeAt l dC dI cI cB cZ _ w a f2 (L ++ (L.drop ia).take j) x y g t (nI (ia + j)) (by first | with_reducible assumption | omega | decide)) (cwV 1 hts (gV mw173 mw174 mw175 mw26 mw176) rfl rfl rfl (by decide +kernel) ⟨Nat.le_of_ble_eq_true rfl, Nat.le_of_ble_eq_true rfl⟩) (kpV (wc := [(w, .inr (1, [.ref a, .int (nI (L ++ (L.drop ia).take j).length), .int x, .int y, .int g, .int t])), (a, .inl (cI, 1024, .inl f2))]) (q0 := 0) (ci := 1) hK hP hD [0, 1] rfl (by decide) rfl rfl rfl) rfl rfl hl.1 rfl (lv_room (Nat.le_of_ble_eq_true rfl)) d_Walk_repeat_12 ⟨Nat.le_of_ble_eq_true rfl, Nat.le_of_ble_eq_true rfl⟩) hP hD hS hA [0, 1] [] [0, 1] rfl rfl (by decide) (by decide) rfl (fun r_12 H locs hw hP hS => ?_)
        have e_12 := hw
        refine kt_i e_12 ?_
        refine kt_i (y := (L[ia + j]?).getD (-1)) (by rw [kGet_nI (by omega), List.getElem?_append_left (by omega)]) ?_
        refine lv_iconst (v := 1) hx hb d_Walk_repeat_15 (by decide) ?_
        refine kc_v (wr := []) (w2 := fun (u9 : (Nat → Int32)) => [(w, .inr (1, [.ref a, .int (nI ((L ++ (L.drop ia).take j) ++ List.replicate 1 ((L[ia + j]?).getD (-1))).length), .int x, .int y, .int g, .int t])), (a, .inl (cI, 1024, .inl u9))]) (va_runV (As := [.int ((L[ia + j]?).getD (-1)), .int 1]) (rest := []) ⟨hx, hb, hml, hown, hts⟩ (c_Walk_append l dC dI cI cB cZ _ w a f2 (L ++ (L.drop ia).take j) x y g t ((L[ia + j]?).getD (-1)) 1 (by first | with_reducible assumption | omega | decide) (by simp only [List.length_append, List.length_take, List.length_drop]; omega)) (cwV 2 hts (gV mw177 mw146 mw147 mw26 mw148) rfl rfl rfl (by decide +kernel) ⟨Nat.le_of_ble_eq_true rfl, Nat.le_of_ble_eq_true rfl⟩) (kpV (wc := [(w, .inr (1, [.ref a, .int (nI (L ++ (L.drop ia).take j).length), .int x, .int y, .int g, .int t])), (a, .inl (cI, 1024, .inl f2))]) (q0 := 0) (ci := 1) hK hP hD [0, 1] rfl (by decide) rfl rfl rfl) rfl rfl hl.1 rfl (lv_room (Nat.le_of_ble_eq_true rfl)) d_Walk_repeat_16 ⟨Nat.le_of_ble_eq_true rfl, Nat.le_of_ble_eq_true rfl⟩) hP hD hS hA [0, 1] [] [0, 1] rfl rfl (by decide) (by decide) (fun _ => rfl) (by decide) (fun _ => rfl) (fun u9 H locs hw hP hD hS => ?_)
        obtain ⟨f1_16, rfl⟩ : ∃ z, z = u9 := ⟨_, rfl⟩
        try dsimp only at hw
        have hP : va_P (dC, dI) classes [(w, .inr (1, [.ref a, .int (nI ((L ++ (L.drop ia).take j) ++ List.replicate 1 ((L[ia + j]?).getD (-1))).length), .int x, .int y, .int g, .int t])), (a, .inl (cI, 1024, .inl f1_16))] H := hP
        have hD : va_D A [(w, .inr (1, [.ref a, .int (nI ((L ++ (L.drop ia).take j) ++ List.replicate 1 ((L[ia + j]?).getD (-1))).length), .int x, .int y, .int g, .int t])), (a, .inl (cI, 1024, .inl f1_16))] := hD
        have hW_16 := hw
        have e9_16 : (L ++ (L.drop ia).take j) ++ List.replicate 1 ((L[ia + j]?).getD (-1)) = (L ++ (L.drop ia).take (j + 1)) := kTake_succ (by omega)
        rw [e9_16] at hP hD hW_16
        have hP : va_P (dC, dI) classes [(w, .inr (1, [.ref a, .int (nI (L ++ (L.drop ia).take (j + 1)).length), .int x, .int y, .int g, .int t])), (a, .inl (cI, 1024, .inl f1_16))] H := hP
        have hD : va_D A [(w, .inr (1, [.ref a, .int (nI (L ++ (L.drop ia).take (j + 1)).length), .int x, .int y, .int g, .int t])), (a, .inl (cI, 1024, .inl f1_16))] := hD
        refine lv_iinc (v := nI (j + 1)) (lv' := [(3, .int (nI (j + 1))), (0, .ref w), (1, .int (nI ia)), (2, .int (nI k))]) hx hb d_Walk_repeat_19 hl (k := 3) rfl (by first | rfl | exact nI_1 _) (by decide) rfl (fun ls hl => ?_)
        refine lv_goto (tgt := 2) hx hb d_Walk_repeat_22 (by decide) ?_
        exact ih_2 (j + 1) f1_16 (by omega) (by first | with_reducible assumption | omega) (hW_16) _ _ (hP.sub [0, 1] (rfl)) (hD.sub [0, 1] (by decide) (rfl)) hS ls (lv_sub hl [1, 2, 3, 0] rfl)
  refine lv_iconst (v := 0) hx hb d_Walk_repeat_0 (by decide) ?_
  refine lv_istore_n (lv' := [(3, .int 0), (0, .ref w), (1, .int (nI ia)), (2, .int (nI k))]) hx hb d_Walk_repeat_1 rfl hl (by decide) rfl (fun ls hl => ?_)
  exact J_2 _ 0 f (Nat.lt_succ_self _) (by first | with_reducible assumption | omega) (by simpa using hW) _ _ (hP.sub [0, 1] (by rw [kTake_0]; rfl)) (hD.sub [0, 1] (by decide) (by rw [kTake_0]; rfl)) hS ls (lv_sub hl [1, 2, 3, 0] rfl)
abbrev Qc_Walk_dropLast (dC : Nat → ClassId) (dI : Nat → Nat → Nat) (cI cB cZ : ClassId) (w : Nat) (a : Nat) (f : Nat → Int32) (L : List Int32) (x : Int32) (y : Int32) (g : Int32) (t : Int32) (k : Nat) (A : Nat → Prop) := va_Qv (fun (_ : Unit) => (WRow f (L.take (L.length - k)))) (ka (dC, dI) classes [(cI, .int), (cB, .byte), (cZ, .boolean)] (fun (_ : Unit) => [(w, .inr (1, [.ref a, .int (nI (L.take (L.length - k)).length), .int x, .int y, .int g, .int t])), (a, .inl (cI, 1024, .inl f))]) A) A
set_option maxHeartbeats 1000000 in
set_option maxRecDepth 100000 in
/-- Walk.dropLast -/
theorem c_Walk_dropLast (l : Launch) (dC : Nat → ClassId) (dI : Nat → Nat → Nat) (cI cB cZ : ClassId) (sz : Nat) (w : Nat) (a : Nat) (f : Nat → Int32) (L : List Int32) (x : Int32) (y : Int32) (g : Int32) (t : Int32) (k : Nat) (hW : WRow f L) (hk : k ≤ L.length) : Met l y_Walk_dropLast w_Walk_dropLast ({ frames := 1, cells := 0, slots := 0, locals := 14 }) (va_Pc [.ref w, .int (nI k)] (kp (dC, dI) classes [(cI, .int), (cB, .byte), (cZ, .boolean)] [(w, .inr (1, [.ref a, .int (nI L.length), .int x, .int y, .int g, .int t])), (a, .inl (cI, 1024, .inl f))] sz)) (Qc_Walk_dropLast dC dI cI cB cZ w a f L x y g t k (va_A [(w, .inr (1, [.ref a, .int (nI L.length), .int x, .int y, .int g, .int t])), (a, .inl (cI, 1024, .inl f))] sz)) 0 0 (va_A [(w, .inr (1, [.ref a, .int (nI L.length), .int x, .int y, .int g, .int t])), (a, .inl (cI, 1024, .inl f))] sz) := by
  refine Met.ofW (cc := prog_5_method_9_code) (maxL := 2) (ret := none) (by decide) rfl ?_
  intro p e s m args below meth c s₁ B hml hv
  obtain ⟨rfl, hsz, hP, hK, hD0⟩ := hv
  have hx := B.exec
  have hb := B.bytes
  have hr := B.returns
  have hts := fun w h => atoms_spec (ws := w_Walk_dropLast) B.pre w (List.mem_cons_of_mem _ h)
  have hown : s.vm.findClass "DemoTape$Walk" = some m.cls := findClass_of_methodNamed B.named
  have hlocks := B.notSynchronized
  subst hsz
  have hD := hD0.self (sz := s.heap.size)
  generalize hAe : va_A ([(w, .inr (1, [.ref a, .int (nI L.length), .int x, .int y, .int g, .int t])), (a, .inl (cI, 1024, .inl f))] : va_W) s.heap.size = A at hD ⊢
  have hA : ∀ q : Nat, s.heap.size ≤ q → A q := fun q h => by rw [← hAe]; exact Or.inr h
  have hS : va_S A s.heap s.heap [] := va_S.rf
  have hP : va_P (dC, dI) classes [(w, .inr (1, [.ref a, .int (nI L.length), .int x, .int y, .int g, .int t])), (a, .inl (cI, 1024, .inl f))] s.heap := hP
  obtain ⟨hf, hL⟩ := id hW
  have hl := lv_entry ([.ref w, .int (nI k)]) (n := 2) (Nat.le_of_ble_eq_true rfl)
  rw [lg_entry_eq]
  generalize (lg_sl ([.ref w, .int (nI k)]) ++ List.replicate (2 - (lg_sl ([.ref w, .int (nI k)])).length) Slot.unset).toArray = ls at hl ⊢
  have hl : lv_has ls 2 [(0, .ref w), (1, .int (nI k))] := hl
  refine lv_aload_n hx hb d_Walk_dropLast_0 rfl (lv_at hl 0 rfl) ?_
  refine lv_aload_n hx hb d_Walk_dropLast_1 rfl (lv_at hl 0 rfl) ?_
  refine va_get (D := (dC, dI)) (ci := 1) (v := .int (nI L.length)) (C := "DemoTape$Walk") (T := F_Walk) (N := 6) hx hb hts i_Walk hown hK hP 0 rfl rfl 1 (by decide) (hts _ mw48) (fun _ h9 => h9) rfl d_Walk_dropLast_2 ?_
  refine lv_iload_n hx hb d_Walk_dropLast_5 rfl (lv_at hl 1 rfl) ?_
  refine lv_isub hx hb d_Walk_dropLast_6 ?_
  refine kt_i (y := nI (L.length - k)) (pk_sub (by omega)) ?_
  refine lv_iconst (v := 0) hx hb d_Walk_dropLast_7 (by decide) ?_
  refine va_mmax hx hb (by rw [hml]; exact hl.1.symm) hown (hts _ mw164) (hts _ mw74) (hts _ mw28) (hts _ mw75) (Nat.le_of_ble_eq_true rfl) (Nat.le_of_ble_eq_true rfl) (Nat.le_of_ble_eq_true rfl) (Nat.le_of_ble_eq_true rfl) d_Walk_dropLast_8 ?_
  refine kt_i (y := nI (L.take (L.length - k)).length) (by rw [if_neg (nI_pos (by omega)), List.length_take, Nat.min_eq_left (by omega)]) ?_
  refine va_put (D := (dC, dI)) (ci := 1) (v := .int (nI (L.take (L.length - k)).length)) (ty := .int) (C := "DemoTape$Walk") (T := F_Walk) (N := 6) hx hb hts i_Walk t_Walk t_Walk_ok n_Walk hown hK hP hD hS 0 rfl rfl 1 (by decide) (hts _ mw48) (fun _ h9 => h9) rfl (by decide +kernel) rfl rfl (Nat.le_of_ble_eq_true rfl) d_Walk_dropLast_11 (fun H locs hP hD hS => ?_)
  have hP : va_P (dC, dI) classes [(w, .inr (1, [.ref a, .int (nI (L.take (L.length - k)).length), .int x, .int y, .int g, .int t])), (a, .inl (cI, 1024, .inl f))] H := hP
  have hD : va_D A [(w, .inr (1, [.ref a, .int (nI (L.take (L.length - k)).length), .int x, .int y, .int g, .int t])), (a, .inl (cI, 1024, .inl f))] := hD
  exact kr_v () hx hb hr hK (hP.sub [0, 1] (rfl)) (hD.sub [0, 1] (by decide) (rfl)) hS (⟨hf.take _, by rw [List.length_take]; omega⟩) d_Walk_dropLast_14 hlocks
abbrev Qc_Walk_clear (dC : Nat → ClassId) (dI : Nat → Nat → Nat) (cI cB cZ : ClassId) (w : Nat) (a : Nat) (f : Nat → Int32) (L : List Int32) (x : Int32) (y : Int32) (g : Int32) (t : Int32) (A : Nat → Prop) := va_Qv (fun (_ : Unit) => (WRow f [])) (ka (dC, dI) classes [(cI, .int), (cB, .byte), (cZ, .boolean)] (fun (_ : Unit) => [(w, .inr (1, [.ref a, .int (nI ([] : List Int32).length), .int x, .int y, .int g, .int t])), (a, .inl (cI, 1024, .inl f))]) A) A
set_option maxHeartbeats 1000000 in
set_option maxRecDepth 100000 in
/-- Walk.clear -/
theorem c_Walk_clear (l : Launch) (dC : Nat → ClassId) (dI : Nat → Nat → Nat) (cI cB cZ : ClassId) (sz : Nat) (w : Nat) (a : Nat) (f : Nat → Int32) (L : List Int32) (x : Int32) (y : Int32) (g : Int32) (t : Int32)  : Met l y_Walk_clear w_Walk_clear ({ frames := 0, cells := 0, slots := 0, locals := 0 }) (va_Pc [.ref w] (kp (dC, dI) classes [(cI, .int), (cB, .byte), (cZ, .boolean)] [(w, .inr (1, [.ref a, .int (nI L.length), .int x, .int y, .int g, .int t])), (a, .inl (cI, 1024, .inl f))] sz)) (Qc_Walk_clear dC dI cI cB cZ w a f L x y g t (va_A [(w, .inr (1, [.ref a, .int (nI L.length), .int x, .int y, .int g, .int t])), (a, .inl (cI, 1024, .inl f))] sz)) 0 0 (va_A [(w, .inr (1, [.ref a, .int (nI L.length), .int x, .int y, .int g, .int t])), (a, .inl (cI, 1024, .inl f))] sz) := by
  refine Met.ofW (cc := prog_5_method_10_code) (maxL := 1) (ret := none) (by decide) rfl ?_
  intro p e s m args below meth c s₁ B hml hv
  obtain ⟨rfl, hsz, hP, hK, hD0⟩ := hv
  have hx := B.exec
  have hb := B.bytes
  have hr := B.returns
  have hts := fun w h => atoms_spec (ws := w_Walk_clear) B.pre w (List.mem_cons_of_mem _ h)
  have hown : s.vm.findClass "DemoTape$Walk" = some m.cls := findClass_of_methodNamed B.named
  have hlocks := B.notSynchronized
  subst hsz
  have hD := hD0.self (sz := s.heap.size)
  generalize hAe : va_A ([(w, .inr (1, [.ref a, .int (nI L.length), .int x, .int y, .int g, .int t])), (a, .inl (cI, 1024, .inl f))] : va_W) s.heap.size = A at hD ⊢
  have hA : ∀ q : Nat, s.heap.size ≤ q → A q := fun q h => by rw [← hAe]; exact Or.inr h
  have hS : va_S A s.heap s.heap [] := va_S.rf
  have hP : va_P (dC, dI) classes [(w, .inr (1, [.ref a, .int (nI L.length), .int x, .int y, .int g, .int t])), (a, .inl (cI, 1024, .inl f))] s.heap := hP
  have hl := lv_entry ([.ref w]) (n := 1) (Nat.le_of_ble_eq_true rfl)
  rw [lg_entry_eq]
  generalize (lg_sl ([.ref w]) ++ List.replicate (1 - (lg_sl ([.ref w])).length) Slot.unset).toArray = ls at hl ⊢
  have hl : lv_has ls 1 [(0, .ref w)] := hl
  refine lv_aload_n hx hb d_Walk_clear_0 rfl (lv_at hl 0 rfl) ?_
  refine lv_iconst (v := 0) hx hb d_Walk_clear_1 (by decide) ?_
  refine va_put (D := (dC, dI)) (ci := 1) (v := .int 0) (ty := .int) (C := "DemoTape$Walk") (T := F_Walk) (N := 6) hx hb hts i_Walk t_Walk t_Walk_ok n_Walk hown hK hP hD hS 0 rfl rfl 1 (by decide) (hts _ mw48) (fun _ h9 => h9) rfl (by decide +kernel) rfl rfl (Nat.le_of_ble_eq_true rfl) d_Walk_clear_2 (fun H locs hP hD hS => ?_)
  have hP : va_P (dC, dI) classes [(w, .inr (1, [.ref a, .int 0, .int x, .int y, .int g, .int t])), (a, .inl (cI, 1024, .inl f))] H := hP
  have hD : va_D A [(w, .inr (1, [.ref a, .int 0, .int x, .int y, .int g, .int t])), (a, .inl (cI, 1024, .inl f))] := hD
  exact kr_v () hx hb hr hK (hP.sub [0, 1] (rfl)) (hD.sub [0, 1] (by decide) (rfl)) hS (⟨Hold.nil, by decide⟩) d_Walk_clear_5 hlocks
abbrev Qc_Walk_countUses (dC : Nat → ClassId) (dI : Nat → Nat → Nat) (cI cB cZ : ClassId) (w : Nat) (a : Nat) (f : Nat → Int32) (L : List Int32) (x : Int32) (y : Int32) (g : Int32) (t : Int32) (A : Nat → Prop) := va_Qi (fun (r9 : Int32) (_ : Unit) => (r9 = nI (kUses L))) (ka (dC, dI) classes [(cI, .int), (cB, .byte), (cZ, .boolean)] (fun (_ : Unit) => [(w, .inr (1, [.ref a, .int (nI L.length), .int x, .int y, .int g, .int t])), (a, .inl (cI, 1024, .inl f))]) A) A
set_option maxHeartbeats 1000000 in
set_option maxRecDepth 100000 in
/-- Walk.countUses -/
theorem c_Walk_countUses (l : Launch) (dC : Nat → ClassId) (dI : Nat → Nat → Nat) (cI cB cZ : ClassId) (sz : Nat) (w : Nat) (a : Nat) (f : Nat → Int32) (L : List Int32) (x : Int32) (y : Int32) (g : Int32) (t : Int32) (hW : WRow f L) : Met l y_Walk_countUses w_Walk_countUses ({ frames := 1, cells := 0, slots := 0, locals := 21 }) (va_Pc [.ref w] (kp (dC, dI) classes [(cI, .int), (cB, .byte), (cZ, .boolean)] [(w, .inr (1, [.ref a, .int (nI L.length), .int x, .int y, .int g, .int t])), (a, .inl (cI, 1024, .inl f))] sz)) (Qc_Walk_countUses dC dI cI cB cZ w a f L x y g t (va_A [(w, .inr (1, [.ref a, .int (nI L.length), .int x, .int y, .int g, .int t])), (a, .inl (cI, 1024, .inl f))] sz)) 0 0 (va_A [(w, .inr (1, [.ref a, .int (nI L.length), .int x, .int y, .int g, .int t])), (a, .inl (cI, 1024, .inl f))] sz) := by
  refine Met.ofW (cc := prog_5_method_11_code) (maxL := 3) (ret := (some .int)) (by decide) rfl ?_
  intro p e s m args below meth c s₁ B hml hv
  obtain ⟨rfl, hsz, hP, hK, hD0⟩ := hv
  have hx := B.exec
  have hb := B.bytes
  have hr := B.returns
  have hts := fun w h => atoms_spec (ws := w_Walk_countUses) B.pre w (List.mem_cons_of_mem _ h)
  have hown : s.vm.findClass "DemoTape$Walk" = some m.cls := findClass_of_methodNamed B.named
  have hlocks := B.notSynchronized
  subst hsz
  have hD := hD0.self (sz := s.heap.size)
  generalize hAe : va_A ([(w, .inr (1, [.ref a, .int (nI L.length), .int x, .int y, .int g, .int t])), (a, .inl (cI, 1024, .inl f))] : va_W) s.heap.size = A at hD ⊢
  have hA : ∀ q : Nat, s.heap.size ≤ q → A q := fun q h => by rw [← hAe]; exact Or.inr h
  have hS : va_S A s.heap s.heap [] := va_S.rf
  have hP : va_P (dC, dI) classes [(w, .inr (1, [.ref a, .int (nI L.length), .int x, .int y, .int g, .int t])), (a, .inl (cI, 1024, .inl f))] s.heap := hP
  obtain ⟨hf, hL⟩ := id hW
  have hl := lv_entry ([.ref w]) (n := 3) (Nat.le_of_ble_eq_true rfl)
  rw [lg_entry_eq]
  generalize (lg_sl ([.ref w]) ++ List.replicate (3 - (lg_sl ([.ref w])).length) Slot.unset).toArray = ls at hl ⊢
  have hl : lv_has ls 3 [(0, .ref w)] := hl
  have J_4 : ∀ (fuel : Nat) (j : Nat) (n9 : Nat), (L.length - j < fuel) → (j ≤ L.length) → (n9 = kUses (L.take j)) → ∀ (H : Heap) (locs : List Loc), va_P (dC, dI) classes [(w, .inr (1, [.ref a, .int (nI L.length), .int x, .int y, .int g, .int t])), (a, .inl (cI, 1024, .inl f))] H → va_D A [(w, .inr (1, [.ref a, .int (nI L.length), .int x, .int y, .int g, .int t])), (a, .inl (cI, 1024, .inl f))] → va_S A s.heap H locs → ∀ (ls : Array Slot), lv_has ls 3 [(0, .ref w), (1, .int (nI n9)), (2, .int (nI j))] → W p l e (headSpec w_Walk_countUses ({ frames := 1, cells := 0, slots := 0, locals := 21 })).room s m [.ref w].toArray below meth c H locs 0 0 (MQ below (Qc_Walk_countUses dC dI cI cB cZ w a f L x y g t A) [.ref w].toArray s 0 0 A) (F0 m 4 ls []) := by
    intro fuel
    induction fuel with
    | zero => intro j n9 hm; exact absurd hm (Nat.not_lt_zero _)
    | succ fuel ih_4 =>
      intro j n9 hm hj hn H locs hP hD hS ls hl
      refine lv_iload_n hx hb d_Walk_countUses_4 rfl (lv_at hl 2 rfl) ?_
      refine lv_aload_n hx hb d_Walk_countUses_5 rfl (lv_at hl 0 rfl) ?_
      refine va_get (D := (dC, dI)) (ci := 1) (v := .int (nI L.length)) (C := "DemoTape$Walk") (T := F_Walk) (N := 6) hx hb hts i_Walk hown hK hP 0 rfl rfl 1 (by decide) (hts _ mw48) (fun _ h9 => h9) rfl d_Walk_countUses_6 ?_
      refine lv_icmp_ge (tgt := 32) hx hb d_Walk_countUses_9 (by decide) (fun c_9 => ?_) (fun c_9 => ?_)
      · have n_9 := kn_le (a := L.length) (b := j) c_9 rfl rfl (by omega) (by omega)
        refine lv_iload_n hx hb d_Walk_countUses_32 rfl (lv_at hl 1 rfl) ?_
        exact kr_i (v := nI n9) () hx hb hr rfl hK (hP.sub [0, 1] (rfl)) (hD.sub [0, 1] (by decide) (rfl)) hS (by rw [hn, List.take_of_length_le (by omega)]) d_Walk_countUses_33 hlocks
      · have n_9 := kn_nle (a := L.length) (b := j) c_9 rfl rfl (by omega) (by omega)
        refine lv_aload_n hx hb d_Walk_countUses_12 rfl (lv_at hl 0 rfl) ?_
        refine lv_iload_n hx hb d_Walk_countUses_13 rfl (lv_at hl 2 rfl) ?_
        refine kq_i (wr := []) (va_runV (As := [.int (nI j)]) (rest := []) ⟨hx, hb, hml, hown, hts⟩ (c_Walk_codeAt l dC dI cI cB cZ _ w a f L x y g t (nI j) (by first | with_reducible assumption | omega | decide)) (cwV 1 hts (gV mw173 mw174 mw175 mw26 mw176) rfl rfl rfl (by decide +kernel) ⟨Nat.le_of_ble_eq_true rfl, Nat.le_of_ble_eq_true rfl⟩) (kpV (wc := [(w, .inr (1, [.ref a, .int (nI L.length), .int x, .int y, .int g, .int t])), (a, .inl (cI, 1024, .inl f))]) (q0 := 0) (ci := 1) hK hP hD [0, 1] rfl (by decide) rfl rfl rfl) rfl rfl hl.1 rfl (lv_room (Nat.le_of_ble_eq_true rfl)) d_Walk_countUses_14 ⟨Nat.le_of_ble_eq_true rfl, Nat.le_of_ble_eq_true rfl⟩) hP hD hS hA [0, 1] [] [0, 1] rfl rfl (by decide) (by decide) rfl (fun r_14 H locs hw hP hS => ?_)
        have e_14 := hw
        refine kt_i e_14 ?_
        refine kt_i (y := (L[j]?).getD (-1)) (kGet_nI (by omega)) ?_
        refine kq_i (wr := [(w, .inr (1, [.ref a, .int (nI L.length), .int x, .int y, .int g, .int t])), (a, .inl (cI, 1024, .inl f))]) (va_runS (As := [.int ((L[j]?).getD (-1))]) (rest := []) ⟨hx, hb, hml, hown, hts⟩ (c_Code_uses l dC dI cI cB cZ _ ((L[j]?).getD (-1)) ) (va_cwS 1 hts (gS mw217 mw218 mw31 mw219) rfl rfl rfl (by decide +kernel) ⟨Nat.le_of_ble_eq_true rfl, Nat.le_of_ble_eq_true rfl⟩) (kpS (wc := []) hK hP hD [] rfl (by decide) rfl) rfl rfl hl.1 rfl (lv_room (Nat.le_of_ble_eq_true rfl)) d_Walk_countUses_17 ⟨Nat.le_of_ble_eq_true rfl, Nat.le_of_ble_eq_true rfl⟩) hP hD hS hA [] [0, 1] [0, 1] rfl rfl (by decide) (by decide) rfl (fun r_17 H locs hw hP hS => ?_)
        have e_17 := hw
        refine kt_i e_17 ?_
        refine lv_if_eq (tgt := 26) hx hb d_Walk_countUses_20 (by decide) (fun c_20 => ?_) (fun c_20 => ?_)
        · refine lv_iinc (v := nI (j + 1)) (lv' := [(2, .int (nI (j + 1))), (0, .ref w), (1, .int (nI n9))]) hx hb d_Walk_countUses_26 hl (k := 2) rfl (by first | rfl | exact nI_1 _) (by decide) rfl (fun ls hl => ?_)
          refine lv_goto (tgt := 4) hx hb d_Walk_countUses_29 (by decide) ?_
          exact ih_4 (j + 1) n9 (by omega) (by first | with_reducible assumption | omega) (by rw [kUses_n n_9 c_20, hn]) _ _ (hP.sub [0, 1] (rfl)) (hD.sub [0, 1] (by decide) (rfl)) hS ls (lv_sub hl [1, 2, 0] rfl)
        · refine lv_iinc (v := nI (n9 + 1)) (lv' := [(1, .int (nI (n9 + 1))), (0, .ref w), (2, .int (nI j))]) hx hb d_Walk_countUses_23 hl (k := 1) rfl (by first | rfl | exact nI_1 _) (by decide) rfl (fun ls hl => ?_)
          refine lv_iinc (v := nI (j + 1)) (lv' := [(2, .int (nI (j + 1))), (1, .int (nI (n9 + 1))), (0, .ref w)]) hx hb d_Walk_countUses_26 hl (k := 2) rfl (by first | rfl | exact nI_1 _) (by decide) rfl (fun ls hl => ?_)
          refine lv_goto (tgt := 4) hx hb d_Walk_countUses_29 (by decide) ?_
          exact ih_4 (j + 1) (n9 + 1) (by omega) (by first | with_reducible assumption | omega) (by rw [kUses_y n_9 c_20, hn]) _ _ (hP.sub [0, 1] (rfl)) (hD.sub [0, 1] (by decide) (rfl)) hS ls (lv_sub hl [2, 1, 0] rfl)
  refine lv_iconst (v := 0) hx hb d_Walk_countUses_0 (by decide) ?_
  refine lv_istore_n (lv' := [(1, .int 0), (0, .ref w)]) hx hb d_Walk_countUses_1 rfl hl (by decide) rfl (fun ls hl => ?_)
  refine lv_iconst (v := 0) hx hb d_Walk_countUses_2 (by decide) ?_
  refine lv_istore_n (lv' := [(2, .int 0), (1, .int 0), (0, .ref w)]) hx hb d_Walk_countUses_3 rfl hl (by decide) rfl (fun ls hl => ?_)
  exact J_4 _ 0 0 (Nat.lt_succ_self _) (by first | with_reducible assumption | omega) (rfl) _ _ (hP.sub [0, 1] (rfl)) (hD.sub [0, 1] (by decide) (rfl)) hS ls (lv_sub hl [2, 1, 0] rfl)
abbrev Qc_Walk_endsGroup (dC : Nat → ClassId) (dI : Nat → Nat → Nat) (cI cB cZ : ClassId) (w : Nat) (a : Nat) (f : Nat → Int32) (L : List Int32) (x : Int32) (y : Int32) (g : Int32) (t : Int32) (j : Nat) (k : Nat) (A : Nat → Prop) := va_Qi (fun (r9 : Int32) (_ : Unit) => (r9 = kEnd L j k)) (ka (dC, dI) classes [(cI, .int), (cB, .byte), (cZ, .boolean)] (fun (_ : Unit) => [(w, .inr (1, [.ref a, .int (nI L.length), .int x, .int y, .int g, .int t])), (a, .inl (cI, 1024, .inl f))]) A) A
set_option maxHeartbeats 1000000 in
set_option maxRecDepth 100000 in
/-- Walk.endsGroup -/
theorem c_Walk_endsGroup (l : Launch) (dC : Nat → ClassId) (dI : Nat → Nat → Nat) (cI cB cZ : ClassId) (sz : Nat) (w : Nat) (a : Nat) (f : Nat → Int32) (L : List Int32) (x : Int32) (y : Int32) (g : Int32) (t : Int32) (j : Nat) (k : Nat) (hW : WRow f L) (hj : j < L.length) (hk : k < 2 ^ 31) : Met l y_Walk_endsGroup w_Walk_endsGroup ({ frames := 1, cells := 0, slots := 0, locals := 21 }) (va_Pc [.ref w, .int (nI j), .int (nI k)] (kp (dC, dI) classes [(cI, .int), (cB, .byte), (cZ, .boolean)] [(w, .inr (1, [.ref a, .int (nI L.length), .int x, .int y, .int g, .int t])), (a, .inl (cI, 1024, .inl f))] sz)) (Qc_Walk_endsGroup dC dI cI cB cZ w a f L x y g t j k (va_A [(w, .inr (1, [.ref a, .int (nI L.length), .int x, .int y, .int g, .int t])), (a, .inl (cI, 1024, .inl f))] sz)) 0 0 (va_A [(w, .inr (1, [.ref a, .int (nI L.length), .int x, .int y, .int g, .int t])), (a, .inl (cI, 1024, .inl f))] sz) := by
  refine Met.ofW (cc := prog_5_method_13_code) (maxL := 3) (ret := (some .boolean)) (by decide) rfl ?_
  intro p e s m args below meth c s₁ B hml hv
  obtain ⟨rfl, hsz, hP, hK, hD0⟩ := hv
  have hx := B.exec
  have hb := B.bytes
  have hr := B.returns
  have hts := fun w h => atoms_spec (ws := w_Walk_endsGroup) B.pre w (List.mem_cons_of_mem _ h)
  have hown : s.vm.findClass "DemoTape$Walk" = some m.cls := findClass_of_methodNamed B.named
  have hlocks := B.notSynchronized
  subst hsz
  have hD := hD0.self (sz := s.heap.size)
  generalize hAe : va_A ([(w, .inr (1, [.ref a, .int (nI L.length), .int x, .int y, .int g, .int t])), (a, .inl (cI, 1024, .inl f))] : va_W) s.heap.size = A at hD ⊢
  have hA : ∀ q : Nat, s.heap.size ≤ q → A q := fun q h => by rw [← hAe]; exact Or.inr h
  have hS : va_S A s.heap s.heap [] := va_S.rf
  have hP : va_P (dC, dI) classes [(w, .inr (1, [.ref a, .int (nI L.length), .int x, .int y, .int g, .int t])), (a, .inl (cI, 1024, .inl f))] s.heap := hP
  obtain ⟨hf, hL⟩ := id hW
  have hl := lv_entry ([.ref w, .int (nI j), .int (nI k)]) (n := 3) (Nat.le_of_ble_eq_true rfl)
  rw [lg_entry_eq]
  generalize (lg_sl ([.ref w, .int (nI j), .int (nI k)]) ++ List.replicate (3 - (lg_sl ([.ref w, .int (nI j), .int (nI k)])).length) Slot.unset).toArray = ls at hl ⊢
  have hl : lv_has ls 3 [(0, .ref w), (1, .int (nI j)), (2, .int (nI k))] := hl
  refine lv_iload_n hx hb d_Walk_endsGroup_0 rfl (lv_at hl 2 rfl) ?_
  refine lv_bipush (v := 63) hx hb d_Walk_endsGroup_1 (by decide) ?_
  refine lv_icmp_eq (tgt := 21) hx hb d_Walk_endsGroup_3 (by decide) (fun c_3 => ?_) (fun c_3 => ?_)
  · have n_3 := kn_eq (a := k) (b := 63) c_3 rfl rfl (by omega) (by omega)
    refine lv_iconst (v := 1) hx hb d_Walk_endsGroup_21 (by decide) ?_
    refine lv_goto (tgt := 26) hx hb d_Walk_endsGroup_22 (by decide) ?_
    exact kr_i (v := 1) () hx hb hr (by decide) hK (hP.sub [0, 1] (rfl)) (hD.sub [0, 1] (by decide) (rfl)) hS (by unfold kEnd; rw [if_pos (Or.inl n_3)]) d_Walk_endsGroup_26 hlocks
  · have n_3 := kn_ne (a := k) (b := 63) c_3 rfl rfl (by omega) (by omega)
    refine lv_aload_n hx hb d_Walk_endsGroup_6 rfl (lv_at hl 0 rfl) ?_
    refine lv_iload_n hx hb d_Walk_endsGroup_7 rfl (lv_at hl 1 rfl) ?_
    refine lv_iconst (v := 1) hx hb d_Walk_endsGroup_8 (by decide) ?_
    refine lv_iadd hx hb d_Walk_endsGroup_9 ?_
    refine kt_i (y := nI (j + 1)) (nI_1 _) ?_
    refine kq_i (wr := []) (va_runV (As := [.int (nI (j + 1))]) (rest := []) ⟨hx, hb, hml, hown, hts⟩ (c_Walk_codeAt l dC dI cI cB cZ _ w a f L x y g t (nI (j + 1)) (by first | with_reducible assumption | omega | decide)) (cwV 1 hts (gV mw173 mw174 mw175 mw26 mw176) rfl rfl rfl (by decide +kernel) ⟨Nat.le_of_ble_eq_true rfl, Nat.le_of_ble_eq_true rfl⟩) (kpV (wc := [(w, .inr (1, [.ref a, .int (nI L.length), .int x, .int y, .int g, .int t])), (a, .inl (cI, 1024, .inl f))]) (q0 := 0) (ci := 1) hK hP hD [0, 1] rfl (by decide) rfl rfl rfl) rfl rfl hl.1 rfl (lv_room (Nat.le_of_ble_eq_true rfl)) d_Walk_endsGroup_10 ⟨Nat.le_of_ble_eq_true rfl, Nat.le_of_ble_eq_true rfl⟩) hP hD hS hA [0, 1] [] [0, 1] rfl rfl (by decide) (by decide) rfl (fun r_10 H locs hw hP hS => ?_)
    have e_10 := hw
    refine kt_i e_10 ?_
    refine kt_i (y := (L[j + 1]?).getD (-1)) (kGet_nI (by omega)) ?_
    refine lv_aload_n hx hb d_Walk_endsGroup_13 rfl (lv_at hl 0 rfl) ?_
    refine lv_iload_n hx hb d_Walk_endsGroup_14 rfl (lv_at hl 1 rfl) ?_
    refine kq_i (wr := []) (va_runV (As := [.int (nI j)]) (rest := [.int ((L[j + 1]?).getD (-1))]) ⟨hx, hb, hml, hown, hts⟩ (c_Walk_codeAt l dC dI cI cB cZ _ w a f L x y g t (nI j) (by first | with_reducible assumption | omega | decide)) (cwV 1 hts (gV mw173 mw174 mw175 mw26 mw176) rfl rfl rfl (by decide +kernel) ⟨Nat.le_of_ble_eq_true rfl, Nat.le_of_ble_eq_true rfl⟩) (kpV (wc := [(w, .inr (1, [.ref a, .int (nI L.length), .int x, .int y, .int g, .int t])), (a, .inl (cI, 1024, .inl f))]) (q0 := 0) (ci := 1) hK hP hD [0, 1] rfl (by decide) rfl rfl rfl) rfl rfl hl.1 rfl (lv_room (Nat.le_of_ble_eq_true rfl)) d_Walk_endsGroup_15 ⟨Nat.le_of_ble_eq_true rfl, Nat.le_of_ble_eq_true rfl⟩) hP hD hS hA [0, 1] [] [0, 1] rfl rfl (by decide) (by decide) rfl (fun r_15 H locs hw hP hS => ?_)
    have e_15 := hw
    refine kt_i e_15 ?_
    refine kt_i (y := (L[j]?).getD (-1)) (kGet_nI (by omega)) ?_
    refine lv_icmp_eq (tgt := 25) hx hb d_Walk_endsGroup_18 (by decide) (fun c_18 => ?_) (fun c_18 => ?_)
    · refine lv_iconst (v := 0) hx hb d_Walk_endsGroup_25 (by decide) ?_
      exact kr_i (v := 0) () hx hb hr (by decide) hK (hP.sub [0, 1] (rfl)) (hD.sub [0, 1] (by decide) (rfl)) hS (by unfold kEnd; rw [if_neg (fun q => q.elim n_3 (fun q2 => q2 c_18))]) d_Walk_endsGroup_26 hlocks
    · refine lv_iconst (v := 1) hx hb d_Walk_endsGroup_21 (by decide) ?_
      refine lv_goto (tgt := 26) hx hb d_Walk_endsGroup_22 (by decide) ?_
      exact kr_i (v := 1) () hx hb hr (by decide) hK (hP.sub [0, 1] (rfl)) (hD.sub [0, 1] (by decide) (rfl)) hS (by unfold kEnd; rw [if_pos (Or.inr c_18)]) d_Walk_endsGroup_26 hlocks
abbrev Qc_Walk_countGroups (dC : Nat → ClassId) (dI : Nat → Nat → Nat) (cI cB cZ : ClassId) (w : Nat) (a : Nat) (f : Nat → Int32) (L : List Int32) (x : Int32) (y : Int32) (g : Int32) (t : Int32) (A : Nat → Prop) := va_Qi (fun (r9 : Int32) (_ : Unit) => (r9 = nI (kGr 0 L).length)) (ka (dC, dI) classes [(cI, .int), (cB, .byte), (cZ, .boolean)] (fun (_ : Unit) => [(w, .inr (1, [.ref a, .int (nI L.length), .int x, .int y, .int g, .int t])), (a, .inl (cI, 1024, .inl f))]) A) A
set_option maxHeartbeats 1000000 in
set_option maxRecDepth 100000 in
/-- Walk.countGroups -/
theorem c_Walk_countGroups (l : Launch) (dC : Nat → ClassId) (dI : Nat → Nat → Nat) (cI cB cZ : ClassId) (sz : Nat) (w : Nat) (a : Nat) (f : Nat → Int32) (L : List Int32) (x : Int32) (y : Int32) (g : Int32) (t : Int32) (hW : WRow f L) : Met l y_Walk_countGroups w_Walk_countGroups ({ frames := 2, cells := 0, slots := 0, locals := 43 }) (va_Pc [.ref w] (kp (dC, dI) classes [(cI, .int), (cB, .byte), (cZ, .boolean)] [(w, .inr (1, [.ref a, .int (nI L.length), .int x, .int y, .int g, .int t])), (a, .inl (cI, 1024, .inl f))] sz)) (Qc_Walk_countGroups dC dI cI cB cZ w a f L x y g t (va_A [(w, .inr (1, [.ref a, .int (nI L.length), .int x, .int y, .int g, .int t])), (a, .inl (cI, 1024, .inl f))] sz)) 0 0 (va_A [(w, .inr (1, [.ref a, .int (nI L.length), .int x, .int y, .int g, .int t])), (a, .inl (cI, 1024, .inl f))] sz) := by
  refine Met.ofW (cc := prog_5_method_12_code) (maxL := 4) (ret := (some .int)) (by decide) rfl ?_
  intro p e s m args below meth c s₁ B hml hv
  obtain ⟨rfl, hsz, hP, hK, hD0⟩ := hv
  have hx := B.exec
  have hb := B.bytes
  have hr := B.returns
  have hts := fun w h => atoms_spec (ws := w_Walk_countGroups) B.pre w (List.mem_cons_of_mem _ h)
  have hown : s.vm.findClass "DemoTape$Walk" = some m.cls := findClass_of_methodNamed B.named
  have hlocks := B.notSynchronized
  subst hsz
  have hD := hD0.self (sz := s.heap.size)
  generalize hAe : va_A ([(w, .inr (1, [.ref a, .int (nI L.length), .int x, .int y, .int g, .int t])), (a, .inl (cI, 1024, .inl f))] : va_W) s.heap.size = A at hD ⊢
  have hA : ∀ q : Nat, s.heap.size ≤ q → A q := fun q h => by rw [← hAe]; exact Or.inr h
  have hS : va_S A s.heap s.heap [] := va_S.rf
  have hP : va_P (dC, dI) classes [(w, .inr (1, [.ref a, .int (nI L.length), .int x, .int y, .int g, .int t])), (a, .inl (cI, 1024, .inl f))] s.heap := hP
  obtain ⟨hf, hL⟩ := id hW
  have hl := lv_entry ([.ref w]) (n := 4) (Nat.le_of_ble_eq_true rfl)
  rw [lg_entry_eq]
  generalize (lg_sl ([.ref w]) ++ List.replicate (4 - (lg_sl ([.ref w])).length) Slot.unset).toArray = ls at hl ⊢
  have hl : lv_has ls 4 [(0, .ref w)] := hl
  have J_6 : ∀ (fuel : Nat) (j : Nat) (g9 : Nat) (n9 : Nat), (L.length - j < fuel) → (j ≤ L.length) → ((kGr 0 L).length = g9 + (kGr n9 (L.drop j)).length) → (n9 ≤ j) → ∀ (H : Heap) (locs : List Loc), va_P (dC, dI) classes [(w, .inr (1, [.ref a, .int (nI L.length), .int x, .int y, .int g, .int t])), (a, .inl (cI, 1024, .inl f))] H → va_D A [(w, .inr (1, [.ref a, .int (nI L.length), .int x, .int y, .int g, .int t])), (a, .inl (cI, 1024, .inl f))] → va_S A s.heap H locs → ∀ (ls : Array Slot), lv_has ls 4 [(0, .ref w), (1, .int (nI g9)), (2, .int (nI n9)), (3, .int (nI j))] → W p l e (headSpec w_Walk_countGroups ({ frames := 2, cells := 0, slots := 0, locals := 43 })).room s m [.ref w].toArray below meth c H locs 0 0 (MQ below (Qc_Walk_countGroups dC dI cI cB cZ w a f L x y g t A) [.ref w].toArray s 0 0 A) (F0 m 6 ls []) := by
    intro fuel
    induction fuel with
    | zero => intro j g9 n9 hm; exact absurd hm (Nat.not_lt_zero _)
    | succ fuel ih_6 =>
      intro j g9 n9 hm hj hg hn H locs hP hD hS ls hl
      refine lv_iload_n hx hb d_Walk_countGroups_6 rfl (lv_at hl 3 rfl) ?_
      refine lv_aload_n hx hb d_Walk_countGroups_7 rfl (lv_at hl 0 rfl) ?_
      refine va_get (D := (dC, dI)) (ci := 1) (v := .int (nI L.length)) (C := "DemoTape$Walk") (T := F_Walk) (N := 6) hx hb hts i_Walk hown hK hP 0 rfl rfl 1 (by decide) (hts _ mw48) (fun _ h9 => h9) rfl d_Walk_countGroups_8 ?_
      refine lv_icmp_ge (tgt := 37) hx hb d_Walk_countGroups_11 (by decide) (fun c_11 => ?_) (fun c_11 => ?_)
      · have n_11 := kn_le (a := L.length) (b := j) c_11 rfl rfl (by omega) (by omega)
        refine lv_iload_n hx hb d_Walk_countGroups_37 rfl (lv_at hl 1 rfl) ?_
        exact kr_i (v := nI g9) () hx hb hr rfl hK (hP.sub [0, 1] (rfl)) (hD.sub [0, 1] (by decide) (rfl)) hS (by rw [hg, List.drop_of_length_le (by omega)]; rfl) d_Walk_countGroups_38 hlocks
      · have n_11 := kn_nle (a := L.length) (b := j) c_11 rfl rfl (by omega) (by omega)
        refine lv_iinc (v := nI (n9 + 1)) (lv' := [(2, .int (nI (n9 + 1))), (0, .ref w), (1, .int (nI g9)), (3, .int (nI j))]) hx hb d_Walk_countGroups_14 hl (k := 2) rfl (by first | rfl | exact nI_1 _) (by decide) rfl (fun ls hl => ?_)
        refine lv_aload_n hx hb d_Walk_countGroups_17 rfl (lv_at hl 1 rfl) ?_
        refine lv_iload_n hx hb d_Walk_countGroups_18 rfl (lv_at hl 3 rfl) ?_
        refine lv_iload_n hx hb d_Walk_countGroups_19 rfl (lv_at hl 0 rfl) ?_
        refine kq_i (wr := []) (va_runV (As := [.int (nI j), .int (nI (n9 + 1))]) (rest := []) ⟨hx, hb, hml, hown, hts⟩ (c_Walk_endsGroup l dC dI cI cB cZ _ w a f L x y g t j (n9 + 1) (by first | with_reducible assumption | omega | decide) (by first | with_reducible assumption | omega | decide) (by first | with_reducible assumption | omega | decide)) (cwV 2 hts (gV mw201 mw203 mw1 mw26 mw204) rfl rfl rfl (by decide +kernel) ⟨Nat.le_of_ble_eq_true rfl, Nat.le_of_ble_eq_true rfl⟩) (kpV (wc := [(w, .inr (1, [.ref a, .int (nI L.length), .int x, .int y, .int g, .int t])), (a, .inl (cI, 1024, .inl f))]) (q0 := 0) (ci := 1) hK hP hD [0, 1] rfl (by decide) rfl rfl rfl) rfl rfl hl.1 rfl (lv_room (Nat.le_of_ble_eq_true rfl)) d_Walk_countGroups_20 ⟨Nat.le_of_ble_eq_true rfl, Nat.le_of_ble_eq_true rfl⟩) hP hD hS hA [0, 1] [] [0, 1] rfl rfl (by decide) (by decide) rfl (fun r_20 H locs hw hP hS => ?_)
        have e_20 := hw
        refine kt_i e_20 ?_
        refine lv_if_eq (tgt := 31) hx hb d_Walk_countGroups_23 (by decide) (fun c_23 => ?_) (fun c_23 => ?_)
        · refine lv_iinc (v := nI (j + 1)) (lv' := [(3, .int (nI (j + 1))), (2, .int (nI (n9 + 1))), (0, .ref w), (1, .int (nI g9))]) hx hb d_Walk_countGroups_31 hl (k := 3) rfl (by first | rfl | exact nI_1 _) (by decide) rfl (fun ls hl => ?_)
          refine lv_goto (tgt := 6) hx hb d_Walk_countGroups_34 (by decide) ?_
          exact ih_6 (j + 1) g9 (n9 + 1) (by omega) (by first | with_reducible assumption | omega) (by rw [hg, kGr_n n_11 c_23]) (by first | with_reducible assumption | omega) _ _ (hP.sub [0, 1] (rfl)) (hD.sub [0, 1] (by decide) (rfl)) hS ls (lv_sub hl [2, 3, 1, 0] rfl)
        · refine lv_iinc (v := nI (g9 + 1)) (lv' := [(1, .int (nI (g9 + 1))), (2, .int (nI (n9 + 1))), (0, .ref w), (3, .int (nI j))]) hx hb d_Walk_countGroups_26 hl (k := 2) rfl (by first | rfl | exact nI_1 _) (by decide) rfl (fun ls hl => ?_)
          refine lv_iconst (v := 0) hx hb d_Walk_countGroups_29 (by decide) ?_
          refine lv_istore_n (lv' := [(2, .int 0), (1, .int (nI (g9 + 1))), (0, .ref w), (3, .int (nI j))]) hx hb d_Walk_countGroups_30 rfl hl (by decide) rfl (fun ls hl => ?_)
          refine lv_iinc (v := nI (j + 1)) (lv' := [(3, .int (nI (j + 1))), (2, .int 0), (1, .int (nI (g9 + 1))), (0, .ref w)]) hx hb d_Walk_countGroups_31 hl (k := 3) rfl (by first | rfl | exact nI_1 _) (by decide) rfl (fun ls hl => ?_)
          refine lv_goto (tgt := 6) hx hb d_Walk_countGroups_34 (by decide) ?_
          exact ih_6 (j + 1) (g9 + 1) 0 (by omega) (by first | with_reducible assumption | omega) (by rw [hg, kGr_y n_11 c_23]; simp only [List.length_cons]; omega) (by first | with_reducible assumption | omega) _ _ (hP.sub [0, 1] (rfl)) (hD.sub [0, 1] (by decide) (rfl)) hS ls (lv_sub hl [3, 2, 1, 0] rfl)
  refine lv_iconst (v := 0) hx hb d_Walk_countGroups_0 (by decide) ?_
  refine lv_istore_n (lv' := [(1, .int 0), (0, .ref w)]) hx hb d_Walk_countGroups_1 rfl hl (by decide) rfl (fun ls hl => ?_)
  refine lv_iconst (v := 0) hx hb d_Walk_countGroups_2 (by decide) ?_
  refine lv_istore_n (lv' := [(2, .int 0), (1, .int 0), (0, .ref w)]) hx hb d_Walk_countGroups_3 rfl hl (by decide) rfl (fun ls hl => ?_)
  refine lv_iconst (v := 0) hx hb d_Walk_countGroups_4 (by decide) ?_
  refine lv_istore_n (lv' := [(3, .int 0), (2, .int 0), (1, .int 0), (0, .ref w)]) hx hb d_Walk_countGroups_5 rfl hl (by decide) rfl (fun ls hl => ?_)
  exact J_6 _ 0 0 0 (Nat.lt_succ_self _) (by first | with_reducible assumption | omega) ((Nat.zero_add _).symm) (by first | with_reducible assumption | omega) _ _ (hP.sub [0, 1] (rfl)) (hD.sub [0, 1] (by decide) (rfl)) hS ls (lv_sub hl [3, 2, 1, 0] rfl)
