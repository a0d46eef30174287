abbrev Qc_Mo_wrong (dC : Nat → ClassId) (dI : Nat → Nat → Nat) (cI cB cZ : ClassId) (mo : Nat) (th : Int32) (aS : Nat) (aA : Nat) (aB : Nat) (aT : Nat) (aU : Nat) (M : List Int32) (aO : Nat) (O : List Nat) (aI : Nat) (I : List Nat) (bS : Nat) (bA : Nat) (bB : Nat) (bT : Nat) (bU : Nat) (nm : Int32) (pp : Int32) (va : Int32) (vb : Int32) (q : RS) (nf : Int32) (p0 : Int32) (A : Nat → Prop) := va_Qv (fun (_ : Unit) => True) (ka (dC, dI) classes [(cI, .int), (cB, .byte), (cZ, .boolean)] (fun (_ : Unit) => [(mo, .inr (4, [.int th, .ref aS, .ref aA, .ref aB, .ref aT, .ref aU, .int (nI M.length), .ref aO, .int (nI O.length), .ref aI, .int (nI I.length), .ref bS, .ref bA, .ref bB, .ref bT, .ref bU, .int nm, .int pp, .int (rFt (rFail nf p0 q)), .int (rPl (rFail nf p0 q)), .int va, .int vb]))]) A) A
set_option maxHeartbeats 1000000 in
set_option maxRecDepth 100000 in
/-- Model.wrong -/
theorem c_Mo_wrong (l : Launch) (dC : Nat → ClassId) (dI : Nat → Nat → Nat) (cI cB cZ : ClassId) (sz : Nat) (mo : Nat) (th : Int32) (aS : Nat) (aA : Nat) (aB : Nat) (aT : Nat) (aU : Nat) (M : List Int32) (aO : Nat) (O : List Nat) (aI : Nat) (I : List Nat) (bS : Nat) (bA : Nat) (bB : Nat) (bT : Nat) (bU : Nat) (nm : Int32) (pp : Int32) (va : Int32) (vb : Int32) (q : RS) (nf : Int32) (p0 : Int32)  : Met l y_Mo_wrong w_Mo_wrong ({ frames := 0, cells := 0, slots := 0, locals := 0 }) (va_Pc [.ref mo, .int nf, .int p0] (kp (dC, dI) classes [(cI, .int), (cB, .byte), (cZ, .boolean)] [(mo, .inr (4, [.int th, .ref aS, .ref aA, .ref aB, .ref aT, .ref aU, .int (nI M.length), .ref aO, .int (nI O.length), .ref aI, .int (nI I.length), .ref bS, .ref bA, .ref bB, .ref bT, .ref bU, .int nm, .int pp, .int (rFt q), .int (rPl q), .int va, .int vb]))] sz)) (Qc_Mo_wrong dC dI cI cB cZ mo th aS aA aB aT aU M aO O aI I bS bA bB bT bU nm pp va vb q nf p0 (va_A [(mo, .inr (4, [.int th, .ref aS, .ref aA, .ref aB, .ref aT, .ref aU, .int (nI M.length), .ref aO, .int (nI O.length), .ref aI, .int (nI I.length), .ref bS, .ref bA, .ref bB, .ref bT, .ref bU, .int nm, .int pp, .int (rFt q), .int (rPl q), .int va, .int vb]))] sz)) 0 0 (va_A [(mo, .inr (4, [.int th, .ref aS, .ref aA, .ref aB, .ref aT, .ref aU, .int (nI M.length), .ref aO, .int (nI O.length), .ref aI, .int (nI I.length), .ref bS, .ref bA, .ref bB, .ref bT, .ref bU, .int nm, .int pp, .int (rFt q), .int (rPl q), .int va, .int vb]))] sz) := by
  refine Met.ofW (cc := prog_7_method_17_code) (maxL := 3) (ret := none) (by decide) rfl ?_
  intro p e s m args below meth c s₁ B hml hv
  obtain ⟨rfl, hsz, hP, hK, hD0⟩ := hv
  have hx := B.exec
  have hb := B.bytes
  have hr := B.returns
  have hts := fun w h => atoms_spec (ws := w_Mo_wrong) B.pre w (List.mem_cons_of_mem _ h)
  have hown : s.vm.findClass "DemoTapeModel" = some m.cls := findClass_of_methodNamed B.named
  have hlocks := B.notSynchronized
  subst hsz
  have hD := hD0.self (sz := s.heap.size)
  generalize hAe : va_A ([(mo, .inr (4, [.int th, .ref aS, .ref aA, .ref aB, .ref aT, .ref aU, .int (nI M.length), .ref aO, .int (nI O.length), .ref aI, .int (nI I.length), .ref bS, .ref bA, .ref bB, .ref bT, .ref bU, .int nm, .int pp, .int (rFt q), .int (rPl q), .int va, .int vb]))] : va_W) s.heap.size = A at hD ⊢
  have hA : ∀ q : Nat, s.heap.size ≤ q → A q := fun q h => by rw [← hAe]; exact Or.inr h
  have hS : va_S A s.heap s.heap [] := va_S.rf
  have hP : va_P (dC, dI) classes [(mo, .inr (4, [.int th, .ref aS, .ref aA, .ref aB, .ref aT, .ref aU, .int (nI M.length), .ref aO, .int (nI O.length), .ref aI, .int (nI I.length), .ref bS, .ref bA, .ref bB, .ref bT, .ref bU, .int nm, .int pp, .int (rFt q), .int (rPl q), .int va, .int vb]))] s.heap := hP
  have hl := lv_entry ([.ref mo, .int nf, .int p0]) (n := 3) (Nat.le_of_ble_eq_true rfl)
  rw [lg_entry_eq]
  generalize (lg_sl ([.ref mo, .int nf, .int p0]) ++ List.replicate (3 - (lg_sl ([.ref mo, .int nf, .int p0])).length) Slot.unset).toArray = ls at hl ⊢
  have hl : lv_has ls 3 [(0, .ref mo), (1, .int nf), (2, .int p0)] := hl
  refine lv_aload_n hx hb d_Mo_wrong_0 rfl (lv_at hl 0 rfl) ?_
  refine va_get (D := (dC, dI)) (ci := 4) (v := .int (rFt q)) (C := "DemoTapeModel") (T := F_Mo) (N := 22) hx hb hts i_Mo hown hK hP 0 rfl rfl 18 (by decide) (hts _ mw402) (fun _ h9 => h9) rfl d_Mo_wrong_1 ?_
  refine lv_if_ne (tgt := 17) hx hb d_Mo_wrong_4 (by decide) (fun c_4 => ?_) (fun c_4 => ?_)
  · exact kr_v () hx hb hr hK (hP.sub [0] (by rw [rFail_n c_4]; first | done | rfl)) (hD.sub [0] (by decide) (by rw [rFail_n c_4]; first | done | rfl)) hS trivial d_Mo_wrong_17 hlocks
  · refine lv_aload_n hx hb d_Mo_wrong_7 rfl (lv_at hl 0 rfl) ?_
    refine lv_iload_n hx hb d_Mo_wrong_8 rfl (lv_at hl 1 rfl) ?_
    refine va_put (D := (dC, dI)) (ci := 4) (v := .int nf) (ty := .int) (C := "DemoTapeModel") (T := F_Mo) (N := 22) hx hb hts i_Mo t_Mo t_Mo_ok n_Mo hown hK hP hD hS 0 rfl rfl 18 (by decide) (hts _ mw402) (fun _ h9 => h9) rfl (by decide +kernel) rfl rfl (Nat.le_of_ble_eq_true rfl) d_Mo_wrong_9 (fun H locs hP hD hS => ?_)
    have hP : va_P (dC, dI) classes [(mo, .inr (4, [.int th, .ref aS, .ref aA, .ref aB, .ref aT, .ref aU, .int (nI M.length), .ref aO, .int (nI O.length), .ref aI, .int (nI I.length), .ref bS, .ref bA, .ref bB, .ref bT, .ref bU, .int nm, .int pp, .int nf, .int (rPl q), .int va, .int vb]))] H := hP
    have hD : va_D A [(mo, .inr (4, [.int th, .ref aS, .ref aA, .ref aB, .ref aT, .ref aU, .int (nI M.length), .ref aO, .int (nI O.length), .ref aI, .int (nI I.length), .ref bS, .ref bA, .ref bB, .ref bT, .ref bU, .int nm, .int pp, .int nf, .int (rPl q), .int va, .int vb]))] := hD
    refine lv_aload_n hx hb d_Mo_wrong_12 rfl (lv_at hl 0 rfl) ?_
    refine lv_iload_n hx hb d_Mo_wrong_13 rfl (lv_at hl 2 rfl) ?_
    refine va_put (D := (dC, dI)) (ci := 4) (v := .int p0) (ty := .int) (C := "DemoTapeModel") (T := F_Mo) (N := 22) hx hb hts i_Mo t_Mo t_Mo_ok n_Mo hown hK hP hD hS 0 rfl rfl 19 (by decide) (hts _ mw403) (fun _ h9 => h9) rfl (by decide +kernel) rfl rfl (Nat.le_of_ble_eq_true rfl) d_Mo_wrong_14 (fun H locs hP hD hS => ?_)
    have hP : va_P (dC, dI) classes [(mo, .inr (4, [.int th, .ref aS, .ref aA, .ref aB, .ref aT, .ref aU, .int (nI M.length), .ref aO, .int (nI O.length), .ref aI, .int (nI I.length), .ref bS, .ref bA, .ref bB, .ref bT, .ref bU, .int nm, .int pp, .int nf, .int p0, .int va, .int vb]))] H := hP
    have hD : va_D A [(mo, .inr (4, [.int th, .ref aS, .ref aA, .ref aB, .ref aT, .ref aU, .int (nI M.length), .ref aO, .int (nI O.length), .ref aI, .int (nI I.length), .ref bS, .ref bA, .ref bB, .ref bT, .ref bU, .int nm, .int pp, .int nf, .int p0, .int va, .int vb]))] := hD
    exact kr_v () hx hb hr hK (hP.sub [0] (by rw [rFail_y c_4]; first | done | rfl)) (hD.sub [0] (by decide) (by rw [rFail_y c_4]; first | done | rfl)) hS trivial d_Mo_wrong_17 hlocks
abbrev Qc_Mo_next (dC : Nat → ClassId) (dI : Nat → Nat → Nat) (cI cB cZ : ClassId) (mo : Nat) (th : Int32) (aS : Nat) (aA : Nat) (aB : Nat) (aT : Nat) (aU : Nat) (M : List Int32) (aO : Nat) (O : List Nat) (aI : Nat) (I : List Nat) (bS : Nat) (bA : Nat) (bB : Nat) (bT : Nat) (bU : Nat) (nm : Int32) (q : RS) (pp : Nat) (a9 : Nat) (b9 : Nat) (fi : Nat → Int32) (A : Nat → Prop) := va_Qi (fun (r9 : Int32) (u9 : Nat × Nat × Nat × Nat) => (r9 = nI u9.1) ∧ (RM I (tTake I 255 q).2 u9.2.1 u9.2.2.1 u9.2.2.2) ∧ (NV I 255 q u9.1)) (ka (dC, dI) classes [(cI, .int), (cB, .byte), (cZ, .boolean)] (fun (u9 : Nat × Nat × Nat × Nat) => [(mo, .inr (4, [.int th, .ref aS, .ref aA, .ref aB, .ref aT, .ref aU, .int (nI M.length), .ref aO, .int (nI O.length), .ref aI, .int (nI I.length), .ref bS, .ref bA, .ref bB, .ref bT, .ref bU, .int nm, .int (nI u9.2.1), .int (rFt (tTake I 255 q).2), .int (rPl (tTake I 255 q).2), .int (nI u9.2.2.1), .int (nI u9.2.2.2)])), (aI, .inl (cI, 8192, .inl fi))]) A) A
set_option maxHeartbeats 1000000 in
set_option maxRecDepth 100000 in
/-- Model.next -/
theorem c_Mo_next (l : Launch) (dC : Nat → ClassId) (dI : Nat → Nat → Nat) (cI cB cZ : ClassId) (sz : Nat) (mo : Nat) (th : Int32) (aS : Nat) (aA : Nat) (aB : Nat) (aT : Nat) (aU : Nat) (M : List Int32) (aO : Nat) (O : List Nat) (aI : Nat) (I : List Nat) (bS : Nat) (bA : Nat) (bB : Nat) (bT : Nat) (bU : Nat) (nm : Int32) (q : RS) (pp : Nat) (a9 : Nat) (b9 : Nat) (fi : Nat → Int32) (hI : NRow 8192 fi I) (hRM : RM I q pp a9 b9) (hok : FtOk q) : Met l y_Mo_next w_Mo_next ({ frames := 1, cells := 0, slots := 0, locals := 22 }) (va_Pc [.ref mo] (kp (dC, dI) classes [(cI, .int), (cB, .byte), (cZ, .boolean)] [(mo, .inr (4, [.int th, .ref aS, .ref aA, .ref aB, .ref aT, .ref aU, .int (nI M.length), .ref aO, .int (nI O.length), .ref aI, .int (nI I.length), .ref bS, .ref bA, .ref bB, .ref bT, .ref bU, .int nm, .int (nI pp), .int (rFt q), .int (rPl q), .int (nI a9), .int (nI b9)])), (aI, .inl (cI, 8192, .inl fi))] sz)) (Qc_Mo_next dC dI cI cB cZ mo th aS aA aB aT aU M aO O aI I bS bA bB bT bU nm q pp a9 b9 fi (va_A [(mo, .inr (4, [.int th, .ref aS, .ref aA, .ref aB, .ref aT, .ref aU, .int (nI M.length), .ref aO, .int (nI O.length), .ref aI, .int (nI I.length), .ref bS, .ref bA, .ref bB, .ref bT, .ref bU, .int nm, .int (nI pp), .int (rFt q), .int (rPl q), .int (nI a9), .int (nI b9)])), (aI, .inl (cI, 8192, .inl fi))] sz)) 0 0 (va_A [(mo, .inr (4, [.int th, .ref aS, .ref aA, .ref aB, .ref aT, .ref aU, .int (nI M.length), .ref aO, .int (nI O.length), .ref aI, .int (nI I.length), .ref bS, .ref bA, .ref bB, .ref bT, .ref bU, .int nm, .int (nI pp), .int (rFt q), .int (rPl q), .int (nI a9), .int (nI b9)])), (aI, .inl (cI, 8192, .inl fi))] sz) := by
  refine Met.ofW (cc := prog_7_method_18_code) (maxL := 2) (ret := (some .int)) (by decide) rfl ?_
  intro p e s m args below meth c s₁ B hml hv
  obtain ⟨rfl, hsz, hP, hK, hD0⟩ := hv
  have hx := B.exec
  have hb := B.bytes
  have hr := B.returns
  have hts := fun w h => atoms_spec (ws := w_Mo_next) B.pre w (List.mem_cons_of_mem _ h)
  have hown : s.vm.findClass "DemoTapeModel" = some m.cls := findClass_of_methodNamed B.named
  have hlocks := B.notSynchronized
  subst hsz
  have hD := hD0.self (sz := s.heap.size)
  generalize hAe : va_A ([(mo, .inr (4, [.int th, .ref aS, .ref aA, .ref aB, .ref aT, .ref aU, .int (nI M.length), .ref aO, .int (nI O.length), .ref aI, .int (nI I.length), .ref bS, .ref bA, .ref bB, .ref bT, .ref bU, .int nm, .int (nI pp), .int (rFt q), .int (rPl q), .int (nI a9), .int (nI b9)])), (aI, .inl (cI, 8192, .inl fi))] : va_W) s.heap.size = A at hD ⊢
  have hA : ∀ q : Nat, s.heap.size ≤ q → A q := fun q h => by rw [← hAe]; exact Or.inr h
  have hS : va_S A s.heap s.heap [] := va_S.rf
  have hP : va_P (dC, dI) classes [(mo, .inr (4, [.int th, .ref aS, .ref aA, .ref aB, .ref aT, .ref aU, .int (nI M.length), .ref aO, .int (nI O.length), .ref aI, .int (nI I.length), .ref bS, .ref bA, .ref bB, .ref bT, .ref bU, .int nm, .int (nI pp), .int (rFt q), .int (rPl q), .int (nI a9), .int (nI b9)])), (aI, .inl (cI, 8192, .inl fi))] s.heap := hP
  have hIl := hI.2.2
  have hpl := hRM.1
  have ha9 := hRM.2.1
  have hb9 := hRM.2.2.1
  have hl := lv_entry ([.ref mo]) (n := 2) (Nat.le_of_ble_eq_true rfl)
  rw [lg_entry_eq]
  generalize (lg_sl ([.ref mo]) ++ List.replicate (2 - (lg_sl ([.ref mo])).length) Slot.unset).toArray = ls at hl ⊢
  have hl : lv_has ls 2 [(0, .ref mo)] := hl
  refine lv_aload_n hx hb d_Mo_next_0 rfl (lv_at hl 0 rfl) ?_
  refine va_get (D := (dC, dI)) (ci := 4) (v := .int (rFt q)) (C := "DemoTapeModel") (T := F_Mo) (N := 22) hx hb hts i_Mo hown hK hP 0 rfl rfl 18 (by decide) (hts _ mw402) (fun _ h9 => h9) rfl d_Mo_next_1 ?_
  refine lv_if_ne (tgt := 27) hx hb d_Mo_next_4 (by decide) (fun c_4 => ?_) (fun c_4 => ?_)
  · refine lv_aload_n hx hb d_Mo_next_27 rfl (lv_at hl 0 rfl) ?_
    refine va_get (D := (dC, dI)) (ci := 4) (v := .int (rFt q)) (C := "DemoTapeModel") (T := F_Mo) (N := 22) hx hb hts i_Mo hown hK hP 0 rfl rfl 18 (by decide) (hts _ mw402) (fun _ h9 => h9) rfl d_Mo_next_28 ?_
    refine lv_if_le (tgt := 36) hx hb d_Mo_next_31 (by decide) (fun c_31 => ?_) (fun c_31 => ?_)
    · exact absurd c_31 (ft_pos hok c_4)
    · refine lv_iconst (v := 0) hx hb d_Mo_next_34 (by decide) ?_
      exact kr_i (v := 0) (0, pp, a9, b9) hx hb hr rfl hK (hP.sub [0, 1] (by dsimp only; rw [tTake_f c_4]; first | done | rfl)) (hD.sub [0, 1] (by decide) (by dsimp only; rw [tTake_f c_4]; first | done | rfl)) hS ⟨by first | with_reducible rfl | with_reducible assumption | rfl | omega, by dsimp only; rw [tTake_f c_4]; exact hRM, ⟨by dsimp only; decide, fun z => absurd (tk_ft0 z) c_4⟩⟩ d_Mo_next_35 hlocks
  · have hpq : pp = rNx q := (hRM.2.2.2 c_4).1
    refine lv_aload_n hx hb d_Mo_next_7 rfl (lv_at hl 0 rfl) ?_
    refine va_get (D := (dC, dI)) (ci := 4) (v := .int (nI pp)) (C := "DemoTapeModel") (T := F_Mo) (N := 22) hx hb hts i_Mo hown hK hP 0 rfl rfl 17 (by decide) (hts _ mw401) (fun _ h9 => h9) rfl d_Mo_next_8 ?_
    refine lv_aload_n hx hb d_Mo_next_11 rfl (lv_at hl 0 rfl) ?_
    refine va_get (D := (dC, dI)) (ci := 4) (v := .int (nI I.length)) (C := "DemoTapeModel") (T := F_Mo) (N := 22) hx hb hts i_Mo hown hK hP 0 rfl rfl 10 (by decide) (hts _ mw394) (fun _ h9 => h9) rfl d_Mo_next_12 ?_
    refine lv_icmp_ne (tgt := 27) hx hb d_Mo_next_15 (by decide) (fun c_15 => ?_) (fun c_15 => ?_)
    · have n_15 := kn_ne (a := pp) (b := I.length) c_15 rfl rfl (by omega) (by omega)
      refine lv_aload_n hx hb d_Mo_next_27 rfl (lv_at hl 0 rfl) ?_
      refine va_get (D := (dC, dI)) (ci := 4) (v := .int (rFt q)) (C := "DemoTapeModel") (T := F_Mo) (N := 22) hx hb hts i_Mo hown hK hP 0 rfl rfl 18 (by decide) (hts _ mw402) (fun _ h9 => h9) rfl d_Mo_next_28 ?_
      refine lv_if_le (tgt := 36) hx hb d_Mo_next_31 (by decide) (fun c_31 => ?_) (fun c_31 => ?_)
      · have e9 : tTake I 255 q = (nI (I.getD pp 0), (pp + 1, rAn q, rFt q, rPl q)) := by rw [hpq]; exact tk_ok hI.2.1 c_4 (by omega) hI.2.2 (byte255 (Byt.getD hI.2.1 _))
        refine lv_aload_n hx hb d_Mo_next_36 rfl (lv_at hl 0 rfl) ?_
        refine va_get (D := (dC, dI)) (ci := 4) (v := .ref aI) (C := "DemoTapeModel") (T := F_Mo) (N := 22) hx hb hts i_Mo hown hK hP 0 rfl rfl 9 (by decide) (hts _ mw393) (fun _ h9 => h9) rfl d_Mo_next_37 ?_
        refine lv_aload_n hx hb d_Mo_next_40 rfl (lv_at hl 0 rfl) ?_
        refine va_get (D := (dC, dI)) (ci := 4) (v := .int (nI pp)) (C := "DemoTapeModel") (T := F_Mo) (N := 22) hx hb hts i_Mo hown hK hP 0 rfl rfl 17 (by decide) (hts _ mw401) (fun _ h9 => h9) rfl d_Mo_next_41 ?_
        refine kt_iald (j := pp) hx hb hK hP 1 0 rfl rfl (by omega) (by decide) d_Mo_next_44 ?_
        refine kt_i (y := nI (I.getD pp 0)) (hI.at (by omega)) ?_
        refine lv_istore_n (lv' := [(1, .int (nI (I.getD pp 0))), (0, .ref mo)]) hx hb d_Mo_next_45 rfl hl (by decide) rfl (fun ls hl => ?_)
        refine lv_aload_n hx hb d_Mo_next_46 rfl (lv_at hl 1 rfl) ?_
        refine lv_dup hx hb d_Mo_next_47 rfl ?_
        refine va_get (D := (dC, dI)) (ci := 4) (v := .int (nI pp)) (C := "DemoTapeModel") (T := F_Mo) (N := 22) hx hb hts i_Mo hown hK hP 0 rfl rfl 17 (by decide) (hts _ mw401) (fun _ h9 => h9) rfl d_Mo_next_48 ?_
        refine lv_iconst (v := 1) hx hb d_Mo_next_51 (by decide) ?_
        refine lv_iadd hx hb d_Mo_next_52 ?_
        refine kt_i (y := nI (pp + 1)) (nI_1 _) ?_
        refine va_put (D := (dC, dI)) (ci := 4) (v := .int (nI (pp + 1))) (ty := .int) (C := "DemoTapeModel") (T := F_Mo) (N := 22) hx hb hts i_Mo t_Mo t_Mo_ok n_Mo hown hK hP hD hS 0 rfl rfl 17 (by decide) (hts _ mw401) (fun _ h9 => h9) rfl (by decide +kernel) rfl rfl (Nat.le_of_ble_eq_true rfl) d_Mo_next_53 (fun H locs hP hD hS => ?_)
        have hP : va_P (dC, dI) classes [(mo, .inr (4, [.int th, .ref aS, .ref aA, .ref aB, .ref aT, .ref aU, .int (nI M.length), .ref aO, .int (nI O.length), .ref aI, .int (nI I.length), .ref bS, .ref bA, .ref bB, .ref bT, .ref bU, .int nm, .int (nI (pp + 1)), .int (rFt q), .int (rPl q), .int (nI a9), .int (nI b9)])), (aI, .inl (cI, 8192, .inl fi))] H := hP
        have hD : va_D A [(mo, .inr (4, [.int th, .ref aS, .ref aA, .ref aB, .ref aT, .ref aU, .int (nI M.length), .ref aO, .int (nI O.length), .ref aI, .int (nI I.length), .ref bS, .ref bA, .ref bB, .ref bT, .ref bU, .int nm, .int (nI (pp + 1)), .int (rFt q), .int (rPl q), .int (nI a9), .int (nI b9)])), (aI, .inl (cI, 8192, .inl fi))] := hD
        refine lv_aload_n hx hb d_Mo_next_56 rfl (lv_at hl 1 rfl) ?_
        refine lv_iload_n hx hb d_Mo_next_57 rfl (lv_at hl 0 rfl) ?_
        refine kc_v (wr := [(aI, .inl (cI, 8192, .inl fi))]) (w2 := fun (_ : Unit) => [(mo, .inr (4, [.int th, .ref aS, .ref aA, .ref aB, .ref aT, .ref aU, .int (nI M.length), .ref aO, .int (nI O.length), .ref aI, .int (nI I.length), .ref bS, .ref bA, .ref bB, .ref bT, .ref bU, .int nm, .int (nI (pp + 1)), .int (rFt q), .int (rPl q), .int (nI ((a9 + (I.getD pp 0)) % 65521)), .int (nI ((b9 + (a9 + (I.getD pp 0)) % 65521) % 65521))])), (aI, .inl (cI, 8192, .inl fi))]) (va_runV (As := [.int (nI (I.getD pp 0))]) (rest := []) ⟨hx, hb, hml, hown, hts⟩ (c_Mo_sum l dC dI cI cB cZ _ mo th aS aA aB aT aU M aO O aI I bS bA bB bT bU nm (nI (pp + 1)) (rFt q) (rPl q) a9 b9 (I.getD pp 0) (by first | with_reducible assumption | omega | decide) (by first | with_reducible assumption | omega | decide) (Byt.getD hI.2.1 pp)) (cwV 1 hts (gV mw483 mw485 mw14 mw30 mw486) rfl rfl rfl (by decide +kernel) ⟨Nat.le_of_ble_eq_true rfl, Nat.le_of_ble_eq_true rfl⟩) (kpV (wc := [(mo, .inr (4, [.int th, .ref aS, .ref aA, .ref aB, .ref aT, .ref aU, .int (nI M.length), .ref aO, .int (nI O.length), .ref aI, .int (nI I.length), .ref bS, .ref bA, .ref bB, .ref bT, .ref bU, .int nm, .int (nI (pp + 1)), .int (rFt q), .int (rPl q), .int (nI a9), .int (nI b9)]))]) (q0 := 0) (ci := 4) hK hP hD [0] rfl (by decide) rfl rfl rfl) rfl rfl hl.1 rfl (lv_room (Nat.le_of_ble_eq_true rfl)) d_Mo_next_58 ⟨Nat.le_of_ble_eq_true rfl, Nat.le_of_ble_eq_true rfl⟩) hP hD hS hA [0] [1] [1, 0] rfl rfl (by decide) (by decide) (fun _ => rfl) (by decide) (fun _ => rfl) (fun u9 H locs hw hP hD hS => ?_)
        have hP : va_P (dC, dI) classes [(mo, .inr (4, [.int th, .ref aS, .ref aA, .ref aB, .ref aT, .ref aU, .int (nI M.length), .ref aO, .int (nI O.length), .ref aI, .int (nI I.length), .ref bS, .ref bA, .ref bB, .ref bT, .ref bU, .int nm, .int (nI (pp + 1)), .int (rFt q), .int (rPl q), .int (nI ((a9 + (I.getD pp 0)) % 65521)), .int (nI ((b9 + (a9 + (I.getD pp 0)) % 65521) % 65521))])), (aI, .inl (cI, 8192, .inl fi))] H := hP
        have hD : va_D A [(mo, .inr (4, [.int th, .ref aS, .ref aA, .ref aB, .ref aT, .ref aU, .int (nI M.length), .ref aO, .int (nI O.length), .ref aI, .int (nI I.length), .ref bS, .ref bA, .ref bB, .ref bT, .ref bU, .int nm, .int (nI (pp + 1)), .int (rFt q), .int (rPl q), .int (nI ((a9 + (I.getD pp 0)) % 65521)), .int (nI ((b9 + (a9 + (I.getD pp 0)) % 65521) % 65521))])), (aI, .inl (cI, 8192, .inl fi))] := hD
        refine lv_iload_n hx hb d_Mo_next_61 rfl (lv_at hl 0 rfl) ?_
        exact kr_i (v := nI (I.getD pp 0)) (I.getD pp 0, pp + 1, (a9 + I.getD pp 0) % 65521, (b9 + (a9 + I.getD pp 0) % 65521) % 65521) hx hb hr rfl hK (hP.sub [0, 1] (by dsimp only; rw [e9]; first | done | rfl)) (hD.sub [0, 1] (by decide) (by dsimp only; rw [e9]; first | done | rfl)) hS ⟨by first | with_reducible rfl | with_reducible assumption | rfl | omega, by dsimp only; rw [e9]; exact ⟨by omega, Nat.mod_lt _ (by decide), Nat.mod_lt _ (by decide), fun _ => ⟨rfl, kCk_step (hRM.2.2.2 c_4).2 (by omega)⟩⟩, ⟨Byt.getD hI.2.1 pp, fun _ => by dsimp only; rw [e9]⟩⟩ d_Mo_next_62 hlocks
      · exact absurd (by rw [c_4]; decide) c_31
    · have n_15 := kn_eq (a := pp) (b := I.length) (by first | exact c_15 | exact Decidable.not_not.mp c_15) rfl rfl (by omega) (by omega)
      have e9 : tTake I 255 q = (-1, rFail 1 (nI I.length) q) := by have h9 := tk_end (I := I) c_4 (by omega) (by omega); rw [← hpq, n_15] at h9; exact h9
      refine lv_aload_n hx hb d_Mo_next_18 rfl (lv_at hl 0 rfl) ?_
      refine lv_iconst (v := 1) hx hb d_Mo_next_19 (by decide) ?_
      refine lv_aload_n hx hb d_Mo_next_20 rfl (lv_at hl 0 rfl) ?_
      refine va_get (D := (dC, dI)) (ci := 4) (v := .int (nI I.length)) (C := "DemoTapeModel") (T := F_Mo) (N := 22) hx hb hts i_Mo hown hK hP 0 rfl rfl 10 (by decide) (hts _ mw394) (fun _ h9 => h9) rfl d_Mo_next_21 ?_
      refine kc_v (wr := [(aI, .inl (cI, 8192, .inl fi))]) (w2 := fun (_ : Unit) => [(mo, .inr (4, [.int th, .ref aS, .ref aA, .ref aB, .ref aT, .ref aU, .int (nI M.length), .ref aO, .int (nI O.length), .ref aI, .int (nI I.length), .ref bS, .ref bA, .ref bB, .ref bT, .ref bU, .int nm, .int (nI pp), .int (rFt (rFail 1 (nI I.length) q)), .int (rPl (rFail 1 (nI I.length) q)), .int (nI a9), .int (nI b9)])), (aI, .inl (cI, 8192, .inl fi))]) (va_runV (As := [.int 1, .int (nI I.length)]) (rest := []) ⟨hx, hb, hml, hown, hts⟩ (c_Mo_wrong l dC dI cI cB cZ _ mo th aS aA aB aT aU M aO O aI I bS bA bB bT bU nm (nI pp) (nI a9) (nI b9) q 1 (nI I.length) ) (cwV 2 hts (gV mw521 mw523 mw18 mw30 mw524) rfl rfl rfl (by decide +kernel) ⟨Nat.le_of_ble_eq_true rfl, Nat.le_of_ble_eq_true rfl⟩) (kpV (wc := [(mo, .inr (4, [.int th, .ref aS, .ref aA, .ref aB, .ref aT, .ref aU, .int (nI M.length), .ref aO, .int (nI O.length), .ref aI, .int (nI I.length), .ref bS, .ref bA, .ref bB, .ref bT, .ref bU, .int nm, .int (nI pp), .int (rFt q), .int (rPl q), .int (nI a9), .int (nI b9)]))]) (q0 := 0) (ci := 4) hK hP hD [0] rfl (by decide) rfl rfl rfl) rfl rfl hl.1 rfl (lv_room (Nat.le_of_ble_eq_true rfl)) d_Mo_next_24 ⟨Nat.le_of_ble_eq_true rfl, Nat.le_of_ble_eq_true rfl⟩) hP hD hS hA [0] [1] [1, 0] rfl rfl (by decide) (by decide) (fun _ => rfl) (by decide) (fun _ => rfl) (fun u9 H locs hw hP hD hS => ?_)
      have hP : va_P (dC, dI) classes [(mo, .inr (4, [.int th, .ref aS, .ref aA, .ref aB, .ref aT, .ref aU, .int (nI M.length), .ref aO, .int (nI O.length), .ref aI, .int (nI I.length), .ref bS, .ref bA, .ref bB, .ref bT, .ref bU, .int nm, .int (nI pp), .int (rFt (rFail 1 (nI I.length) q)), .int (rPl (rFail 1 (nI I.length) q)), .int (nI a9), .int (nI b9)])), (aI, .inl (cI, 8192, .inl fi))] H := hP
      have hD : va_D A [(mo, .inr (4, [.int th, .ref aS, .ref aA, .ref aB, .ref aT, .ref aU, .int (nI M.length), .ref aO, .int (nI O.length), .ref aI, .int (nI I.length), .ref bS, .ref bA, .ref bB, .ref bT, .ref bU, .int nm, .int (nI pp), .int (rFt (rFail 1 (nI I.length) q)), .int (rPl (rFail 1 (nI I.length) q)), .int (nI a9), .int (nI b9)])), (aI, .inl (cI, 8192, .inl fi))] := hD
      refine lv_aload_n hx hb d_Mo_next_27 rfl (lv_at hl 0 rfl) ?_
      refine va_get (D := (dC, dI)) (ci := 4) (v := .int (rFt (rFail 1 (nI I.length) q))) (C := "DemoTapeModel") (T := F_Mo) (N := 22) hx hb hts i_Mo hown hK hP 0 rfl rfl 18 (by decide) (hts _ mw402) (fun _ h9 => h9) rfl d_Mo_next_28 ?_
      refine lv_if_le (tgt := 36) hx hb d_Mo_next_31 (by decide) (fun c_31 => ?_) (fun c_31 => ?_)
      · exact absurd c_31 (by rw [rFail_y c_4]; exact (by decide : ¬ (1 : Int32) ≤ 0))
      · refine lv_iconst (v := 0) hx hb d_Mo_next_34 (by decide) ?_
        exact kr_i (v := 0) (0, pp, a9, b9) hx hb hr rfl hK (hP.sub [0, 1] (by dsimp only; rw [e9]; first | done | rfl)) (hD.sub [0, 1] (by decide) (by dsimp only; rw [e9]; first | done | rfl)) hS ⟨by first | with_reducible rfl | with_reducible assumption | rfl | omega, by dsimp only; rw [e9]; exact hRM.fail (by decide), ⟨by dsimp only; decide, fun z => absurd z (by rw [e9]; exact rFail_ft (by decide))⟩⟩ d_Mo_next_35 hlocks
abbrev Qc_Mo_nextUpTo (dC : Nat → ClassId) (dI : Nat → Nat → Nat) (cI cB cZ : ClassId) (mo : Nat) (th : Int32) (aS : Nat) (aA : Nat) (aB : Nat) (aT : Nat) (aU : Nat) (M : List Int32) (aO : Nat) (O : List Nat) (aI : Nat) (I : List Nat) (bS : Nat) (bA : Nat) (bB : Nat) (bT : Nat) (bU : Nat) (nm : Int32) (q : RS) (pp : Nat) (a9 : Nat) (b9 : Nat) (fi : Nat → Int32) (ms : Int32) (le : Int32) (A : Nat → Prop) := va_Qi (fun (r9 : Int32) (u9 : Nat × Nat × Nat × Nat) => (r9 = nI u9.1 - le) ∧ (RM I (tTake I ms q).2 u9.2.1 u9.2.2.1 u9.2.2.2) ∧ (NV I ms q u9.1)) (ka (dC, dI) classes [(cI, .int), (cB, .byte), (cZ, .boolean)] (fun (u9 : Nat × Nat × Nat × Nat) => [(mo, .inr (4, [.int th, .ref aS, .ref aA, .ref aB, .ref aT, .ref aU, .int (nI M.length), .ref aO, .int (nI O.length), .ref aI, .int (nI I.length), .ref bS, .ref bA, .ref bB, .ref bT, .ref bU, .int nm, .int (nI u9.2.1), .int (rFt (tTake I ms q).2), .int (rPl (tTake I ms q).2), .int (nI u9.2.2.1), .int (nI u9.2.2.2)])), (aI, .inl (cI, 8192, .inl fi))]) A) A
set_option maxHeartbeats 1000000 in
set_option maxRecDepth 100000 in
/-- Model.nextUpTo -/
theorem c_Mo_nextUpTo (l : Launch) (dC : Nat → ClassId) (dI : Nat → Nat → Nat) (cI cB cZ : ClassId) (sz : Nat) (mo : Nat) (th : Int32) (aS : Nat) (aA : Nat) (aB : Nat) (aT : Nat) (aU : Nat) (M : List Int32) (aO : Nat) (O : List Nat) (aI : Nat) (I : List Nat) (bS : Nat) (bA : Nat) (bB : Nat) (bT : Nat) (bU : Nat) (nm : Int32) (q : RS) (pp : Nat) (a9 : Nat) (b9 : Nat) (fi : Nat → Int32) (ms : Int32) (le : Int32) (hI : NRow 8192 fi I) (hRM : RM I q pp a9 b9) (hok : FtOk q) : Met l y_Mo_nextUpTo w_Mo_nextUpTo ({ frames := 2, cells := 0, slots := 0, locals := 43 }) (va_Pc [.ref mo, .int ms, .int le] (kp (dC, dI) classes [(cI, .int), (cB, .byte), (cZ, .boolean)] [(mo, .inr (4, [.int th, .ref aS, .ref aA, .ref aB, .ref aT, .ref aU, .int (nI M.length), .ref aO, .int (nI O.length), .ref aI, .int (nI I.length), .ref bS, .ref bA, .ref bB, .ref bT, .ref bU, .int nm, .int (nI pp), .int (rFt q), .int (rPl q), .int (nI a9), .int (nI b9)])), (aI, .inl (cI, 8192, .inl fi))] sz)) (Qc_Mo_nextUpTo dC dI cI cB cZ mo th aS aA aB aT aU M aO O aI I bS bA bB bT bU nm q pp a9 b9 fi ms le (va_A [(mo, .inr (4, [.int th, .ref aS, .ref aA, .ref aB, .ref aT, .ref aU, .int (nI M.length), .ref aO, .int (nI O.length), .ref aI, .int (nI I.length), .ref bS, .ref bA, .ref bB, .ref bT, .ref bU, .int nm, .int (nI pp), .int (rFt q), .int (rPl q), .int (nI a9), .int (nI b9)])), (aI, .inl (cI, 8192, .inl fi))] sz)) 0 0 (va_A [(mo, .inr (4, [.int th, .ref aS, .ref aA, .ref aB, .ref aT, .ref aU, .int (nI M.length), .ref aO, .int (nI O.length), .ref aI, .int (nI I.length), .ref bS, .ref bA, .ref bB, .ref bT, .ref bU, .int nm, .int (nI pp), .int (rFt q), .int (rPl q), .int (nI a9), .int (nI b9)])), (aI, .inl (cI, 8192, .inl fi))] sz) := by
  refine Met.ofW (cc := prog_7_method_19_code) (maxL := 4) (ret := (some .int)) (by decide) rfl ?_
  intro p e s m args below meth c s₁ B hml hv
  obtain ⟨rfl, hsz, hP, hK, hD0⟩ := hv
  have hx := B.exec
  have hb := B.bytes
  have hr := B.returns
  have hts := fun w h => atoms_spec (ws := w_Mo_nextUpTo) B.pre w (List.mem_cons_of_mem _ h)
  have hown : s.vm.findClass "DemoTapeModel" = some m.cls := findClass_of_methodNamed B.named
  have hlocks := B.notSynchronized
  subst hsz
  have hD := hD0.self (sz := s.heap.size)
  generalize hAe : va_A ([(mo, .inr (4, [.int th, .ref aS, .ref aA, .ref aB, .ref aT, .ref aU, .int (nI M.length), .ref aO, .int (nI O.length), .ref aI, .int (nI I.length), .ref bS, .ref bA, .ref bB, .ref bT, .ref bU, .int nm, .int (nI pp), .int (rFt q), .int (rPl q), .int (nI a9), .int (nI b9)])), (aI, .inl (cI, 8192, .inl fi))] : va_W) s.heap.size = A at hD ⊢
  have hA : ∀ q : Nat, s.heap.size ≤ q → A q := fun q h => by rw [← hAe]; exact Or.inr h
  have hS : va_S A s.heap s.heap [] := va_S.rf
  have hP : va_P (dC, dI) classes [(mo, .inr (4, [.int th, .ref aS, .ref aA, .ref aB, .ref aT, .ref aU, .int (nI M.length), .ref aO, .int (nI O.length), .ref aI, .int (nI I.length), .ref bS, .ref bA, .ref bB, .ref bT, .ref bU, .int nm, .int (nI pp), .int (rFt q), .int (rPl q), .int (nI a9), .int (nI b9)])), (aI, .inl (cI, 8192, .inl fi))] s.heap := hP
  have hl := lv_entry ([.ref mo, .int ms, .int le]) (n := 4) (Nat.le_of_ble_eq_true rfl)
  rw [lg_entry_eq]
  generalize (lg_sl ([.ref mo, .int ms, .int le]) ++ List.replicate (4 - (lg_sl ([.ref mo, .int ms, .int le])).length) Slot.unset).toArray = ls at hl ⊢
  have hl : lv_has ls 4 [(0, .ref mo), (1, .int ms), (2, .int le)] := hl
  refine lv_aload_n hx hb d_Mo_nextUpTo_0 rfl (lv_at hl 0 rfl) ?_
  refine kc_i (wr := []) (w2 := fun (u9 : Nat × Nat × Nat × Nat) => [(mo, .inr (4, [.int th, .ref aS, .ref aA, .ref aB, .ref aT, .ref aU, .int (nI M.length), .ref aO, .int (nI O.length), .ref aI, .int (nI I.length), .ref bS, .ref bA, .ref bB, .ref bT, .ref bU, .int nm, .int (nI u9.2.1), .int (rFt (tTake I 255 q).2), .int (rPl (tTake I 255 q).2), .int (nI u9.2.2.1), .int (nI u9.2.2.2)])), (aI, .inl (cI, 8192, .inl fi))]) (va_runV (As := []) (rest := []) ⟨hx, hb, hml, hown, hts⟩ (c_Mo_next l dC dI cI cB cZ _ mo th aS aA aB aT aU M aO O aI I bS bA bB bT bU nm q pp a9 b9 fi (by first | with_reducible assumption | omega | decide) (by first | with_reducible assumption | omega | decide) (by first | with_reducible assumption | omega | decide)) (cwV 0 hts (gV mw517 mw519 mw17 mw30 mw520) rfl rfl rfl (by decide +kernel) ⟨Nat.le_of_ble_eq_true rfl, Nat.le_of_ble_eq_true rfl⟩) (kpV (wc := [(mo, .inr (4, [.int th, .ref aS, .ref aA, .ref aB, .ref aT, .ref aU, .int (nI M.length), .ref aO, .int (nI O.length), .ref aI, .int (nI I.length), .ref bS, .ref bA, .ref bB, .ref bT, .ref bU, .int nm, .int (nI pp), .int (rFt q), .int (rPl q), .int (nI a9), .int (nI b9)])), (aI, .inl (cI, 8192, .inl fi))]) (q0 := 0) (ci := 4) hK hP hD [0, 1] rfl (by decide) rfl rfl rfl) rfl rfl hl.1 rfl (lv_room (Nat.le_of_ble_eq_true rfl)) d_Mo_nextUpTo_1 ⟨Nat.le_of_ble_eq_true rfl, Nat.le_of_ble_eq_true rfl⟩) hP hD hS hA [0, 1] [] [0, 1] rfl rfl (by decide) (by decide) (fun _ => rfl) (by decide) (fun _ => rfl) (fun r_1 u9 H locs hw hP hD hS => ?_)
  obtain ⟨k_1, pp1_1, a1_1, b1_1⟩ := u9
  try dsimp only at hw
  have hP : va_P (dC, dI) classes [(mo, .inr (4, [.int th, .ref aS, .ref aA, .ref aB, .ref aT, .ref aU, .int (nI M.length), .ref aO, .int (nI O.length), .ref aI, .int (nI I.length), .ref bS, .ref bA, .ref bB, .ref bT, .ref bU, .int nm, .int (nI pp1_1), .int (rFt (tTake I 255 q).2), .int (rPl (tTake I 255 q).2), .int (nI a1_1), .int (nI b1_1)])), (aI, .inl (cI, 8192, .inl fi))] H := hP
  have hD : va_D A [(mo, .inr (4, [.int th, .ref aS, .ref aA, .ref aB, .ref aT, .ref aU, .int (nI M.length), .ref aO, .int (nI O.length), .ref aI, .int (nI I.length), .ref bS, .ref bA, .ref bB, .ref bT, .ref bU, .int nm, .int (nI pp1_1), .int (rFt (tTake I 255 q).2), .int (rPl (tTake I 255 q).2), .int (nI a1_1), .int (nI b1_1)])), (aI, .inl (cI, 8192, .inl fi))] := hD
  obtain ⟨e_1, hRM_1, hNV_1⟩ := hw
  refine kt_i e_1 ?_
  refine lv_istore_n (lv' := [(3, .int (nI k_1)), (0, .ref mo), (1, .int ms), (2, .int le)]) hx hb d_Mo_nextUpTo_4 rfl hl (by decide) rfl (fun ls hl => ?_)
  refine lv_aload_n hx hb d_Mo_nextUpTo_5 rfl (lv_at hl 1 rfl) ?_
  refine va_get (D := (dC, dI)) (ci := 4) (v := .int (rFt (tTake I 255 q).2)) (C := "DemoTapeModel") (T := F_Mo) (N := 22) hx hb hts i_Mo hown hK hP 0 rfl rfl 18 (by decide) (hts _ mw402) (fun _ h9 => h9) rfl d_Mo_nextUpTo_6 ?_
  refine lv_if_ne (tgt := 28) hx hb d_Mo_nextUpTo_9 (by decide) (fun c_9 => ?_) (fun c_9 => ?_)
  · refine lv_iload_n hx hb d_Mo_nextUpTo_28 rfl (lv_at hl 0 rfl) ?_
    refine lv_iload_n hx hb d_Mo_nextUpTo_29 rfl (lv_at hl 3 rfl) ?_
    refine lv_isub hx hb d_Mo_nextUpTo_30 ?_
    have e9 := up_A (mo := ms) hI.2.1 hI.2.2 hRM.nx c_9
    exact kr_i (v := (nI k_1) - le) (k_1, pp1_1, a1_1, b1_1) hx hb hr rfl hK (hP.sub [0, 1] (by dsimp only; rw [e9]; first | done | rfl)) (hD.sub [0, 1] (by decide) (by dsimp only; rw [e9]; first | done | rfl)) hS ⟨by first | with_reducible rfl | with_reducible assumption | rfl | omega, by dsimp only; rw [e9]; exact hRM_1, ⟨hNV_1.1, fun z => absurd (by rw [← e9]; exact z) c_9⟩⟩ d_Mo_nextUpTo_31 hlocks
  · refine lv_iload_n hx hb d_Mo_nextUpTo_12 rfl (lv_at hl 0 rfl) ?_
    refine lv_iload_n hx hb d_Mo_nextUpTo_13 rfl (lv_at hl 2 rfl) ?_
    refine lv_icmp_le (tgt := 28) hx hb d_Mo_nextUpTo_14 (by decide) (fun c_14 => ?_) (fun c_14 => ?_)
    · refine lv_iload_n hx hb d_Mo_nextUpTo_28 rfl (lv_at hl 0 rfl) ?_
      refine lv_iload_n hx hb d_Mo_nextUpTo_29 rfl (lv_at hl 3 rfl) ?_
      refine lv_isub hx hb d_Mo_nextUpTo_30 ?_
      have e9 := up_B (mo := ms) hI.2.1 hI.2.2 hRM.nx c_9 (by rw [← hNV_1.2 c_9]; exact c_14)
      exact kr_i (v := (nI k_1) - le) (k_1, pp1_1, a1_1, b1_1) hx hb hr rfl hK (hP.sub [0, 1] (by dsimp only; rw [e9]; first | done | rfl)) (hD.sub [0, 1] (by decide) (by dsimp only; rw [e9]; first | done | rfl)) hS ⟨by first | with_reducible rfl | with_reducible assumption | rfl | omega, by dsimp only; rw [e9]; exact hRM_1, ⟨hNV_1.1, fun z => by dsimp only; rw [e9]; exact hNV_1.2 c_9⟩⟩ d_Mo_nextUpTo_31 hlocks
    · refine lv_aload_n hx hb d_Mo_nextUpTo_17 rfl (lv_at hl 1 rfl) ?_
      refine lv_iconst (v := 3) hx hb d_Mo_nextUpTo_18 (by decide) ?_
      refine lv_aload_n hx hb d_Mo_nextUpTo_19 rfl (lv_at hl 1 rfl) ?_
      refine va_get (D := (dC, dI)) (ci := 4) (v := .int (nI pp1_1)) (C := "DemoTapeModel") (T := F_Mo) (N := 22) hx hb hts i_Mo hown hK hP 0 rfl rfl 17 (by decide) (hts _ mw401) (fun _ h9 => h9) rfl d_Mo_nextUpTo_20 ?_
      refine lv_iconst (v := 1) hx hb d_Mo_nextUpTo_23 (by decide) ?_
      refine lv_isub hx hb d_Mo_nextUpTo_24 ?_
      refine kt_i (y := nI (rNx q)) (by rw [(hRM_1.2.2.2 c_9).1, tk_nx c_9]; exact nI_pred _) ?_
      refine kc_v (wr := [(aI, .inl (cI, 8192, .inl fi))]) (w2 := fun (_ : Unit) => [(mo, .inr (4, [.int th, .ref aS, .ref aA, .ref aB, .ref aT, .ref aU, .int (nI M.length), .ref aO, .int (nI O.length), .ref aI, .int (nI I.length), .ref bS, .ref bA, .ref bB, .ref bT, .ref bU, .int nm, .int (nI pp1_1), .int (rFt (rFail 3 (nI (rNx q)) (tTake I 255 q).2)), .int (rPl (rFail 3 (nI (rNx q)) (tTake I 255 q).2)), .int (nI a1_1), .int (nI b1_1)])), (aI, .inl (cI, 8192, .inl fi))]) (va_runV (As := [.int 3, .int (nI (rNx q))]) (rest := []) ⟨hx, hb, hml, hown, hts⟩ (c_Mo_wrong l dC dI cI cB cZ _ mo th aS aA aB aT aU M aO O aI I bS bA bB bT bU nm (nI pp1_1) (nI a1_1) (nI b1_1) (tTake I 255 q).2 3 (nI (rNx q)) ) (cwV 2 hts (gV mw521 mw523 mw18 mw30 mw524) rfl rfl rfl (by decide +kernel) ⟨Nat.le_of_ble_eq_true rfl, Nat.le_of_ble_eq_true rfl⟩) (kpV (wc := [(mo, .inr (4, [.int th, .ref aS, .ref aA, .ref aB, .ref aT, .ref aU, .int (nI M.length), .ref aO, .int (nI O.length), .ref aI, .int (nI I.length), .ref bS, .ref bA, .ref bB, .ref bT, .ref bU, .int nm, .int (nI pp1_1), .int (rFt (tTake I 255 q).2), .int (rPl (tTake I 255 q).2), .int (nI a1_1), .int (nI b1_1)]))]) (q0 := 0) (ci := 4) hK hP hD [0] rfl (by decide) rfl rfl rfl) rfl rfl hl.1 rfl (lv_room (Nat.le_of_ble_eq_true rfl)) d_Mo_nextUpTo_25 ⟨Nat.le_of_ble_eq_true rfl, Nat.le_of_ble_eq_true rfl⟩) hP hD hS hA [0] [1] [1, 0] rfl rfl (by decide) (by decide) (fun _ => rfl) (by decide) (fun _ => rfl) (fun u9 H locs hw hP hD hS => ?_)
      have hP : va_P (dC, dI) classes [(mo, .inr (4, [.int th, .ref aS, .ref aA, .ref aB, .ref aT, .ref aU, .int (nI M.length), .ref aO, .int (nI O.length), .ref aI, .int (nI I.length), .ref bS, .ref bA, .ref bB, .ref bT, .ref bU, .int nm, .int (nI pp1_1), .int (rFt (rFail 3 (nI (rNx q)) (tTake I 255 q).2)), .int (rPl (rFail 3 (nI (rNx q)) (tTake I 255 q).2)), .int (nI a1_1), .int (nI b1_1)])), (aI, .inl (cI, 8192, .inl fi))] H := hP
      have hD : va_D A [(mo, .inr (4, [.int th, .ref aS, .ref aA, .ref aB, .ref aT, .ref aU, .int (nI M.length), .ref aO, .int (nI O.length), .ref aI, .int (nI I.length), .ref bS, .ref bA, .ref bB, .ref bT, .ref bU, .int nm, .int (nI pp1_1), .int (rFt (rFail 3 (nI (rNx q)) (tTake I 255 q).2)), .int (rPl (rFail 3 (nI (rNx q)) (tTake I 255 q).2)), .int (nI a1_1), .int (nI b1_1)])), (aI, .inl (cI, 8192, .inl fi))] := hD
      refine lv_iload_n hx hb d_Mo_nextUpTo_28 rfl (lv_at hl 0 rfl) ?_
      refine lv_iload_n hx hb d_Mo_nextUpTo_29 rfl (lv_at hl 3 rfl) ?_
      refine lv_isub hx hb d_Mo_nextUpTo_30 ?_
      have e9 := up_C (mo := ms) hI.2.1 hI.2.2 hRM.nx c_9 (by rw [← hNV_1.2 c_9]; exact c_14)
      exact kr_i (v := (nI k_1) - le) (k_1, pp1_1, a1_1, b1_1) hx hb hr rfl hK (hP.sub [0, 1] (by dsimp only; rw [e9, rFail_y c_9, rFail_y (tk_ft0 c_9)]; first | done | rfl)) (hD.sub [0, 1] (by decide) (by dsimp only; rw [e9, rFail_y c_9, rFail_y (tk_ft0 c_9)]; first | done | rfl)) hS ⟨by first | with_reducible rfl | with_reducible assumption | rfl | omega, by dsimp only; rw [e9]; exact ⟨hRM_1.1, hRM_1.2.1, hRM_1.2.2.1, fun z => absurd z (rFail_ft (by decide))⟩, ⟨hNV_1.1, fun z => absurd z (by rw [e9]; exact rFail_ft (by decide))⟩⟩ d_Mo_nextUpTo_31 hlocks
abbrev Qc_Mo_nextTwo (dC : Nat → ClassId) (dI : Nat → Nat → Nat) (cI cB cZ : ClassId) (mo : Nat) (th : Int32) (aS : Nat) (aA : Nat) (aB : Nat) (aT : Nat) (aU : Nat) (M : List Int32) (aO : Nat) (O : List Nat) (aI : Nat) (I : List Nat) (bS : Nat) (bA : Nat) (bB : Nat) (bT : Nat) (bU : Nat) (nm : Int32) (q : RS) (pp : Nat) (a9 : Nat) (b9 : Nat) (fi : Nat → Int32) (A : Nat → Prop) := va_Qi (fun (r9 : Int32) (u9 : Int32 × Nat × Nat × Nat) => (r9 = u9.1) ∧ (RM I (tPlace I q).2 u9.2.1 u9.2.2.1 u9.2.2.2) ∧ (rFt (tPlace I q).2 = 0 → u9.1 = (tPlace I q).1)) (ka (dC, dI) classes [(cI, .int), (cB, .byte), (cZ, .boolean)] (fun (u9 : Int32 × Nat × Nat × Nat) => [(mo, .inr (4, [.int th, .ref aS, .ref aA, .ref aB, .ref aT, .ref aU, .int (nI M.length), .ref aO, .int (nI O.length), .ref aI, .int (nI I.length), .ref bS, .ref bA, .ref bB, .ref bT, .ref bU, .int nm, .int (nI u9.2.1), .int (rFt (tPlace I q).2), .int (rPl (tPlace I q).2), .int (nI u9.2.2.1), .int (nI u9.2.2.2)])), (aI, .inl (cI, 8192, .inl fi))]) A) A
set_option maxHeartbeats 1000000 in
set_option maxRecDepth 100000 in
/-- Model.nextTwo -/
theorem c_Mo_nextTwo (l : Launch) (dC : Nat → ClassId) (dI : Nat → Nat → Nat) (cI cB cZ : ClassId) (sz : Nat) (mo : Nat) (th : Int32) (aS : Nat) (aA : Nat) (aB : Nat) (aT : Nat) (aU : Nat) (M : List Int32) (aO : Nat) (O : List Nat) (aI : Nat) (I : List Nat) (bS : Nat) (bA : Nat) (bB : Nat) (bT : Nat) (bU : Nat) (nm : Int32) (q : RS) (pp : Nat) (a9 : Nat) (b9 : Nat) (fi : Nat → Int32) (hI : NRow 8192 fi I) (hRM : RM I q pp a9 b9) (hok : FtOk q) : Met l y_Mo_nextTwo w_Mo_nextTwo ({ frames := 2, cells := 0, slots := 0, locals := 43 }) (va_Pc [.ref mo] (kp (dC, dI) classes [(cI, .int), (cB, .byte), (cZ, .boolean)] [(mo, .inr (4, [.int th, .ref aS, .ref aA, .ref aB, .ref aT, .ref aU, .int (nI M.length), .ref aO, .int (nI O.length), .ref aI, .int (nI I.length), .ref bS, .ref bA, .ref bB, .ref bT, .ref bU, .int nm, .int (nI pp), .int (rFt q), .int (rPl q), .int (nI a9), .int (nI b9)])), (aI, .inl (cI, 8192, .inl fi))] sz)) (Qc_Mo_nextTwo dC dI cI cB cZ mo th aS aA aB aT aU M aO O aI I bS bA bB bT bU nm q pp a9 b9 fi (va_A [(mo, .inr (4, [.int th, .ref aS, .ref aA, .ref aB, .ref aT, .ref aU, .int (nI M.length), .ref aO, .int (nI O.length), .ref aI, .int (nI I.length), .ref bS, .ref bA, .ref bB, .ref bT, .ref bU, .int nm, .int (nI pp), .int (rFt q), .int (rPl q), .int (nI a9), .int (nI b9)])), (aI, .inl (cI, 8192, .inl fi))] sz)) 0 0 (va_A [(mo, .inr (4, [.int th, .ref aS, .ref aA, .ref aB, .ref aT, .ref aU, .int (nI M.length), .ref aO, .int (nI O.length), .ref aI, .int (nI I.length), .ref bS, .ref bA, .ref bB, .ref bT, .ref bU, .int nm, .int (nI pp), .int (rFt q), .int (rPl q), .int (nI a9), .int (nI b9)])), (aI, .inl (cI, 8192, .inl fi))] sz) := by
  refine Met.ofW (cc := prog_7_method_20_code) (maxL := 2) (ret := (some .int)) (by decide) rfl ?_
  intro p e s m args below meth c s₁ B hml hv
  obtain ⟨rfl, hsz, hP, hK, hD0⟩ := hv
  have hx := B.exec
  have hb := B.bytes
  have hr := B.returns
  have hts := fun w h => atoms_spec (ws := w_Mo_nextTwo) B.pre w (List.mem_cons_of_mem _ h)
  have hown : s.vm.findClass "DemoTapeModel" = some m.cls := findClass_of_methodNamed B.named
  have hlocks := B.notSynchronized
  subst hsz
  have hD := hD0.self (sz := s.heap.size)
  generalize hAe : va_A ([(mo, .inr (4, [.int th, .ref aS, .ref aA, .ref aB, .ref aT, .ref aU, .int (nI M.length), .ref aO, .int (nI O.length), .ref aI, .int (nI I.length), .ref bS, .ref bA, .ref bB, .ref bT, .ref bU, .int nm, .int (nI pp), .int (rFt q), .int (rPl q), .int (nI a9), .int (nI b9)])), (aI, .inl (cI, 8192, .inl fi))] : va_W) s.heap.size = A at hD ⊢
  have hA : ∀ q : Nat, s.heap.size ≤ q → A q := fun q h => by rw [← hAe]; exact Or.inr h
  have hS : va_S A s.heap s.heap [] := va_S.rf
  have hP : va_P (dC, dI) classes [(mo, .inr (4, [.int th, .ref aS, .ref aA, .ref aB, .ref aT, .ref aU, .int (nI M.length), .ref aO, .int (nI O.length), .ref aI, .int (nI I.length), .ref bS, .ref bA, .ref bB, .ref bT, .ref bU, .int nm, .int (nI pp), .int (rFt q), .int (rPl q), .int (nI a9), .int (nI b9)])), (aI, .inl (cI, 8192, .inl fi))] s.heap := hP
  have hl := lv_entry ([.ref mo]) (n := 2) (Nat.le_of_ble_eq_true rfl)
  rw [lg_entry_eq]
  generalize (lg_sl ([.ref mo]) ++ List.replicate (2 - (lg_sl ([.ref mo])).length) Slot.unset).toArray = ls at hl ⊢
  have hl : lv_has ls 2 [(0, .ref mo)] := hl
  refine lv_aload_n hx hb d_Mo_nextTwo_0 rfl (lv_at hl 0 rfl) ?_
  refine kc_i (wr := []) (w2 := fun (u9 : Nat × Nat × Nat × Nat) => [(mo, .inr (4, [.int th, .ref aS, .ref aA, .ref aB, .ref aT, .ref aU, .int (nI M.length), .ref aO, .int (nI O.length), .ref aI, .int (nI I.length), .ref bS, .ref bA, .ref bB, .ref bT, .ref bU, .int nm, .int (nI u9.2.1), .int (rFt (tTake I 255 q).2), .int (rPl (tTake I 255 q).2), .int (nI u9.2.2.1), .int (nI u9.2.2.2)])), (aI, .inl (cI, 8192, .inl fi))]) (va_runV (As := []) (rest := []) ⟨hx, hb, hml, hown, hts⟩ (c_Mo_next l dC dI cI cB cZ _ mo th aS aA aB aT aU M aO O aI I bS bA bB bT bU nm q pp a9 b9 fi (by first | with_reducible assumption | omega | decide) (by first | with_reducible assumption | omega | decide) (by first | with_reducible assumption | omega | decide)) (cwV 0 hts (gV mw517 mw519 mw17 mw30 mw520) rfl rfl rfl (by decide +kernel) ⟨Nat.le_of_ble_eq_true rfl, Nat.le_of_ble_eq_true rfl⟩) (kpV (wc := [(mo, .inr (4, [.int th, .ref aS, .ref aA, .ref aB, .ref aT, .ref aU, .int (nI M.length), .ref aO, .int (nI O.length), .ref aI, .int (nI I.length), .ref bS, .ref bA, .ref bB, .ref bT, .ref bU, .int nm, .int (nI pp), .int (rFt q), .int (rPl q), .int (nI a9), .int (nI b9)])), (aI, .inl (cI, 8192, .inl fi))]) (q0 := 0) (ci := 4) hK hP hD [0, 1] rfl (by decide) rfl rfl rfl) rfl rfl hl.1 rfl (lv_room (Nat.le_of_ble_eq_true rfl)) d_Mo_nextTwo_1 ⟨Nat.le_of_ble_eq_true rfl, Nat.le_of_ble_eq_true rfl⟩) hP hD hS hA [0, 1] [] [0, 1] rfl rfl (by decide) (by decide) (fun _ => rfl) (by decide) (fun _ => rfl) (fun r_1 u9 H locs hw hP hD hS => ?_)
  obtain ⟨k_1, pp1_1, a1_1, b1_1⟩ := u9
  try dsimp only at hw
  have hP : va_P (dC, dI) classes [(mo, .inr (4, [.int th, .ref aS, .ref aA, .ref aB, .ref aT, .ref aU, .int (nI M.length), .ref aO, .int (nI O.length), .ref aI, .int (nI I.length), .ref bS, .ref bA, .ref bB, .ref bT, .ref bU, .int nm, .int (nI pp1_1), .int (rFt (tTake I 255 q).2), .int (rPl (tTake I 255 q).2), .int (nI a1_1), .int (nI b1_1)])), (aI, .inl (cI, 8192, .inl fi))] H := hP
  have hD : va_D A [(mo, .inr (4, [.int th, .ref aS, .ref aA, .ref aB, .ref aT, .ref aU, .int (nI M.length), .ref aO, .int (nI O.length), .ref aI, .int (nI I.length), .ref bS, .ref bA, .ref bB, .ref bT, .ref bU, .int nm, .int (nI pp1_1), .int (rFt (tTake I 255 q).2), .int (rPl (tTake I 255 q).2), .int (nI a1_1), .int (nI b1_1)])), (aI, .inl (cI, 8192, .inl fi))] := hD
  obtain ⟨e_1, hRM_1, hNV_1⟩ := hw
  refine kt_i e_1 ?_
  refine lv_sipush (v := 256) hx hb d_Mo_nextTwo_4 (by decide) ?_
  refine lv_imul hx hb d_Mo_nextTwo_7 ?_
  refine lv_istore_n (lv' := [(1, .int ((nI k_1) * 256)), (0, .ref mo)]) hx hb d_Mo_nextTwo_8 rfl hl (by decide) rfl (fun ls hl => ?_)
  refine lv_iload_n hx hb d_Mo_nextTwo_9 rfl (lv_at hl 0 rfl) ?_
  refine lv_aload_n hx hb d_Mo_nextTwo_10 rfl (lv_at hl 1 rfl) ?_
  refine kc_i (wr := []) (w2 := fun (u9 : Nat × Nat × Nat × Nat) => [(mo, .inr (4, [.int th, .ref aS, .ref aA, .ref aB, .ref aT, .ref aU, .int (nI M.length), .ref aO, .int (nI O.length), .ref aI, .int (nI I.length), .ref bS, .ref bA, .ref bB, .ref bT, .ref bU, .int nm, .int (nI u9.2.1), .int (rFt (tTake I 255 (tTake I 255 q).2).2), .int (rPl (tTake I 255 (tTake I 255 q).2).2), .int (nI u9.2.2.1), .int (nI u9.2.2.2)])), (aI, .inl (cI, 8192, .inl fi))]) (va_runV (As := []) (rest := [.int ((nI k_1) * 256)]) ⟨hx, hb, hml, hown, hts⟩ (c_Mo_next l dC dI cI cB cZ _ mo th aS aA aB aT aU M aO O aI I bS bA bB bT bU nm (tTake I 255 q).2 pp1_1 a1_1 b1_1 fi (by first | with_reducible assumption | omega | decide) (by first | with_reducible assumption | omega | decide) (tTake_ok hok)) (cwV 0 hts (gV mw517 mw519 mw17 mw30 mw520) rfl rfl rfl (by decide +kernel) ⟨Nat.le_of_ble_eq_true rfl, Nat.le_of_ble_eq_true rfl⟩) (kpV (wc := [(mo, .inr (4, [.int th, .ref aS, .ref aA, .ref aB, .ref aT, .ref aU, .int (nI M.length), .ref aO, .int (nI O.length), .ref aI, .int (nI I.length), .ref bS, .ref bA, .ref bB, .ref bT, .ref bU, .int nm, .int (nI pp1_1), .int (rFt (tTake I 255 q).2), .int (rPl (tTake I 255 q).2), .int (nI a1_1), .int (nI b1_1)])), (aI, .inl (cI, 8192, .inl fi))]) (q0 := 0) (ci := 4) hK hP hD [0, 1] rfl (by decide) rfl rfl rfl) rfl rfl hl.1 rfl (lv_room (Nat.le_of_ble_eq_true rfl)) d_Mo_nextTwo_11 ⟨Nat.le_of_ble_eq_true rfl, Nat.le_of_ble_eq_true rfl⟩) hP hD hS hA [0, 1] [] [0, 1] rfl rfl (by decide) (by decide) (fun _ => rfl) (by decide) (fun _ => rfl) (fun r_11 u9 H locs hw hP hD hS => ?_)
  obtain ⟨k_11, pp1_11, a1_11, b1_11⟩ := u9
  try dsimp only at hw
  have hP : va_P (dC, dI) classes [(mo, .inr (4, [.int th, .ref aS, .ref aA, .ref aB, .ref aT, .ref aU, .int (nI M.length), .ref aO, .int (nI O.length), .ref aI, .int (nI I.length), .ref bS, .ref bA, .ref bB, .ref bT, .ref bU, .int nm, .int (nI pp1_11), .int (rFt (tTake I 255 (tTake I 255 q).2).2), .int (rPl (tTake I 255 (tTake I 255 q).2).2), .int (nI a1_11), .int (nI b1_11)])), (aI, .inl (cI, 8192, .inl fi))] H := hP
  have hD : va_D A [(mo, .inr (4, [.int th, .ref aS, .ref aA, .ref aB, .ref aT, .ref aU, .int (nI M.length), .ref aO, .int (nI O.length), .ref aI, .int (nI I.length), .ref bS, .ref bA, .ref bB, .ref bT, .ref bU, .int nm, .int (nI pp1_11), .int (rFt (tTake I 255 (tTake I 255 q).2).2), .int (rPl (tTake I 255 (tTake I 255 q).2).2), .int (nI a1_11), .int (nI b1_11)])), (aI, .inl (cI, 8192, .inl fi))] := hD
  obtain ⟨e_11, hRM_11, hNV_11⟩ := hw
  refine kt_i e_11 ?_
  have e9_11 : (tTake I 255 (tTake I 255 q).2).2 = (tPlace I q).2 := tPlace_2 _ _
  rw [e9_11] at hP hD hRM_11
  have hP : va_P (dC, dI) classes [(mo, .inr (4, [.int th, .ref aS, .ref aA, .ref aB, .ref aT, .ref aU, .int (nI M.length), .ref aO, .int (nI O.length), .ref aI, .int (nI I.length), .ref bS, .ref bA, .ref bB, .ref bT, .ref bU, .int nm, .int (nI pp1_11), .int (rFt (tPlace I q).2), .int (rPl (tPlace I q).2), .int (nI a1_11), .int (nI b1_11)])), (aI, .inl (cI, 8192, .inl fi))] H := hP
  have hD : va_D A [(mo, .inr (4, [.int th, .ref aS, .ref aA, .ref aB, .ref aT, .ref aU, .int (nI M.length), .ref aO, .int (nI O.length), .ref aI, .int (nI I.length), .ref bS, .ref bA, .ref bB, .ref bT, .ref bU, .int nm, .int (nI pp1_11), .int (rFt (tPlace I q).2), .int (rPl (tPlace I q).2), .int (nI a1_11), .int (nI b1_11)])), (aI, .inl (cI, 8192, .inl fi))] := hD
  refine lv_iadd hx hb d_Mo_nextTwo_14 ?_
  refine lv_istore_n (lv' := [(1, .int (((nI k_1) * 256) + (nI k_11))), (0, .ref mo)]) hx hb d_Mo_nextTwo_15 rfl hl (by decide) rfl (fun ls hl => ?_)
  refine lv_iload_n hx hb d_Mo_nextTwo_16 rfl (lv_at hl 0 rfl) ?_
  refine lv_sipush (v := 32767) hx hb d_Mo_nextTwo_17 (by decide) ?_
  refine lv_icmp_le (tgt := 30) hx hb d_Mo_nextTwo_20 (by decide) (fun c_20 => ?_) (fun c_20 => ?_)
  · refine lv_iload_n hx hb d_Mo_nextTwo_30 rfl (lv_at hl 0 rfl) ?_
    exact kr_i (v := ((nI k_1) * 256) + (nI k_11)) (nI k_1 * 256 + nI k_11, pp1_11, a1_11, b1_11) hx hb hr rfl hK (hP.sub [0, 1] (by dsimp only; first | done | rfl)) (hD.sub [0, 1] (by decide) (by dsimp only; first | done | rfl)) hS ⟨rfl, by dsimp only; exact hRM_11, fun z => by dsimp only at z ⊢; rw [← tPlace_2] at z; rw [tPlace_1, ← hNV_11.2 z, ← hNV_1.2 (tk_ft0 z)]; unfold kPlace; rw [if_pos c_20]⟩ d_Mo_nextTwo_31 hlocks
  · refine lv_iload_n hx hb d_Mo_nextTwo_23 rfl (lv_at hl 0 rfl) ?_
    refine lv_ldc (v := 65536) hx hb hown (hts _ mw529) d_Mo_nextTwo_24 ?_
    refine lv_isub hx hb d_Mo_nextTwo_26 ?_
    refine lv_goto (tgt := 31) hx hb d_Mo_nextTwo_27 (by decide) ?_
    exact kr_i (v := (((nI k_1) * 256) + (nI k_11)) - 65536) (nI k_1 * 256 + nI k_11 - 65536, pp1_11, a1_11, b1_11) hx hb hr rfl hK (hP.sub [0, 1] (by dsimp only; first | done | rfl)) (hD.sub [0, 1] (by decide) (by dsimp only; first | done | rfl)) hS ⟨rfl, by dsimp only; exact hRM_11, fun z => by dsimp only at z ⊢; rw [← tPlace_2] at z; rw [tPlace_1, ← hNV_11.2 z, ← hNV_1.2 (tk_ft0 z)]; unfold kPlace; rw [if_neg c_20]⟩ d_Mo_nextTwo_31 hlocks
