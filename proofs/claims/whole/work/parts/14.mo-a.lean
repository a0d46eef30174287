abbrev Qc_Mo_isIn (dC : Nat → ClassId) (dI : Nat → Nat → Nat) (cI cB cZ : ClassId) (v : Int32) (ms : Int32) (A : Nat → Prop) := va_Qi (fun (r9 : Int32) (_ : Unit) => (r9 = kIn v (-ms) ms)) (ka (dC, dI) classes [(cI, .int), (cB, .byte), (cZ, .boolean)] (fun (_ : Unit) => []) A) A
set_option maxHeartbeats 1000000 in
set_option maxRecDepth 100000 in
/-- Model.isIn -/
theorem c_Mo_isIn (l : Launch) (dC : Nat → ClassId) (dI : Nat → Nat → Nat) (cI cB cZ : ClassId) (sz : Nat) (v : Int32) (ms : Int32)  : Met l y_Mo_isIn w_Mo_isIn ({ frames := 0, cells := 0, slots := 0, locals := 0 }) (va_Pc [.int v, .int ms] (kp (dC, dI) classes [(cI, .int), (cB, .byte), (cZ, .boolean)] [] sz)) (Qc_Mo_isIn dC dI cI cB cZ v ms (va_A [] sz)) 0 0 (va_A [] sz) := by
  refine Met.ofW (cc := prog_7_method_3_code) (maxL := 2) (ret := (some .boolean)) (by decide) rfl ?_
  intro p e s m args below meth c s₁ B hml hv
  obtain ⟨rfl, hsz, hP, hK, hD0⟩ := hv
  have hx := B.exec
  have hb := B.bytes
  have hr := B.returns
  have hts := fun w h => atoms_spec (ws := w_Mo_isIn) B.pre w (List.mem_cons_of_mem _ h)
  have hown : s.vm.findClass "DemoTapeModel" = some m.cls := findClass_of_methodNamed B.named
  have hlocks := B.notSynchronized
  subst hsz
  have hD := hD0.self (sz := s.heap.size)
  generalize hAe : va_A ([] : va_W) s.heap.size = A at hD ⊢
  have hA : ∀ q : Nat, s.heap.size ≤ q → A q := fun q h => by rw [← hAe]; exact Or.inr h
  have hS : va_S A s.heap s.heap [] := va_S.rf
  have hP : va_P (dC, dI) classes [] s.heap := hP
  have hl := lv_entry ([.int v, .int ms]) (n := 2) (Nat.le_of_ble_eq_true rfl)
  rw [lg_entry_eq]
  generalize (lg_sl ([.int v, .int ms]) ++ List.replicate (2 - (lg_sl ([.int v, .int ms])).length) Slot.unset).toArray = ls at hl ⊢
  have hl : lv_has ls 2 [(0, .int v), (1, .int ms)] := hl
  refine lv_iload_n hx hb d_Mo_isIn_0 rfl (lv_at hl 0 rfl) ?_
  refine lv_iload_n hx hb d_Mo_isIn_1 rfl (lv_at hl 1 rfl) ?_
  refine lv_ineg hx hb d_Mo_isIn_2 ?_
  refine lv_icmp_lt (tgt := 15) hx hb d_Mo_isIn_3 (by decide) (fun c_3 => ?_) (fun c_3 => ?_)
  · refine lv_iconst (v := 0) hx hb d_Mo_isIn_15 (by decide) ?_
    exact kr_i (v := 0) () hx hb hr (by decide) hK (hP.sub [] (rfl)) (hD.sub [] (by decide) (rfl)) hS ((kIn_lo c_3).symm) d_Mo_isIn_16 hlocks
  · refine lv_iload_n hx hb d_Mo_isIn_6 rfl (lv_at hl 0 rfl) ?_
    refine lv_iload_n hx hb d_Mo_isIn_7 rfl (lv_at hl 1 rfl) ?_
    refine lv_icmp_gt (tgt := 15) hx hb d_Mo_isIn_8 (by decide) (fun c_8 => ?_) (fun c_8 => ?_)
    · refine lv_iconst (v := 0) hx hb d_Mo_isIn_15 (by decide) ?_
      exact kr_i (v := 0) () hx hb hr (by decide) hK (hP.sub [] (rfl)) (hD.sub [] (by decide) (rfl)) hS ((kIn_hi c_8).symm) d_Mo_isIn_16 hlocks
    · refine lv_iconst (v := 1) hx hb d_Mo_isIn_11 (by decide) ?_
      refine lv_goto (tgt := 16) hx hb d_Mo_isIn_12 (by decide) ?_
      exact kr_i (v := 1) () hx hb hr (by decide) hK (hP.sub [] (rfl)) (hD.sub [] (by decide) (rfl)) hS (by unfold kIn; rw [if_pos ⟨Int32.not_lt.mp c_3, Int32.not_lt.mp c_8⟩]) d_Mo_isIn_16 hlocks
abbrev Qc_Mo_start (dC : Nat → ClassId) (dI : Nat → Nat → Nat) (cI cB cZ : ClassId) (mo : Nat) (th : Int32) (aS : Nat) (aA : Nat) (aB : Nat) (aT : Nat) (aU : Nat) (M : List Int32) (aO : Nat) (O : List Nat) (aI : Nat) (I : List Nat) (bS : Nat) (bA : Nat) (bB : Nat) (bT : Nat) (bU : Nat) (nm : Int32) (pp : Int32) (ft : Int32) (pl : Int32) (va : Int32) (vb : Int32) (fS : Nat → Int32) (v4 : Int32 × Int32 × Int32 × Int32) (px : Int32) (py : Int32) (pg : Int32) (pt : Int32) (A : Nat → Prop) := va_Qi (fun (r9 : Int32) (u9 : (Nat → Int32)) => (r9 = if kStOk px py pg pt then 1 else 0) ∧ (HoldQ u9 (if kStOk px py pg pt then (px, py, pg, pt) else v4))) (ka (dC, dI) classes [(cI, .int), (cB, .byte), (cZ, .boolean)] (fun (u9 : (Nat → Int32)) => [(mo, .inr (4, [.int 0, .ref aS, .ref aA, .ref aB, .ref aT, .ref aU, .int (nI M.length), .ref aO, .int (nI O.length), .ref aI, .int (nI I.length), .ref bS, .ref bA, .ref bB, .ref bT, .ref bU, .int nm, .int pp, .int ft, .int pl, .int va, .int vb])), (aS, .inl (cI, 4, .inl u9))]) A) A
set_option maxHeartbeats 1000000 in
set_option maxRecDepth 100000 in
/-- Model.start -/
theorem c_Mo_start (l : Launch) (dC : Nat → ClassId) (dI : Nat → Nat → Nat) (cI cB cZ : ClassId) (sz : Nat) (mo : Nat) (th : Int32) (aS : Nat) (aA : Nat) (aB : Nat) (aT : Nat) (aU : Nat) (M : List Int32) (aO : Nat) (O : List Nat) (aI : Nat) (I : List Nat) (bS : Nat) (bA : Nat) (bB : Nat) (bT : Nat) (bU : Nat) (nm : Int32) (pp : Int32) (ft : Int32) (pl : Int32) (va : Int32) (vb : Int32) (fS : Nat → Int32) (v4 : Int32 × Int32 × Int32 × Int32) (px : Int32) (py : Int32) (pg : Int32) (pt : Int32) (hQ : HoldQ fS v4) : Met l y_Mo_start w_Mo_start ({ frames := 0, cells := 0, slots := 0, locals := 0 }) (va_Pc [.ref mo, .int px, .int py, .int pg, .int pt] (kp (dC, dI) classes [(cI, .int), (cB, .byte), (cZ, .boolean)] [(mo, .inr (4, [.int th, .ref aS, .ref aA, .ref aB, .ref aT, .ref aU, .int (nI M.length), .ref aO, .int (nI O.length), .ref aI, .int (nI I.length), .ref bS, .ref bA, .ref bB, .ref bT, .ref bU, .int nm, .int pp, .int ft, .int pl, .int va, .int vb])), (aS, .inl (cI, 4, .inl fS))] sz)) (Qc_Mo_start dC dI cI cB cZ mo th aS aA aB aT aU M aO O aI I bS bA bB bT bU nm pp ft pl va vb fS v4 px py pg pt (va_A [(mo, .inr (4, [.int th, .ref aS, .ref aA, .ref aB, .ref aT, .ref aU, .int (nI M.length), .ref aO, .int (nI O.length), .ref aI, .int (nI I.length), .ref bS, .ref bA, .ref bB, .ref bT, .ref bU, .int nm, .int pp, .int ft, .int pl, .int va, .int vb])), (aS, .inl (cI, 4, .inl fS))] sz)) 0 0 (va_A [(mo, .inr (4, [.int th, .ref aS, .ref aA, .ref aB, .ref aT, .ref aU, .int (nI M.length), .ref aO, .int (nI O.length), .ref aI, .int (nI I.length), .ref bS, .ref bA, .ref bB, .ref bT, .ref bU, .int nm, .int pp, .int ft, .int pl, .int va, .int vb])), (aS, .inl (cI, 4, .inl fS))] sz) := by
  refine Met.ofW (cc := prog_7_method_4_code) (maxL := 5) (ret := (some .boolean)) (by decide) rfl ?_
  intro p e s m args below meth c s₁ B hml hv
  obtain ⟨rfl, hsz, hP, hK, hD0⟩ := hv
  have hx := B.exec
  have hb := B.bytes
  have hr := B.returns
  have hts := fun w h => atoms_spec (ws := w_Mo_start) B.pre w (List.mem_cons_of_mem _ h)
  have hown : s.vm.findClass "DemoTapeModel" = some m.cls := findClass_of_methodNamed B.named
  have hlocks := B.notSynchronized
  subst hsz
  have hD := hD0.self (sz := s.heap.size)
  generalize hAe : va_A ([(mo, .inr (4, [.int th, .ref aS, .ref aA, .ref aB, .ref aT, .ref aU, .int (nI M.length), .ref aO, .int (nI O.length), .ref aI, .int (nI I.length), .ref bS, .ref bA, .ref bB, .ref bT, .ref bU, .int nm, .int pp, .int ft, .int pl, .int va, .int vb])), (aS, .inl (cI, 4, .inl fS))] : va_W) s.heap.size = A at hD ⊢
  have hA : ∀ q : Nat, s.heap.size ≤ q → A q := fun q h => by rw [← hAe]; exact Or.inr h
  have hS : va_S A s.heap s.heap [] := va_S.rf
  have hP : va_P (dC, dI) classes [(mo, .inr (4, [.int th, .ref aS, .ref aA, .ref aB, .ref aT, .ref aU, .int (nI M.length), .ref aO, .int (nI O.length), .ref aI, .int (nI I.length), .ref bS, .ref bA, .ref bB, .ref bT, .ref bU, .int nm, .int pp, .int ft, .int pl, .int va, .int vb])), (aS, .inl (cI, 4, .inl fS))] s.heap := hP
  have hl := lv_entry ([.ref mo, .int px, .int py, .int pg, .int pt]) (n := 5) (Nat.le_of_ble_eq_true rfl)
  rw [lg_entry_eq]
  generalize (lg_sl ([.ref mo, .int px, .int py, .int pg, .int pt]) ++ List.replicate (5 - (lg_sl ([.ref mo, .int px, .int py, .int pg, .int pt])).length) Slot.unset).toArray = ls at hl ⊢
  have hl : lv_has ls 5 [(0, .ref mo), (1, .int px), (2, .int py), (3, .int pg), (4, .int pt)] := hl
  refine lv_aload_n hx hb d_Mo_start_0 rfl (lv_at hl 0 rfl) ?_
  refine lv_iconst (v := 0) hx hb d_Mo_start_1 (by decide) ?_
  refine va_put (D := (dC, dI)) (ci := 4) (v := .int 0) (ty := .int) (C := "DemoTapeModel") (T := F_Mo) (N := 22) hx hb hts i_Mo t_Mo t_Mo_ok n_Mo hown hK hP hD hS 0 rfl rfl 0 (by decide) (hts _ mw384) (fun _ h9 => h9) rfl (by decide +kernel) rfl rfl (Nat.le_of_ble_eq_true rfl) d_Mo_start_2 (fun H locs hP hD hS => ?_)
  have hP : va_P (dC, dI) classes [(mo, .inr (4, [.int 0, .ref aS, .ref aA, .ref aB, .ref aT, .ref aU, .int (nI M.length), .ref aO, .int (nI O.length), .ref aI, .int (nI I.length), .ref bS, .ref bA, .ref bB, .ref bT, .ref bU, .int nm, .int pp, .int ft, .int pl, .int va, .int vb])), (aS, .inl (cI, 4, .inl fS))] H := hP
  have hD : va_D A [(mo, .inr (4, [.int 0, .ref aS, .ref aA, .ref aB, .ref aT, .ref aU, .int (nI M.length), .ref aO, .int (nI O.length), .ref aI, .int (nI I.length), .ref bS, .ref bA, .ref bB, .ref bT, .ref bU, .int nm, .int pp, .int ft, .int pl, .int va, .int vb])), (aS, .inl (cI, 4, .inl fS))] := hD
  refine lv_iload_n hx hb d_Mo_start_5 rfl (lv_at hl 1 rfl) ?_
  refine lv_sipush (v := -32768) hx hb d_Mo_start_6 (by decide) ?_
  refine lv_icmp_lt (tgt := 56) hx hb d_Mo_start_9 (by decide) (fun c_9 => ?_) (fun c_9 => ?_)
  · refine lv_iconst (v := 0) hx hb d_Mo_start_56 (by decide) ?_
    exact kr_i (v := 0) fS hx hb hr (by decide) hK (hP.sub [0, 1] (rfl)) (hD.sub [0, 1] (by decide) (rfl)) hS ⟨(if_neg (fun z => z.1 (kIn_lo c_9))).symm, by rw [if_neg (fun z => z.1 (kIn_lo c_9))]; exact hQ⟩ d_Mo_start_57 hlocks
  · refine lv_iload_n hx hb d_Mo_start_12 rfl (lv_at hl 1 rfl) ?_
    refine lv_sipush (v := 32767) hx hb d_Mo_start_13 (by decide) ?_
    refine lv_icmp_gt (tgt := 56) hx hb d_Mo_start_16 (by decide) (fun c_16 => ?_) (fun c_16 => ?_)
    · refine lv_iconst (v := 0) hx hb d_Mo_start_56 (by decide) ?_
      exact kr_i (v := 0) fS hx hb hr (by decide) hK (hP.sub [0, 1] (rfl)) (hD.sub [0, 1] (by decide) (rfl)) hS ⟨(if_neg (fun z => z.1 (kIn_hi c_16))).symm, by rw [if_neg (fun z => z.1 (kIn_hi c_16))]; exact hQ⟩ d_Mo_start_57 hlocks
    · refine lv_iload_n hx hb d_Mo_start_19 rfl (lv_at hl 2 rfl) ?_
      refine lv_sipush (v := -32768) hx hb d_Mo_start_20 (by decide) ?_
      refine lv_icmp_lt (tgt := 56) hx hb d_Mo_start_23 (by decide) (fun c_23 => ?_) (fun c_23 => ?_)
      · refine lv_iconst (v := 0) hx hb d_Mo_start_56 (by decide) ?_
        exact kr_i (v := 0) fS hx hb hr (by decide) hK (hP.sub [0, 1] (rfl)) (hD.sub [0, 1] (by decide) (rfl)) hS ⟨(if_neg (fun z => z.2.1 (kIn_lo c_23))).symm, by rw [if_neg (fun z => z.2.1 (kIn_lo c_23))]; exact hQ⟩ d_Mo_start_57 hlocks
      · refine lv_iload_n hx hb d_Mo_start_26 rfl (lv_at hl 2 rfl) ?_
        refine lv_sipush (v := 32767) hx hb d_Mo_start_27 (by decide) ?_
        refine lv_icmp_gt (tgt := 56) hx hb d_Mo_start_30 (by decide) (fun c_30 => ?_) (fun c_30 => ?_)
        · refine lv_iconst (v := 0) hx hb d_Mo_start_56 (by decide) ?_
          exact kr_i (v := 0) fS hx hb hr (by decide) hK (hP.sub [0, 1] (rfl)) (hD.sub [0, 1] (by decide) (rfl)) hS ⟨(if_neg (fun z => z.2.1 (kIn_hi c_30))).symm, by rw [if_neg (fun z => z.2.1 (kIn_hi c_30))]; exact hQ⟩ d_Mo_start_57 hlocks
        · refine lv_iload_n hx hb d_Mo_start_33 rfl (lv_at hl 3 rfl) ?_
          refine lv_if_lt (tgt := 56) hx hb d_Mo_start_34 (by decide) (fun c_34 => ?_) (fun c_34 => ?_)
          · refine lv_iconst (v := 0) hx hb d_Mo_start_56 (by decide) ?_
            exact kr_i (v := 0) fS hx hb hr (by decide) hK (hP.sub [0, 1] (rfl)) (hD.sub [0, 1] (by decide) (rfl)) hS ⟨(if_neg (fun z => z.2.2.1 (kIn_lo c_34))).symm, by rw [if_neg (fun z => z.2.2.1 (kIn_lo c_34))]; exact hQ⟩ d_Mo_start_57 hlocks
          · refine lv_iload_n hx hb d_Mo_start_37 rfl (lv_at hl 3 rfl) ?_
            refine lv_bipush (v := 63) hx hb d_Mo_start_38 (by decide) ?_
            refine lv_icmp_gt (tgt := 56) hx hb d_Mo_start_40 (by decide) (fun c_40 => ?_) (fun c_40 => ?_)
            · refine lv_iconst (v := 0) hx hb d_Mo_start_56 (by decide) ?_
              exact kr_i (v := 0) fS hx hb hr (by decide) hK (hP.sub [0, 1] (rfl)) (hD.sub [0, 1] (by decide) (rfl)) hS ⟨(if_neg (fun z => z.2.2.1 (kIn_hi c_40))).symm, by rw [if_neg (fun z => z.2.2.1 (kIn_hi c_40))]; exact hQ⟩ d_Mo_start_57 hlocks
            · refine lv_iload hx hb d_Mo_start_43 (lv_at hl 4 rfl) ?_
              refine lv_if_lt (tgt := 56) hx hb d_Mo_start_45 (by decide) (fun c_45 => ?_) (fun c_45 => ?_)
              · refine lv_iconst (v := 0) hx hb d_Mo_start_56 (by decide) ?_
                exact kr_i (v := 0) fS hx hb hr (by decide) hK (hP.sub [0, 1] (rfl)) (hD.sub [0, 1] (by decide) (rfl)) hS ⟨(if_neg (fun z => z.2.2.2 (kIn_lo c_45))).symm, by rw [if_neg (fun z => z.2.2.2 (kIn_lo c_45))]; exact hQ⟩ d_Mo_start_57 hlocks
              · refine lv_iload hx hb d_Mo_start_48 (lv_at hl 4 rfl) ?_
                refine lv_sipush (v := 255) hx hb d_Mo_start_50 (by decide) ?_
                refine lv_icmp_le (tgt := 58) hx hb d_Mo_start_53 (by decide) (fun c_53 => ?_) (fun c_53 => ?_)
                · refine lv_aload_n hx hb d_Mo_start_58 rfl (lv_at hl 0 rfl) ?_
                  refine va_get (D := (dC, dI)) (ci := 4) (v := .ref aS) (C := "DemoTapeModel") (T := F_Mo) (N := 22) hx hb hts i_Mo hown hK hP 0 rfl rfl 1 (by decide) (hts _ mw385) (fun _ h9 => h9) rfl d_Mo_start_59 ?_
                  refine lv_iconst (v := 0) hx hb d_Mo_start_62 (by decide) ?_
                  refine lv_iload_n hx hb d_Mo_start_63 rfl (lv_at hl 1 rfl) ?_
                  refine kt_iast (j := 0) hx hb hK hP hD hS 1 0 rfl rfl (by omega) (by decide) d_Mo_start_64 (fun H locs hP hD hS => ?_)
                  have hP : va_P (dC, dI) classes [(mo, .inr (4, [.int 0, .ref aS, .ref aA, .ref aB, .ref aT, .ref aU, .int (nI M.length), .ref aO, .int (nI O.length), .ref aI, .int (nI I.length), .ref bS, .ref bA, .ref bB, .ref bT, .ref bU, .int nm, .int pp, .int ft, .int pl, .int va, .int vb])), (aS, .inl (cI, 4, .inl (upd fS 0 px)))] H := hP
                  have hD : va_D A [(mo, .inr (4, [.int 0, .ref aS, .ref aA, .ref aB, .ref aT, .ref aU, .int (nI M.length), .ref aO, .int (nI O.length), .ref aI, .int (nI I.length), .ref bS, .ref bA, .ref bB, .ref bT, .ref bU, .int nm, .int pp, .int ft, .int pl, .int va, .int vb])), (aS, .inl (cI, 4, .inl (upd fS 0 px)))] := hD
                  refine lv_aload_n hx hb d_Mo_start_65 rfl (lv_at hl 0 rfl) ?_
                  refine va_get (D := (dC, dI)) (ci := 4) (v := .ref aS) (C := "DemoTapeModel") (T := F_Mo) (N := 22) hx hb hts i_Mo hown hK hP 0 rfl rfl 1 (by decide) (hts _ mw385) (fun _ h9 => h9) rfl d_Mo_start_66 ?_
                  refine lv_iconst (v := 1) hx hb d_Mo_start_69 (by decide) ?_
                  refine lv_iload_n hx hb d_Mo_start_70 rfl (lv_at hl 2 rfl) ?_
                  refine kt_iast (j := 1) hx hb hK hP hD hS 1 0 rfl rfl (by omega) (by decide) d_Mo_start_71 (fun H locs hP hD hS => ?_)
                  have hP : va_P (dC, dI) classes [(mo, .inr (4, [.int 0, .ref aS, .ref aA, .ref aB, .ref aT, .ref aU, .int (nI M.length), .ref aO, .int (nI O.length), .ref aI, .int (nI I.length), .ref bS, .ref bA, .ref bB, .ref bT, .ref bU, .int nm, .int pp, .int ft, .int pl, .int va, .int vb])), (aS, .inl (cI, 4, .inl (upd (upd fS 0 px) 1 py)))] H := hP
                  have hD : va_D A [(mo, .inr (4, [.int 0, .ref aS, .ref aA, .ref aB, .ref aT, .ref aU, .int (nI M.length), .ref aO, .int (nI O.length), .ref aI, .int (nI I.length), .ref bS, .ref bA, .ref bB, .ref bT, .ref bU, .int nm, .int pp, .int ft, .int pl, .int va, .int vb])), (aS, .inl (cI, 4, .inl (upd (upd fS 0 px) 1 py)))] := hD
                  refine lv_aload_n hx hb d_Mo_start_72 rfl (lv_at hl 0 rfl) ?_
                  refine va_get (D := (dC, dI)) (ci := 4) (v := .ref aS) (C := "DemoTapeModel") (T := F_Mo) (N := 22) hx hb hts i_Mo hown hK hP 0 rfl rfl 1 (by decide) (hts _ mw385) (fun _ h9 => h9) rfl d_Mo_start_73 ?_
                  refine lv_iconst (v := 2) hx hb d_Mo_start_76 (by decide) ?_
                  refine lv_iload_n hx hb d_Mo_start_77 rfl (lv_at hl 3 rfl) ?_
                  refine kt_iast (j := 2) hx hb hK hP hD hS 1 0 rfl rfl (by omega) (by decide) d_Mo_start_78 (fun H locs hP hD hS => ?_)
                  have hP : va_P (dC, dI) classes [(mo, .inr (4, [.int 0, .ref aS, .ref aA, .ref aB, .ref aT, .ref aU, .int (nI M.length), .ref aO, .int (nI O.length), .ref aI, .int (nI I.length), .ref bS, .ref bA, .ref bB, .ref bT, .ref bU, .int nm, .int pp, .int ft, .int pl, .int va, .int vb])), (aS, .inl (cI, 4, .inl (upd (upd (upd fS 0 px) 1 py) 2 pg)))] H := hP
                  have hD : va_D A [(mo, .inr (4, [.int 0, .ref aS, .ref aA, .ref aB, .ref aT, .ref aU, .int (nI M.length), .ref aO, .int (nI O.length), .ref aI, .int (nI I.length), .ref bS, .ref bA, .ref bB, .ref bT, .ref bU, .int nm, .int pp, .int ft, .int pl, .int va, .int vb])), (aS, .inl (cI, 4, .inl (upd (upd (upd fS 0 px) 1 py) 2 pg)))] := hD
                  refine lv_aload_n hx hb d_Mo_start_79 rfl (lv_at hl 0 rfl) ?_
                  refine va_get (D := (dC, dI)) (ci := 4) (v := .ref aS) (C := "DemoTapeModel") (T := F_Mo) (N := 22) hx hb hts i_Mo hown hK hP 0 rfl rfl 1 (by decide) (hts _ mw385) (fun _ h9 => h9) rfl d_Mo_start_80 ?_
                  refine lv_iconst (v := 3) hx hb d_Mo_start_83 (by decide) ?_
                  refine lv_iload hx hb d_Mo_start_84 (lv_at hl 4 rfl) ?_
                  refine kt_iast (j := 3) hx hb hK hP hD hS 1 0 rfl rfl (by omega) (by decide) d_Mo_start_86 (fun H locs hP hD hS => ?_)
                  have hP : va_P (dC, dI) classes [(mo, .inr (4, [.int 0, .ref aS, .ref aA, .ref aB, .ref aT, .ref aU, .int (nI M.length), .ref aO, .int (nI O.length), .ref aI, .int (nI I.length), .ref bS, .ref bA, .ref bB, .ref bT, .ref bU, .int nm, .int pp, .int ft, .int pl, .int va, .int vb])), (aS, .inl (cI, 4, .inl (upd (upd (upd (upd fS 0 px) 1 py) 2 pg) 3 pt)))] H := hP
                  have hD : va_D A [(mo, .inr (4, [.int 0, .ref aS, .ref aA, .ref aB, .ref aT, .ref aU, .int (nI M.length), .ref aO, .int (nI O.length), .ref aI, .int (nI I.length), .ref bS, .ref bA, .ref bB, .ref bT, .ref bU, .int nm, .int pp, .int ft, .int pl, .int va, .int vb])), (aS, .inl (cI, 4, .inl (upd (upd (upd (upd fS 0 px) 1 py) 2 pg) 3 pt)))] := hD
                  refine lv_iconst (v := 1) hx hb d_Mo_start_87 (by decide) ?_
                  exact kr_i (v := 1) (upd (upd (upd (upd fS 0 px) 1 py) 2 pg) 3 pt) hx hb hr (by decide) hK (hP.sub [0, 1] (rfl)) (hD.sub [0, 1] (by decide) (rfl)) hS ⟨(if_pos ⟨kIn_y c_9 c_16, kIn_y c_23 c_30, kIn_y c_34 c_40, kIn_y c_45 (Int32.not_lt.mpr c_53)⟩).symm, by rw [if_pos ⟨kIn_y c_9 c_16, kIn_y c_23 c_30, kIn_y c_34 c_40, kIn_y c_45 (Int32.not_lt.mpr c_53)⟩]; exact ⟨rfl, rfl, rfl, rfl⟩⟩ d_Mo_start_88 hlocks
                · refine lv_iconst (v := 0) hx hb d_Mo_start_56 (by decide) ?_
                  exact kr_i (v := 0) fS hx hb hr (by decide) hK (hP.sub [0, 1] (rfl)) (hD.sub [0, 1] (by decide) (rfl)) hS ⟨(if_neg (fun z => z.2.2.2 (kIn_hi (Int32.not_le.mp c_53)))).symm, by rw [if_neg (fun z => z.2.2.2 (kIn_hi (Int32.not_le.mp c_53)))]; exact hQ⟩ d_Mo_start_57 hlocks
abbrev Qc_Mo_record (dC : Nat → ClassId) (dI : Nat → Nat → Nat) (cI cB cZ : ClassId) (mo : Nat) (th : Int32) (aS : Nat) (aA : Nat) (aB : Nat) (aT : Nat) (aU : Nat) (M : List Int32) (aO : Nat) (O : List Nat) (aI : Nat) (I : List Nat) (bS : Nat) (bA : Nat) (bB : Nat) (bT : Nat) (bU : Nat) (nm : Int32) (pp : Int32) (ft : Int32) (pl : Int32) (va : Int32) (vb : Int32) (fa : Nat → Int32) (fs : Nat → Int32) (fr : Nat → Int32) (fu : Nat → Int32) (pa : Int32) (ps : Int32) (pt : Int32) (pu : Int32) (pn : Int32) (A : Nat → Prop) := va_Qi (fun (r9 : Int32) (u9 : (Nat → Int32) × (Nat → Int32) × (Nat → Int32) × (Nat → Int32) × List Int32) => (r9 = if kRcOk M pa ps pt pn then nI u9.2.2.2.2.length else -1) ∧ (u9.2.2.2.2 = if kRcOk M pa ps pt pn then M ++ List.replicate pn.toNatClampNeg (kCode pu (pa + 64) (ps + 64) (pt + 16)) else M) ∧ (MRow u9.1 u9.2.1 u9.2.2.1 u9.2.2.2.1 u9.2.2.2.2)) (ka (dC, dI) classes [(cI, .int), (cB, .byte), (cZ, .boolean)] (fun (u9 : (Nat → Int32) × (Nat → Int32) × (Nat → Int32) × (Nat → Int32) × List Int32) => [(mo, .inr (4, [.int 0, .ref aS, .ref aA, .ref aB, .ref aT, .ref aU, .int (nI u9.2.2.2.2.length), .ref aO, .int (nI O.length), .ref aI, .int (nI I.length), .ref bS, .ref bA, .ref bB, .ref bT, .ref bU, .int nm, .int pp, .int ft, .int pl, .int va, .int vb])), (aA, .inl (cI, 1024, .inl u9.1)), (aB, .inl (cI, 1024, .inl u9.2.1)), (aT, .inl (cI, 1024, .inl u9.2.2.1)), (aU, .inl (cZ, 1024, .inl u9.2.2.2.1))]) A) A
set_option maxHeartbeats 1000000 in
set_option maxRecDepth 100000 in
/-- Model.record -/
theorem c_Mo_record (l : Launch) (dC : Nat → ClassId) (dI : Nat → Nat → Nat) (cI cB cZ : ClassId) (sz : Nat) (mo : Nat) (th : Int32) (aS : Nat) (aA : Nat) (aB : Nat) (aT : Nat) (aU : Nat) (M : List Int32) (aO : Nat) (O : List Nat) (aI : Nat) (I : List Nat) (bS : Nat) (bA : Nat) (bB : Nat) (bT : Nat) (bU : Nat) (nm : Int32) (pp : Int32) (ft : Int32) (pl : Int32) (va : Int32) (vb : Int32) (fa : Nat → Int32) (fs : Nat → Int32) (fr : Nat → Int32) (fu : Nat → Int32) (pa : Int32) (ps : Int32) (pt : Int32) (pu : Int32) (pn : Int32) (hR : MRow fa fs fr fu M) (hpu : pu = 0 ∨ pu = 1) : Met l y_Mo_record w_Mo_record ({ frames := 1, cells := 0, slots := 0, locals := 21 }) (va_Pc [.ref mo, .int pa, .int ps, .int pt, .int pu, .int pn] (kp (dC, dI) classes [(cI, .int), (cB, .byte), (cZ, .boolean)] [(mo, .inr (4, [.int th, .ref aS, .ref aA, .ref aB, .ref aT, .ref aU, .int (nI M.length), .ref aO, .int (nI O.length), .ref aI, .int (nI I.length), .ref bS, .ref bA, .ref bB, .ref bT, .ref bU, .int nm, .int pp, .int ft, .int pl, .int va, .int vb])), (aA, .inl (cI, 1024, .inl fa)), (aB, .inl (cI, 1024, .inl fs)), (aT, .inl (cI, 1024, .inl fr)), (aU, .inl (cZ, 1024, .inl fu))] sz)) (Qc_Mo_record dC dI cI cB cZ mo th aS aA aB aT aU M aO O aI I bS bA bB bT bU nm pp ft pl va vb fa fs fr fu pa ps pt pu pn (va_A [(mo, .inr (4, [.int th, .ref aS, .ref aA, .ref aB, .ref aT, .ref aU, .int (nI M.length), .ref aO, .int (nI O.length), .ref aI, .int (nI I.length), .ref bS, .ref bA, .ref bB, .ref bT, .ref bU, .int nm, .int pp, .int ft, .int pl, .int va, .int vb])), (aA, .inl (cI, 1024, .inl fa)), (aB, .inl (cI, 1024, .inl fs)), (aT, .inl (cI, 1024, .inl fr)), (aU, .inl (cZ, 1024, .inl fu))] sz)) 0 0 (va_A [(mo, .inr (4, [.int th, .ref aS, .ref aA, .ref aB, .ref aT, .ref aU, .int (nI M.length), .ref aO, .int (nI O.length), .ref aI, .int (nI I.length), .ref bS, .ref bA, .ref bB, .ref bT, .ref bU, .int nm, .int pp, .int ft, .int pl, .int va, .int vb])), (aA, .inl (cI, 1024, .inl fa)), (aB, .inl (cI, 1024, .inl fs)), (aT, .inl (cI, 1024, .inl fr)), (aU, .inl (cZ, 1024, .inl fu))] sz) := by
  refine Met.ofW (cc := prog_7_method_5_code) (maxL := 7) (ret := (some .int)) (by decide) rfl ?_
  intro p e s m args below meth c s₁ B hml hv
  obtain ⟨rfl, hsz, hP, hK, hD0⟩ := hv
  have hx := B.exec
  have hb := B.bytes
  have hr := B.returns
  have hts := fun w h => atoms_spec (ws := w_Mo_record) B.pre w (List.mem_cons_of_mem _ h)
  have hown : s.vm.findClass "DemoTapeModel" = some m.cls := findClass_of_methodNamed B.named
  have hlocks := B.notSynchronized
  subst hsz
  have hD := hD0.self (sz := s.heap.size)
  generalize hAe : va_A ([(mo, .inr (4, [.int th, .ref aS, .ref aA, .ref aB, .ref aT, .ref aU, .int (nI M.length), .ref aO, .int (nI O.length), .ref aI, .int (nI I.length), .ref bS, .ref bA, .ref bB, .ref bT, .ref bU, .int nm, .int pp, .int ft, .int pl, .int va, .int vb])), (aA, .inl (cI, 1024, .inl fa)), (aB, .inl (cI, 1024, .inl fs)), (aT, .inl (cI, 1024, .inl fr)), (aU, .inl (cZ, 1024, .inl fu))] : va_W) s.heap.size = A at hD ⊢
  have hA : ∀ q : Nat, s.heap.size ≤ q → A q := fun q h => by rw [← hAe]; exact Or.inr h
  have hS : va_S A s.heap s.heap [] := va_S.rf
  have hP : va_P (dC, dI) classes [(mo, .inr (4, [.int th, .ref aS, .ref aA, .ref aB, .ref aT, .ref aU, .int (nI M.length), .ref aO, .int (nI O.length), .ref aI, .int (nI I.length), .ref bS, .ref bA, .ref bB, .ref bT, .ref bU, .int nm, .int pp, .int ft, .int pl, .int va, .int vb])), (aA, .inl (cI, 1024, .inl fa)), (aB, .inl (cI, 1024, .inl fs)), (aT, .inl (cI, 1024, .inl fr)), (aU, .inl (cZ, 1024, .inl fu))] s.heap := hP
  have hM := hR.2.2
  have hl := lv_entry ([.ref mo, .int pa, .int ps, .int pt, .int pu, .int pn]) (n := 7) (Nat.le_of_ble_eq_true rfl)
  rw [lg_entry_eq]
  generalize (lg_sl ([.ref mo, .int pa, .int ps, .int pt, .int pu, .int pn]) ++ List.replicate (7 - (lg_sl ([.ref mo, .int pa, .int ps, .int pt, .int pu, .int pn])).length) Slot.unset).toArray = ls at hl ⊢
  have hl : lv_has ls 7 [(0, .ref mo), (1, .int pa), (2, .int ps), (3, .int pt), (4, .int pu), (5, .int pn)] := hl
  have J_64 : ∀ (fuel : Nat) (k : Nat) (j : Nat) (ha : Nat → Int32) (hs : Nat → Int32) (hr_ : Nat → Int32) (hu_ : Nat → Int32), (k - j < fuel) → (pn = nI k) → (1 ≤ k) → (M.length + k ≤ 1024) → (¬ kIn pa (-64) 64 = 0) → (¬ kIn ps (-64) 64 = 0) → (¬ kIn pt (-16) 16 = 0) → (j ≤ k) → (MRow ha hs hr_ hu_ (M ++ List.replicate j (kCode pu (pa + 64) (ps + 64) (pt + 16)))) → ∀ (H : Heap) (locs : List Loc), va_P (dC, dI) classes [(mo, .inr (4, [.int 0, .ref aS, .ref aA, .ref aB, .ref aT, .ref aU, .int (nI (M ++ List.replicate j (kCode pu (pa + 64) (ps + 64) (pt + 16))).length), .ref aO, .int (nI O.length), .ref aI, .int (nI I.length), .ref bS, .ref bA, .ref bB, .ref bT, .ref bU, .int nm, .int pp, .int ft, .int pl, .int va, .int vb])), (aA, .inl (cI, 1024, .inl ha)), (aB, .inl (cI, 1024, .inl hs)), (aT, .inl (cI, 1024, .inl hr_)), (aU, .inl (cZ, 1024, .inl hu_))] H → va_D A [(mo, .inr (4, [.int 0, .ref aS, .ref aA, .ref aB, .ref aT, .ref aU, .int (nI (M ++ List.replicate j (kCode pu (pa + 64) (ps + 64) (pt + 16))).length), .ref aO, .int (nI O.length), .ref aI, .int (nI I.length), .ref bS, .ref bA, .ref bB, .ref bT, .ref bU, .int nm, .int pp, .int ft, .int pl, .int va, .int vb])), (aA, .inl (cI, 1024, .inl ha)), (aB, .inl (cI, 1024, .inl hs)), (aT, .inl (cI, 1024, .inl hr_)), (aU, .inl (cZ, 1024, .inl hu_))] → va_S A s.heap H locs → ∀ (ls : Array Slot), lv_has ls 7 [(0, .ref mo), (1, .int pa), (2, .int ps), (3, .int pt), (4, .int pu), (5, .int (nI k)), (6, .int (nI j))] → W p l e (headSpec w_Mo_record ({ frames := 1, cells := 0, slots := 0, locals := 21 })).room s m [.ref mo, .int pa, .int ps, .int pt, .int pu, .int pn].toArray below meth c H locs 0 0 (MQ below (Qc_Mo_record dC dI cI cB cZ mo th aS aA aB aT aU M aO O aI I bS bA bB bT bU nm pp ft pl va vb fa fs fr fu pa ps pt pu pn A) [.ref mo, .int pa, .int ps, .int pt, .int pu, .int pn].toArray s 0 0 A) (F0 m 64 ls []) := by
    intro fuel
    induction fuel with
    | zero => intro k j ha hs hr_ hu_ hm; exact absurd hm (Nat.not_lt_zero _)
    | succ fuel ih_64 =>
      intro k j ha hs hr_ hu_ hm hpn hk1 hk2 c_11 c_20 c_29 hj hR2 H locs hP hD hS ls hl
      obtain ⟨k1, k2, k3, k4, k5⟩ := cd_ok c_11 c_20 c_29 hpu
      refine lv_iload hx hb d_Mo_record_64 (lv_at hl 6 rfl) ?_
      refine lv_iload hx hb d_Mo_record_66 (lv_at hl 5 rfl) ?_
      refine lv_icmp_ge (tgt := 128) hx hb d_Mo_record_68 (by decide) (fun c_68 => ?_) (fun c_68 => ?_)
      · have n_68 := kn_le (a := k) (b := j) c_68 rfl rfl (by omega) (by omega)
        obtain rfl : k = j := by omega
        refine lv_aload_n hx hb d_Mo_record_128 rfl (lv_at hl 0 rfl) ?_
        refine va_get (D := (dC, dI)) (ci := 4) (v := .int (nI (M ++ List.replicate k (kCode pu (pa + 64) (ps + 64) (pt + 16))).length)) (C := "DemoTapeModel") (T := F_Mo) (N := 22) hx hb hts i_Mo hown hK hP 0 rfl rfl 6 (by decide) (hts _ mw390) (fun _ h9 => h9) rfl d_Mo_record_129 ?_
        subst hpn
        exact kr_i (v := nI (M ++ List.replicate k (kCode pu (pa + 64) (ps + 64) (pt + 16))).length) (ha, hs, hr_, hu_, (M ++ List.replicate k (kCode pu (pa + 64) (ps + 64) (pt + 16)))) hx hb hr rfl hK (hP.sub [0, 1, 2, 3, 4] (rfl)) (hD.sub [0, 1, 2, 3, 4] (by decide) (rfl)) hS ⟨(if_pos ⟨c_11, c_20, c_29, kIn_ok hk1 (by omega) (by omega)⟩).symm, by dsimp only; rw [if_pos ⟨c_11, c_20, c_29, kIn_ok hk1 (by omega) (by omega)⟩, nI_clamp (by omega)], hR2⟩ d_Mo_record_132 hlocks
      · have n_68 := kn_nle (a := k) (b := j) c_68 rfl rfl (by omega) (by omega)
        refine lv_aload_n hx hb d_Mo_record_71 rfl (lv_at hl 0 rfl) ?_
        refine va_get (D := (dC, dI)) (ci := 4) (v := .ref aA) (C := "DemoTapeModel") (T := F_Mo) (N := 22) hx hb hts i_Mo hown hK hP 0 rfl rfl 2 (by decide) (hts _ mw386) (fun _ h9 => h9) rfl d_Mo_record_72 ?_
        refine lv_aload_n hx hb d_Mo_record_75 rfl (lv_at hl 0 rfl) ?_
        refine va_get (D := (dC, dI)) (ci := 4) (v := .int (nI (M ++ List.replicate j (kCode pu (pa + 64) (ps + 64) (pt + 16))).length)) (C := "DemoTapeModel") (T := F_Mo) (N := 22) hx hb hts i_Mo hown hK hP 0 rfl rfl 6 (by decide) (hts _ mw390) (fun _ h9 => h9) rfl d_Mo_record_76 ?_
        refine lv_iload_n hx hb d_Mo_record_79 rfl (lv_at hl 1 rfl) ?_
        refine kt_iast (j := (M ++ List.replicate j (kCode pu (pa + 64) (ps + 64) (pt + 16))).length) hx hb hK hP hD hS 1 0 rfl rfl (by simp only [List.length_append, List.length_replicate]; omega) (by decide) d_Mo_record_80 (fun H locs hP hD hS => ?_)
        have hP : va_P (dC, dI) classes [(mo, .inr (4, [.int 0, .ref aS, .ref aA, .ref aB, .ref aT, .ref aU, .int (nI (M ++ List.replicate j (kCode pu (pa + 64) (ps + 64) (pt + 16))).length), .ref aO, .int (nI O.length), .ref aI, .int (nI I.length), .ref bS, .ref bA, .ref bB, .ref bT, .ref bU, .int nm, .int pp, .int ft, .int pl, .int va, .int vb])), (aA, .inl (cI, 1024, .inl (upd ha (M ++ List.replicate j (kCode pu (pa + 64) (ps + 64) (pt + 16))).length pa))), (aB, .inl (cI, 1024, .inl hs)), (aT, .inl (cI, 1024, .inl hr_)), (aU, .inl (cZ, 1024, .inl hu_))] H := hP
        have hD : va_D A [(mo, .inr (4, [.int 0, .ref aS, .ref aA, .ref aB, .ref aT, .ref aU, .int (nI (M ++ List.replicate j (kCode pu (pa + 64) (ps + 64) (pt + 16))).length), .ref aO, .int (nI O.length), .ref aI, .int (nI I.length), .ref bS, .ref bA, .ref bB, .ref bT, .ref bU, .int nm, .int pp, .int ft, .int pl, .int va, .int vb])), (aA, .inl (cI, 1024, .inl (upd ha (M ++ List.replicate j (kCode pu (pa + 64) (ps + 64) (pt + 16))).length pa))), (aB, .inl (cI, 1024, .inl hs)), (aT, .inl (cI, 1024, .inl hr_)), (aU, .inl (cZ, 1024, .inl hu_))] := hD
        refine lv_aload_n hx hb d_Mo_record_81 rfl (lv_at hl 0 rfl) ?_
        refine va_get (D := (dC, dI)) (ci := 4) (v := .ref aB) (C := "DemoTapeModel") (T := F_Mo) (N := 22) hx hb hts i_Mo hown hK hP 0 rfl rfl 3 (by decide) (hts _ mw387) (fun _ h9 => h9) rfl d_Mo_record_82 ?_
        refine lv_aload_n hx hb d_Mo_record_85 rfl (lv_at hl 0 rfl) ?_
        refine va_get (D := (dC, dI)) (ci := 4) (v := .int (nI (M ++ List.replicate j (kCode pu (pa + 64) (ps + 64) (pt + 16))).length)) (C := "DemoTapeModel") (T := F_Mo) (N := 22) hx hb hts i_Mo hown hK hP 0 rfl rfl 6 (by decide) (hts _ mw390) (fun _ h9 => h9) rfl d_Mo_record_86 ?_
        refine lv_iload_n hx hb d_Mo_record_89 rfl (lv_at hl 2 rfl) ?_
        refine kt_iast (j := (M ++ List.replicate j (kCode pu (pa + 64) (ps + 64) (pt + 16))).length) hx hb hK hP hD hS 2 0 rfl rfl (by simp only [List.length_append, List.length_replicate]; omega) (by decide) d_Mo_record_90 (fun H locs hP hD hS => ?_)
        have hP : va_P (dC, dI) classes [(mo, .inr (4, [.int 0, .ref aS, .ref aA, .ref aB, .ref aT, .ref aU, .int (nI (M ++ List.replicate j (kCode pu (pa + 64) (ps + 64) (pt + 16))).length), .ref aO, .int (nI O.length), .ref aI, .int (nI I.length), .ref bS, .ref bA, .ref bB, .ref bT, .ref bU, .int nm, .int pp, .int ft, .int pl, .int va, .int vb])), (aA, .inl (cI, 1024, .inl (upd ha (M ++ List.replicate j (kCode pu (pa + 64) (ps + 64) (pt + 16))).length pa))), (aB, .inl (cI, 1024, .inl (upd hs (M ++ List.replicate j (kCode pu (pa + 64) (ps + 64) (pt + 16))).length ps))), (aT, .inl (cI, 1024, .inl hr_)), (aU, .inl (cZ, 1024, .inl hu_))] H := hP
        have hD : va_D A [(mo, .inr (4, [.int 0, .ref aS, .ref aA, .ref aB, .ref aT, .ref aU, .int (nI (M ++ List.replicate j (kCode pu (pa + 64) (ps + 64) (pt + 16))).length), .ref aO, .int (nI O.length), .ref aI, .int (nI I.length), .ref bS, .ref bA, .ref bB, .ref bT, .ref bU, .int nm, .int pp, .int ft, .int pl, .int va, .int vb])), (aA, .inl (cI, 1024, .inl (upd ha (M ++ List.replicate j (kCode pu (pa + 64) (ps + 64) (pt + 16))).length pa))), (aB, .inl (cI, 1024, .inl (upd hs (M ++ List.replicate j (kCode pu (pa + 64) (ps + 64) (pt + 16))).length ps))), (aT, .inl (cI, 1024, .inl hr_)), (aU, .inl (cZ, 1024, .inl hu_))] := hD
        refine lv_aload_n hx hb d_Mo_record_91 rfl (lv_at hl 0 rfl) ?_
        refine va_get (D := (dC, dI)) (ci := 4) (v := .ref aT) (C := "DemoTapeModel") (T := F_Mo) (N := 22) hx hb hts i_Mo hown hK hP 0 rfl rfl 4 (by decide) (hts _ mw388) (fun _ h9 => h9) rfl d_Mo_record_92 ?_
        refine lv_aload_n hx hb d_Mo_record_95 rfl (lv_at hl 0 rfl) ?_
        refine va_get (D := (dC, dI)) (ci := 4) (v := .int (nI (M ++ List.replicate j (kCode pu (pa + 64) (ps + 64) (pt + 16))).length)) (C := "DemoTapeModel") (T := F_Mo) (N := 22) hx hb hts i_Mo hown hK hP 0 rfl rfl 6 (by decide) (hts _ mw390) (fun _ h9 => h9) rfl d_Mo_record_96 ?_
        refine lv_iload_n hx hb d_Mo_record_99 rfl (lv_at hl 3 rfl) ?_
        refine kt_iast (j := (M ++ List.replicate j (kCode pu (pa + 64) (ps + 64) (pt + 16))).length) hx hb hK hP hD hS 3 0 rfl rfl (by simp only [List.length_append, List.length_replicate]; omega) (by decide) d_Mo_record_100 (fun H locs hP hD hS => ?_)
        have hP : va_P (dC, dI) classes [(mo, .inr (4, [.int 0, .ref aS, .ref aA, .ref aB, .ref aT, .ref aU, .int (nI (M ++ List.replicate j (kCode pu (pa + 64) (ps + 64) (pt + 16))).length), .ref aO, .int (nI O.length), .ref aI, .int (nI I.length), .ref bS, .ref bA, .ref bB, .ref bT, .ref bU, .int nm, .int pp, .int ft, .int pl, .int va, .int vb])), (aA, .inl (cI, 1024, .inl (upd ha (M ++ List.replicate j (kCode pu (pa + 64) (ps + 64) (pt + 16))).length pa))), (aB, .inl (cI, 1024, .inl (upd hs (M ++ List.replicate j (kCode pu (pa + 64) (ps + 64) (pt + 16))).length ps))), (aT, .inl (cI, 1024, .inl (upd hr_ (M ++ List.replicate j (kCode pu (pa + 64) (ps + 64) (pt + 16))).length pt))), (aU, .inl (cZ, 1024, .inl hu_))] H := hP
        have hD : va_D A [(mo, .inr (4, [.int 0, .ref aS, .ref aA, .ref aB, .ref aT, .ref aU, .int (nI (M ++ List.replicate j (kCode pu (pa + 64) (ps + 64) (pt + 16))).length), .ref aO, .int (nI O.length), .ref aI, .int (nI I.length), .ref bS, .ref bA, .ref bB, .ref bT, .ref bU, .int nm, .int pp, .int ft, .int pl, .int va, .int vb])), (aA, .inl (cI, 1024, .inl (upd ha (M ++ List.replicate j (kCode pu (pa + 64) (ps + 64) (pt + 16))).length pa))), (aB, .inl (cI, 1024, .inl (upd hs (M ++ List.replicate j (kCode pu (pa + 64) (ps + 64) (pt + 16))).length ps))), (aT, .inl (cI, 1024, .inl (upd hr_ (M ++ List.replicate j (kCode pu (pa + 64) (ps + 64) (pt + 16))).length pt))), (aU, .inl (cZ, 1024, .inl hu_))] := hD
        refine lv_aload_n hx hb d_Mo_record_101 rfl (lv_at hl 0 rfl) ?_
        refine va_get (D := (dC, dI)) (ci := 4) (v := .ref aU) (C := "DemoTapeModel") (T := F_Mo) (N := 22) hx hb hts i_Mo hown hK hP 0 rfl rfl 5 (by decide) (hts _ mw389) (fun _ h9 => h9) rfl d_Mo_record_102 ?_
        refine lv_aload_n hx hb d_Mo_record_105 rfl (lv_at hl 0 rfl) ?_
        refine va_get (D := (dC, dI)) (ci := 4) (v := .int (nI (M ++ List.replicate j (kCode pu (pa + 64) (ps + 64) (pt + 16))).length)) (C := "DemoTapeModel") (T := F_Mo) (N := 22) hx hb hts i_Mo hown hK hP 0 rfl rfl 6 (by decide) (hts _ mw390) (fun _ h9 => h9) rfl d_Mo_record_106 ?_
        refine lv_iload hx hb d_Mo_record_109 (lv_at hl 4 rfl) ?_
        refine kt_zast (j := (M ++ List.replicate j (kCode pu (pa + 64) (ps + 64) (pt + 16))).length) hx hb hK hP hD hS 4 2 rfl rfl (by simp only [List.length_append, List.length_replicate]; omega) (by decide) d_Mo_record_111 (fun H locs hP hD hS => ?_)
        have hP : va_P (dC, dI) classes [(mo, .inr (4, [.int 0, .ref aS, .ref aA, .ref aB, .ref aT, .ref aU, .int (nI (M ++ List.replicate j (kCode pu (pa + 64) (ps + 64) (pt + 16))).length), .ref aO, .int (nI O.length), .ref aI, .int (nI I.length), .ref bS, .ref bA, .ref bB, .ref bT, .ref bU, .int nm, .int pp, .int ft, .int pl, .int va, .int vb])), (aA, .inl (cI, 1024, .inl (upd ha (M ++ List.replicate j (kCode pu (pa + 64) (ps + 64) (pt + 16))).length pa))), (aB, .inl (cI, 1024, .inl (upd hs (M ++ List.replicate j (kCode pu (pa + 64) (ps + 64) (pt + 16))).length ps))), (aT, .inl (cI, 1024, .inl (upd hr_ (M ++ List.replicate j (kCode pu (pa + 64) (ps + 64) (pt + 16))).length pt))), (aU, .inl (cZ, 1024, .inl (upd hu_ (M ++ List.replicate j (kCode pu (pa + 64) (ps + 64) (pt + 16))).length (vp_nar .boolean pu))))] H := hP
        have hD : va_D A [(mo, .inr (4, [.int 0, .ref aS, .ref aA, .ref aB, .ref aT, .ref aU, .int (nI (M ++ List.replicate j (kCode pu (pa + 64) (ps + 64) (pt + 16))).length), .ref aO, .int (nI O.length), .ref aI, .int (nI I.length), .ref bS, .ref bA, .ref bB, .ref bT, .ref bU, .int nm, .int pp, .int ft, .int pl, .int va, .int vb])), (aA, .inl (cI, 1024, .inl (upd ha (M ++ List.replicate j (kCode pu (pa + 64) (ps + 64) (pt + 16))).length pa))), (aB, .inl (cI, 1024, .inl (upd hs (M ++ List.replicate j (kCode pu (pa + 64) (ps + 64) (pt + 16))).length ps))), (aT, .inl (cI, 1024, .inl (upd hr_ (M ++ List.replicate j (kCode pu (pa + 64) (ps + 64) (pt + 16))).length pt))), (aU, .inl (cZ, 1024, .inl (upd hu_ (M ++ List.replicate j (kCode pu (pa + 64) (ps + 64) (pt + 16))).length (vp_nar .boolean pu))))] := hD
        refine lv_aload_n hx hb d_Mo_record_112 rfl (lv_at hl 0 rfl) ?_
        refine lv_dup hx hb d_Mo_record_113 rfl ?_
        refine va_get (D := (dC, dI)) (ci := 4) (v := .int (nI (M ++ List.replicate j (kCode pu (pa + 64) (ps + 64) (pt + 16))).length)) (C := "DemoTapeModel") (T := F_Mo) (N := 22) hx hb hts i_Mo hown hK hP 0 rfl rfl 6 (by decide) (hts _ mw390) (fun _ h9 => h9) rfl d_Mo_record_114 ?_
        refine lv_iconst (v := 1) hx hb d_Mo_record_117 (by decide) ?_
        refine lv_iadd hx hb d_Mo_record_118 ?_
        refine kt_i (y := nI (M ++ List.replicate (j + 1) (kCode pu (pa + 64) (ps + 64) (pt + 16))).length) (by rw [List.length_append, List.length_append, List.length_replicate, List.length_replicate]; exact nI_1 _) ?_
        refine va_put (D := (dC, dI)) (ci := 4) (v := .int (nI (M ++ List.replicate (j + 1) (kCode pu (pa + 64) (ps + 64) (pt + 16))).length)) (ty := .int) (C := "DemoTapeModel") (T := F_Mo) (N := 22) hx hb hts i_Mo t_Mo t_Mo_ok n_Mo hown hK hP hD hS 0 rfl rfl 6 (by decide) (hts _ mw390) (fun _ h9 => h9) rfl (by decide +kernel) rfl rfl (Nat.le_of_ble_eq_true rfl) d_Mo_record_119 (fun H locs hP hD hS => ?_)
        have hP : va_P (dC, dI) classes [(mo, .inr (4, [.int 0, .ref aS, .ref aA, .ref aB, .ref aT, .ref aU, .int (nI (M ++ List.replicate (j + 1) (kCode pu (pa + 64) (ps + 64) (pt + 16))).length), .ref aO, .int (nI O.length), .ref aI, .int (nI I.length), .ref bS, .ref bA, .ref bB, .ref bT, .ref bU, .int nm, .int pp, .int ft, .int pl, .int va, .int vb])), (aA, .inl (cI, 1024, .inl (upd ha (M ++ List.replicate j (kCode pu (pa + 64) (ps + 64) (pt + 16))).length pa))), (aB, .inl (cI, 1024, .inl (upd hs (M ++ List.replicate j (kCode pu (pa + 64) (ps + 64) (pt + 16))).length ps))), (aT, .inl (cI, 1024, .inl (upd hr_ (M ++ List.replicate j (kCode pu (pa + 64) (ps + 64) (pt + 16))).length pt))), (aU, .inl (cZ, 1024, .inl (upd hu_ (M ++ List.replicate j (kCode pu (pa + 64) (ps + 64) (pt + 16))).length (vp_nar .boolean pu))))] H := hP
        have hD : va_D A [(mo, .inr (4, [.int 0, .ref aS, .ref aA, .ref aB, .ref aT, .ref aU, .int (nI (M ++ List.replicate (j + 1) (kCode pu (pa + 64) (ps + 64) (pt + 16))).length), .ref aO, .int (nI O.length), .ref aI, .int (nI I.length), .ref bS, .ref bA, .ref bB, .ref bT, .ref bU, .int nm, .int pp, .int ft, .int pl, .int va, .int vb])), (aA, .inl (cI, 1024, .inl (upd ha (M ++ List.replicate j (kCode pu (pa + 64) (ps + 64) (pt + 16))).length pa))), (aB, .inl (cI, 1024, .inl (upd hs (M ++ List.replicate j (kCode pu (pa + 64) (ps + 64) (pt + 16))).length ps))), (aT, .inl (cI, 1024, .inl (upd hr_ (M ++ List.replicate j (kCode pu (pa + 64) (ps + 64) (pt + 16))).length pt))), (aU, .inl (cZ, 1024, .inl (upd hu_ (M ++ List.replicate j (kCode pu (pa + 64) (ps + 64) (pt + 16))).length (vp_nar .boolean pu))))] := hD
        refine lv_iinc (v := nI (j + 1)) (lv' := [(6, .int (nI (j + 1))), (0, .ref mo), (1, .int pa), (2, .int ps), (3, .int pt), (4, .int pu), (5, .int (nI k))]) hx hb d_Mo_record_122 hl (k := 6) rfl (by first | rfl | exact nI_1 _) (by decide) rfl (fun ls hl => ?_)
        refine lv_goto (tgt := 64) hx hb d_Mo_record_125 (by decide) ?_
        exact ih_64 k (j + 1) (upd ha (M ++ List.replicate j (kCode pu (pa + 64) (ps + 64) (pt + 16))).length pa) (upd hs (M ++ List.replicate j (kCode pu (pa + 64) (ps + 64) (pt + 16))).length ps) (upd hr_ (M ++ List.replicate j (kCode pu (pa + 64) (ps + 64) (pt + 16))).length pt) (upd hu_ (M ++ List.replicate j (kCode pu (pa + 64) (ps + 64) (pt + 16))).length (vp_nar .boolean pu)) (by omega) (hpn) (by first | with_reducible assumption | omega) (by first | with_reducible assumption | omega) (by first | with_reducible assumption | omega) (by first | with_reducible assumption | omega) (by first | with_reducible assumption | omega) (by first | with_reducible assumption | omega) (by rw [List.replicate_succ', ← List.append_assoc]; exact hR2.push k1 (by simp only [List.length_append, List.length_replicate]; omega) k2 k3 k4 ((nar_b01 hpu).trans k5)) _ _ (hP.sub [0, 1, 2, 3, 4] (rfl)) (hD.sub [0, 1, 2, 3, 4] (by decide) (rfl)) hS ls (lv_sub hl [1, 2, 3, 4, 5, 6, 0] rfl)
  refine lv_aload_n hx hb d_Mo_record_0 rfl (lv_at hl 0 rfl) ?_
  refine lv_iconst (v := 0) hx hb d_Mo_record_1 (by decide) ?_
  refine va_put (D := (dC, dI)) (ci := 4) (v := .int 0) (ty := .int) (C := "DemoTapeModel") (T := F_Mo) (N := 22) hx hb hts i_Mo t_Mo t_Mo_ok n_Mo hown hK hP hD hS 0 rfl rfl 0 (by decide) (hts _ mw384) (fun _ h9 => h9) rfl (by decide +kernel) rfl rfl (Nat.le_of_ble_eq_true rfl) d_Mo_record_2 (fun H locs hP hD hS => ?_)
  have hP : va_P (dC, dI) classes [(mo, .inr (4, [.int 0, .ref aS, .ref aA, .ref aB, .ref aT, .ref aU, .int (nI M.length), .ref aO, .int (nI O.length), .ref aI, .int (nI I.length), .ref bS, .ref bA, .ref bB, .ref bT, .ref bU, .int nm, .int pp, .int ft, .int pl, .int va, .int vb])), (aA, .inl (cI, 1024, .inl fa)), (aB, .inl (cI, 1024, .inl fs)), (aT, .inl (cI, 1024, .inl fr)), (aU, .inl (cZ, 1024, .inl fu))] H := hP
  have hD : va_D A [(mo, .inr (4, [.int 0, .ref aS, .ref aA, .ref aB, .ref aT, .ref aU, .int (nI M.length), .ref aO, .int (nI O.length), .ref aI, .int (nI I.length), .ref bS, .ref bA, .ref bB, .ref bT, .ref bU, .int nm, .int pp, .int ft, .int pl, .int va, .int vb])), (aA, .inl (cI, 1024, .inl fa)), (aB, .inl (cI, 1024, .inl fs)), (aT, .inl (cI, 1024, .inl fr)), (aU, .inl (cZ, 1024, .inl fu))] := hD
  refine lv_iload_n hx hb d_Mo_record_5 rfl (lv_at hl 1 rfl) ?_
  refine lv_bipush (v := 64) hx hb d_Mo_record_6 (by decide) ?_
  refine kq_i (wr := [(mo, .inr (4, [.int 0, .ref aS, .ref aA, .ref aB, .ref aT, .ref aU, .int (nI M.length), .ref aO, .int (nI O.length), .ref aI, .int (nI I.length), .ref bS, .ref bA, .ref bB, .ref bT, .ref bU, .int nm, .int pp, .int ft, .int pl, .int va, .int vb])), (aA, .inl (cI, 1024, .inl fa)), (aB, .inl (cI, 1024, .inl fs)), (aT, .inl (cI, 1024, .inl fr)), (aU, .inl (cZ, 1024, .inl fu))]) (va_runS (As := [.int pa, .int 64]) (rest := []) ⟨hx, hb, hml, hown, hts⟩ (c_Mo_isIn l dC dI cI cB cZ _ pa 64 ) (va_cwS 2 hts (gS mw460 mw461 mw30 mw462) rfl rfl rfl (by decide +kernel) ⟨Nat.le_of_ble_eq_true rfl, Nat.le_of_ble_eq_true rfl⟩) (kpS (wc := []) hK hP hD [] rfl (by decide) rfl) rfl rfl hl.1 rfl (lv_room (Nat.le_of_ble_eq_true rfl)) d_Mo_record_8 ⟨Nat.le_of_ble_eq_true rfl, Nat.le_of_ble_eq_true rfl⟩) hP hD hS hA [] [0, 1, 2, 3, 4] [0, 1, 2, 3, 4] rfl rfl (by decide) (by decide) rfl (fun r_8 H locs hw hP hS => ?_)
  have e_8 := hw
  refine kt_i e_8 ?_
  refine lv_if_eq (tgt := 59) hx hb d_Mo_record_11 (by decide) (fun c_11 => ?_) (fun c_11 => ?_)
  · refine lv_iconst (v := -1) hx hb d_Mo_record_59 (by decide) ?_
    exact kr_i (v := -1) (fa, fs, fr, fu, M) hx hb hr rfl hK (hP.sub [0, 1, 2, 3, 4] (rfl)) (hD.sub [0, 1, 2, 3, 4] (by decide) (rfl)) hS ⟨(if_neg (fun z => z.1 c_11)).symm, (if_neg (fun z => z.1 c_11)).symm, hR⟩ d_Mo_record_60 hlocks
  · refine lv_iload_n hx hb d_Mo_record_14 rfl (lv_at hl 2 rfl) ?_
    refine lv_bipush (v := 64) hx hb d_Mo_record_15 (by decide) ?_
    refine kq_i (wr := [(mo, .inr (4, [.int 0, .ref aS, .ref aA, .ref aB, .ref aT, .ref aU, .int (nI M.length), .ref aO, .int (nI O.length), .ref aI, .int (nI I.length), .ref bS, .ref bA, .ref bB, .ref bT, .ref bU, .int nm, .int pp, .int ft, .int pl, .int va, .int vb])), (aA, .inl (cI, 1024, .inl fa)), (aB, .inl (cI, 1024, .inl fs)), (aT, .inl (cI, 1024, .inl fr)), (aU, .inl (cZ, 1024, .inl fu))]) (va_runS (As := [.int ps, .int 64]) (rest := []) ⟨hx, hb, hml, hown, hts⟩ (c_Mo_isIn l dC dI cI cB cZ _ ps 64 ) (va_cwS 2 hts (gS mw460 mw461 mw30 mw462) rfl rfl rfl (by decide +kernel) ⟨Nat.le_of_ble_eq_true rfl, Nat.le_of_ble_eq_true rfl⟩) (kpS (wc := []) hK hP hD [] rfl (by decide) rfl) rfl rfl hl.1 rfl (lv_room (Nat.le_of_ble_eq_true rfl)) d_Mo_record_17 ⟨Nat.le_of_ble_eq_true rfl, Nat.le_of_ble_eq_true rfl⟩) hP hD hS hA [] [0, 1, 2, 3, 4] [0, 1, 2, 3, 4] rfl rfl (by decide) (by decide) rfl (fun r_17 H locs hw hP hS => ?_)
    have e_17 := hw
    refine kt_i e_17 ?_
    refine lv_if_eq (tgt := 59) hx hb d_Mo_record_20 (by decide) (fun c_20 => ?_) (fun c_20 => ?_)
    · refine lv_iconst (v := -1) hx hb d_Mo_record_59 (by decide) ?_
      exact kr_i (v := -1) (fa, fs, fr, fu, M) hx hb hr rfl hK (hP.sub [0, 1, 2, 3, 4] (rfl)) (hD.sub [0, 1, 2, 3, 4] (by decide) (rfl)) hS ⟨(if_neg (fun z => z.2.1 c_20)).symm, (if_neg (fun z => z.2.1 c_20)).symm, hR⟩ d_Mo_record_60 hlocks
    · refine lv_iload_n hx hb d_Mo_record_23 rfl (lv_at hl 3 rfl) ?_
      refine lv_bipush (v := 16) hx hb d_Mo_record_24 (by decide) ?_
      refine kq_i (wr := [(mo, .inr (4, [.int 0, .ref aS, .ref aA, .ref aB, .ref aT, .ref aU, .int (nI M.length), .ref aO, .int (nI O.length), .ref aI, .int (nI I.length), .ref bS, .ref bA, .ref bB, .ref bT, .ref bU, .int nm, .int pp, .int ft, .int pl, .int va, .int vb])), (aA, .inl (cI, 1024, .inl fa)), (aB, .inl (cI, 1024, .inl fs)), (aT, .inl (cI, 1024, .inl fr)), (aU, .inl (cZ, 1024, .inl fu))]) (va_runS (As := [.int pt, .int 16]) (rest := []) ⟨hx, hb, hml, hown, hts⟩ (c_Mo_isIn l dC dI cI cB cZ _ pt 16 ) (va_cwS 2 hts (gS mw460 mw461 mw30 mw462) rfl rfl rfl (by decide +kernel) ⟨Nat.le_of_ble_eq_true rfl, Nat.le_of_ble_eq_true rfl⟩) (kpS (wc := []) hK hP hD [] rfl (by decide) rfl) rfl rfl hl.1 rfl (lv_room (Nat.le_of_ble_eq_true rfl)) d_Mo_record_26 ⟨Nat.le_of_ble_eq_true rfl, Nat.le_of_ble_eq_true rfl⟩) hP hD hS hA [] [0, 1, 2, 3, 4] [0, 1, 2, 3, 4] rfl rfl (by decide) (by decide) rfl (fun r_26 H locs hw hP hS => ?_)
      have e_26 := hw
      refine kt_i e_26 ?_
      refine lv_if_eq (tgt := 59) hx hb d_Mo_record_29 (by decide) (fun c_29 => ?_) (fun c_29 => ?_)
      · refine lv_iconst (v := -1) hx hb d_Mo_record_59 (by decide) ?_
        exact kr_i (v := -1) (fa, fs, fr, fu, M) hx hb hr rfl hK (hP.sub [0, 1, 2, 3, 4] (rfl)) (hD.sub [0, 1, 2, 3, 4] (by decide) (rfl)) hS ⟨(if_neg (fun z => z.2.2.1 c_29)).symm, (if_neg (fun z => z.2.2.1 c_29)).symm, hR⟩ d_Mo_record_60 hlocks
      · refine lv_iload hx hb d_Mo_record_32 (lv_at hl 5 rfl) ?_
        refine lv_iconst (v := 1) hx hb d_Mo_record_34 (by decide) ?_
        refine lv_icmp_lt (tgt := 59) hx hb d_Mo_record_35 (by decide) (fun c_35 => ?_) (fun c_35 => ?_)
        · refine lv_iconst (v := -1) hx hb d_Mo_record_59 (by decide) ?_
          exact kr_i (v := -1) (fa, fs, fr, fu, M) hx hb hr rfl hK (hP.sub [0, 1, 2, 3, 4] (rfl)) (hD.sub [0, 1, 2, 3, 4] (by decide) (rfl)) hS ⟨(if_neg (fun z => z.2.2.2 (kIn_lo c_35))).symm, (if_neg (fun z => z.2.2.2 (kIn_lo c_35))).symm, hR⟩ d_Mo_record_60 hlocks
        · refine lv_iload hx hb d_Mo_record_38 (lv_at hl 5 rfl) ?_
          refine lv_sipush (v := 1024) hx hb d_Mo_record_40 (by decide) ?_
          refine lv_icmp_gt (tgt := 59) hx hb d_Mo_record_43 (by decide) (fun c_43 => ?_) (fun c_43 => ?_)
          · refine lv_iconst (v := -1) hx hb d_Mo_record_59 (by decide) ?_
            exact kr_i (v := -1) (fa, fs, fr, fu, M) hx hb hr rfl hK (hP.sub [0, 1, 2, 3, 4] (rfl)) (hD.sub [0, 1, 2, 3, 4] (by decide) (rfl)) hS ⟨(if_neg (fun z => z.2.2.2 (kIn_hi (Int32.lt_of_le_of_lt (nI_le (b := 1024) (by omega) (by decide)) c_43)))).symm, (if_neg (fun z => z.2.2.2 (kIn_hi (Int32.lt_of_le_of_lt (nI_le (b := 1024) (by omega) (by decide)) c_43)))).symm, hR⟩ d_Mo_record_60 hlocks
          · obtain ⟨k, hk1, hk2, rfl⟩ := kPn (n := 1024) c_35 c_43 (by decide)
            refine lv_aload_n hx hb d_Mo_record_46 rfl (lv_at hl 0 rfl) ?_
            refine va_get (D := (dC, dI)) (ci := 4) (v := .int (nI M.length)) (C := "DemoTapeModel") (T := F_Mo) (N := 22) hx hb hts i_Mo hown hK hP 0 rfl rfl 6 (by decide) (hts _ mw390) (fun _ h9 => h9) rfl d_Mo_record_47 ?_
            refine lv_iload hx hb d_Mo_record_50 (lv_at hl 5 rfl) ?_
            refine lv_iadd hx hb d_Mo_record_52 ?_
            refine kt_i (y := nI (M.length + k)) (nI_add _ _) ?_
            refine lv_sipush (v := 1024) hx hb d_Mo_record_53 (by decide) ?_
            refine lv_icmp_le (tgt := 61) hx hb d_Mo_record_56 (by decide) (fun c_56 => ?_) (fun c_56 => ?_)
            · have n_56 := kn_le (a := M.length + k) (b := 1024) c_56 rfl rfl (by omega) (by omega)
              refine lv_iconst (v := 0) hx hb d_Mo_record_61 (by decide) ?_
              refine lv_istore (lv' := [(6, .int 0), (0, .ref mo), (1, .int pa), (2, .int ps), (3, .int pt), (4, .int pu), (5, .int (nI k))]) hx hb d_Mo_record_62 hl (by decide) rfl (fun ls hl => ?_)
              exact J_64 _ k 0 fa fs fr fu (Nat.lt_succ_self _) (rfl) (by first | with_reducible assumption | omega) (by first | with_reducible assumption | omega) (by first | with_reducible assumption | omega) (by first | with_reducible assumption | omega) (by first | with_reducible assumption | omega) (by first | with_reducible assumption | omega) (by simpa using hR) _ _ (hP.sub [0, 1, 2, 3, 4] (by rw [List.replicate_zero, List.append_nil]; rfl)) (hD.sub [0, 1, 2, 3, 4] (by decide) (by rw [List.replicate_zero, List.append_nil]; rfl)) hS ls (lv_sub hl [1, 2, 3, 4, 5, 6, 0] rfl)
            · have n_56 := kn_nle (a := M.length + k) (b := 1024) c_56 rfl rfl (by omega) (by omega)
              refine lv_iconst (v := -1) hx hb d_Mo_record_59 (by decide) ?_
              exact kr_i (v := -1) (fa, fs, fr, fu, M) hx hb hr rfl hK (hP.sub [0, 1, 2, 3, 4] (rfl)) (hD.sub [0, 1, 2, 3, 4] (by decide) (rfl)) hS ⟨(if_neg (fun z => z.2.2.2 (kIn_hi (nI_lt (by omega) (by omega))))).symm, (if_neg (fun z => z.2.2.2 (kIn_hi (nI_lt (by omega) (by omega))))).symm, hR⟩ d_Mo_record_60 hlocks
abbrev Qc_Mo_undo (dC : Nat → ClassId) (dI : Nat → Nat → Nat) (cI cB cZ : ClassId) (mo : Nat) (th : Int32) (aS : Nat) (aA : Nat) (aB : Nat) (aT : Nat) (aU : Nat) (M : List Int32) (aO : Nat) (O : List Nat) (aI : Nat) (I : List Nat) (bS : Nat) (bA : Nat) (bB : Nat) (bT : Nat) (bU : Nat) (nm : Int32) (pp : Int32) (ft : Int32) (pl : Int32) (va : Int32) (vb : Int32) (fa : Nat → Int32) (fs : Nat → Int32) (fr : Nat → Int32) (fu : Nat → Int32) (pn : Int32) (A : Nat → Prop) := va_Qi (fun (r9 : Int32) (u9 : List Int32) => (r9 = if kIn pn 0 (nI M.length) = 0 then 0 else 1) ∧ (u9 = if kIn pn 0 (nI M.length) = 0 then M else M.take (M.length - pn.toNatClampNeg)) ∧ (MRow fa fs fr fu u9)) (ka (dC, dI) classes [(cI, .int), (cB, .byte), (cZ, .boolean)] (fun (u9 : List Int32) => [(mo, .inr (4, [.int 0, .ref aS, .ref aA, .ref aB, .ref aT, .ref aU, .int (nI u9.length), .ref aO, .int (nI O.length), .ref aI, .int (nI I.length), .ref bS, .ref bA, .ref bB, .ref bT, .ref bU, .int nm, .int pp, .int ft, .int pl, .int va, .int vb])), (aA, .inl (cI, 1024, .inl fa)), (aB, .inl (cI, 1024, .inl fs)), (aT, .inl (cI, 1024, .inl fr)), (aU, .inl (cZ, 1024, .inl fu))]) A) A
set_option maxHeartbeats 1000000 in
set_option maxRecDepth 100000 in
/-- Model.undo -/
theorem c_Mo_undo (l : Launch) (dC : Nat → ClassId) (dI : Nat → Nat → Nat) (cI cB cZ : ClassId) (sz : Nat) (mo : Nat) (th : Int32) (aS : Nat) (aA : Nat) (aB : Nat) (aT : Nat) (aU : Nat) (M : List Int32) (aO : Nat) (O : List Nat) (aI : Nat) (I : List Nat) (bS : Nat) (bA : Nat) (bB : Nat) (bT : Nat) (bU : Nat) (nm : Int32) (pp : Int32) (ft : Int32) (pl : Int32) (va : Int32) (vb : Int32) (fa : Nat → Int32) (fs : Nat → Int32) (fr : Nat → Int32) (fu : Nat → Int32) (pn : Int32) (hR : MRow fa fs fr fu M) : Met l y_Mo_undo w_Mo_undo ({ frames := 0, cells := 0, slots := 0, locals := 0 }) (va_Pc [.ref mo, .int pn] (kp (dC, dI) classes [(cI, .int), (cB, .byte), (cZ, .boolean)] [(mo, .inr (4, [.int th, .ref aS, .ref aA, .ref aB, .ref aT, .ref aU, .int (nI M.length), .ref aO, .int (nI O.length), .ref aI, .int (nI I.length), .ref bS, .ref bA, .ref bB, .ref bT, .ref bU, .int nm, .int pp, .int ft, .int pl, .int va, .int vb])), (aA, .inl (cI, 1024, .inl fa)), (aB, .inl (cI, 1024, .inl fs)), (aT, .inl (cI, 1024, .inl fr)), (aU, .inl (cZ, 1024, .inl fu))] sz)) (Qc_Mo_undo dC dI cI cB cZ mo th aS aA aB aT aU M aO O aI I bS bA bB bT bU nm pp ft pl va vb fa fs fr fu pn (va_A [(mo, .inr (4, [.int th, .ref aS, .ref aA, .ref aB, .ref aT, .ref aU, .int (nI M.length), .ref aO, .int (nI O.length), .ref aI, .int (nI I.length), .ref bS, .ref bA, .ref bB, .ref bT, .ref bU, .int nm, .int pp, .int ft, .int pl, .int va, .int vb])), (aA, .inl (cI, 1024, .inl fa)), (aB, .inl (cI, 1024, .inl fs)), (aT, .inl (cI, 1024, .inl fr)), (aU, .inl (cZ, 1024, .inl fu))] sz)) 0 0 (va_A [(mo, .inr (4, [.int th, .ref aS, .ref aA, .ref aB, .ref aT, .ref aU, .int (nI M.length), .ref aO, .int (nI O.length), .ref aI, .int (nI I.length), .ref bS, .ref bA, .ref bB, .ref bT, .ref bU, .int nm, .int pp, .int ft, .int pl, .int va, .int vb])), (aA, .inl (cI, 1024, .inl fa)), (aB, .inl (cI, 1024, .inl fs)), (aT, .inl (cI, 1024, .inl fr)), (aU, .inl (cZ, 1024, .inl fu))] sz) := by
  refine Met.ofW (cc := prog_7_method_6_code) (maxL := 2) (ret := (some .boolean)) (by decide) rfl ?_
  intro p e s m args below meth c s₁ B hml hv
  obtain ⟨rfl, hsz, hP, hK, hD0⟩ := hv
  have hx := B.exec
  have hb := B.bytes
  have hr := B.returns
  have hts := fun w h => atoms_spec (ws := w_Mo_undo) B.pre w (List.mem_cons_of_mem _ h)
  have hown : s.vm.findClass "DemoTapeModel" = some m.cls := findClass_of_methodNamed B.named
  have hlocks := B.notSynchronized
  subst hsz
  have hD := hD0.self (sz := s.heap.size)
  generalize hAe : va_A ([(mo, .inr (4, [.int th, .ref aS, .ref aA, .ref aB, .ref aT, .ref aU, .int (nI M.length), .ref aO, .int (nI O.length), .ref aI, .int (nI I.length), .ref bS, .ref bA, .ref bB, .ref bT, .ref bU, .int nm, .int pp, .int ft, .int pl, .int va, .int vb])), (aA, .inl (cI, 1024, .inl fa)), (aB, .inl (cI, 1024, .inl fs)), (aT, .inl (cI, 1024, .inl fr)), (aU, .inl (cZ, 1024, .inl fu))] : va_W) s.heap.size = A at hD ⊢
  have hA : ∀ q : Nat, s.heap.size ≤ q → A q := fun q h => by rw [← hAe]; exact Or.inr h
  have hS : va_S A s.heap s.heap [] := va_S.rf
  have hP : va_P (dC, dI) classes [(mo, .inr (4, [.int th, .ref aS, .ref aA, .ref aB, .ref aT, .ref aU, .int (nI M.length), .ref aO, .int (nI O.length), .ref aI, .int (nI I.length), .ref bS, .ref bA, .ref bB, .ref bT, .ref bU, .int nm, .int pp, .int ft, .int pl, .int va, .int vb])), (aA, .inl (cI, 1024, .inl fa)), (aB, .inl (cI, 1024, .inl fs)), (aT, .inl (cI, 1024, .inl fr)), (aU, .inl (cZ, 1024, .inl fu))] s.heap := hP
  have hM := hR.2.2
  have hl := lv_entry ([.ref mo, .int pn]) (n := 2) (Nat.le_of_ble_eq_true rfl)
  rw [lg_entry_eq]
  generalize (lg_sl ([.ref mo, .int pn]) ++ List.replicate (2 - (lg_sl ([.ref mo, .int pn])).length) Slot.unset).toArray = ls at hl ⊢
  have hl : lv_has ls 2 [(0, .ref mo), (1, .int pn)] := hl
  refine lv_aload_n hx hb d_Mo_undo_0 rfl (lv_at hl 0 rfl) ?_
  refine lv_iconst (v := 0) hx hb d_Mo_undo_1 (by decide) ?_
  refine va_put (D := (dC, dI)) (ci := 4) (v := .int 0) (ty := .int) (C := "DemoTapeModel") (T := F_Mo) (N := 22) hx hb hts i_Mo t_Mo t_Mo_ok n_Mo hown hK hP hD hS 0 rfl rfl 0 (by decide) (hts _ mw384) (fun _ h9 => h9) rfl (by decide +kernel) rfl rfl (Nat.le_of_ble_eq_true rfl) d_Mo_undo_2 (fun H locs hP hD hS => ?_)
  have hP : va_P (dC, dI) classes [(mo, .inr (4, [.int 0, .ref aS, .ref aA, .ref aB, .ref aT, .ref aU, .int (nI M.length), .ref aO, .int (nI O.length), .ref aI, .int (nI I.length), .ref bS, .ref bA, .ref bB, .ref bT, .ref bU, .int nm, .int pp, .int ft, .int pl, .int va, .int vb])), (aA, .inl (cI, 1024, .inl fa)), (aB, .inl (cI, 1024, .inl fs)), (aT, .inl (cI, 1024, .inl fr)), (aU, .inl (cZ, 1024, .inl fu))] H := hP
  have hD : va_D A [(mo, .inr (4, [.int 0, .ref aS, .ref aA, .ref aB, .ref aT, .ref aU, .int (nI M.length), .ref aO, .int (nI O.length), .ref aI, .int (nI I.length), .ref bS, .ref bA, .ref bB, .ref bT, .ref bU, .int nm, .int pp, .int ft, .int pl, .int va, .int vb])), (aA, .inl (cI, 1024, .inl fa)), (aB, .inl (cI, 1024, .inl fs)), (aT, .inl (cI, 1024, .inl fr)), (aU, .inl (cZ, 1024, .inl fu))] := hD
  refine lv_iload_n hx hb d_Mo_undo_5 rfl (lv_at hl 1 rfl) ?_
  refine lv_if_lt (tgt := 17) hx hb d_Mo_undo_6 (by decide) (fun c_6 => ?_) (fun c_6 => ?_)
  · refine lv_iconst (v := 0) hx hb d_Mo_undo_17 (by decide) ?_
    exact kr_i (v := 0) M hx hb hr (by decide) hK (hP.sub [0, 1, 2, 3, 4] (rfl)) (hD.sub [0, 1, 2, 3, 4] (by decide) (rfl)) hS ⟨(if_pos (kIn_lo c_6)).symm, (if_pos (kIn_lo c_6)).symm, hR⟩ d_Mo_undo_18 hlocks
  · obtain ⟨k, hk, rfl⟩ := nI_of c_6
    refine lv_iload_n hx hb d_Mo_undo_9 rfl (lv_at hl 1 rfl) ?_
    refine lv_aload_n hx hb d_Mo_undo_10 rfl (lv_at hl 0 rfl) ?_
    refine va_get (D := (dC, dI)) (ci := 4) (v := .int (nI M.length)) (C := "DemoTapeModel") (T := F_Mo) (N := 22) hx hb hts i_Mo hown hK hP 0 rfl rfl 6 (by decide) (hts _ mw390) (fun _ h9 => h9) rfl d_Mo_undo_11 ?_
    refine lv_icmp_le (tgt := 19) hx hb d_Mo_undo_14 (by decide) (fun c_14 => ?_) (fun c_14 => ?_)
    · have n_14 := kn_le (a := k) (b := M.length) c_14 rfl rfl (by omega) (by omega)
      refine lv_aload_n hx hb d_Mo_undo_19 rfl (lv_at hl 0 rfl) ?_
      refine lv_dup hx hb d_Mo_undo_20 rfl ?_
      refine va_get (D := (dC, dI)) (ci := 4) (v := .int (nI M.length)) (C := "DemoTapeModel") (T := F_Mo) (N := 22) hx hb hts i_Mo hown hK hP 0 rfl rfl 6 (by decide) (hts _ mw390) (fun _ h9 => h9) rfl d_Mo_undo_21 ?_
      refine lv_iload_n hx hb d_Mo_undo_24 rfl (lv_at hl 1 rfl) ?_
      refine lv_isub hx hb d_Mo_undo_25 ?_
      refine kt_i (y := nI (M.take (M.length - k)).length) (by rw [pk_sub n_14, List.length_take, Nat.min_eq_left (by omega)]) ?_
      refine va_put (D := (dC, dI)) (ci := 4) (v := .int (nI (M.take (M.length - k)).length)) (ty := .int) (C := "DemoTapeModel") (T := F_Mo) (N := 22) hx hb hts i_Mo t_Mo t_Mo_ok n_Mo hown hK hP hD hS 0 rfl rfl 6 (by decide) (hts _ mw390) (fun _ h9 => h9) rfl (by decide +kernel) rfl rfl (Nat.le_of_ble_eq_true rfl) d_Mo_undo_26 (fun H locs hP hD hS => ?_)
      have hP : va_P (dC, dI) classes [(mo, .inr (4, [.int 0, .ref aS, .ref aA, .ref aB, .ref aT, .ref aU, .int (nI (M.take (M.length - k)).length), .ref aO, .int (nI O.length), .ref aI, .int (nI I.length), .ref bS, .ref bA, .ref bB, .ref bT, .ref bU, .int nm, .int pp, .int ft, .int pl, .int va, .int vb])), (aA, .inl (cI, 1024, .inl fa)), (aB, .inl (cI, 1024, .inl fs)), (aT, .inl (cI, 1024, .inl fr)), (aU, .inl (cZ, 1024, .inl fu))] H := hP
      have hD : va_D A [(mo, .inr (4, [.int 0, .ref aS, .ref aA, .ref aB, .ref aT, .ref aU, .int (nI (M.take (M.length - k)).length), .ref aO, .int (nI O.length), .ref aI, .int (nI I.length), .ref bS, .ref bA, .ref bB, .ref bT, .ref bU, .int nm, .int pp, .int ft, .int pl, .int va, .int vb])), (aA, .inl (cI, 1024, .inl fa)), (aB, .inl (cI, 1024, .inl fs)), (aT, .inl (cI, 1024, .inl fr)), (aU, .inl (cZ, 1024, .inl fu))] := hD
      refine lv_iconst (v := 1) hx hb d_Mo_undo_29 (by decide) ?_
      exact kr_i (v := 1) (M.take (M.length - k)) hx hb hr (by decide) hK (hP.sub [0, 1, 2, 3, 4] (rfl)) (hD.sub [0, 1, 2, 3, 4] (by decide) (rfl)) hS ⟨(if_neg (kIn_y c_6 (nI_nlt n_14 (by omega)))).symm, by rw [if_neg (kIn_y c_6 (nI_nlt n_14 (by omega))), nI_clamp (by omega)], hR.take _⟩ d_Mo_undo_30 hlocks
    · have n_14 := kn_nle (a := k) (b := M.length) c_14 rfl rfl (by omega) (by omega)
      refine lv_iconst (v := 0) hx hb d_Mo_undo_17 (by decide) ?_
      exact kr_i (v := 0) M hx hb hr (by decide) hK (hP.sub [0, 1, 2, 3, 4] (rfl)) (hD.sub [0, 1, 2, 3, 4] (by decide) (rfl)) hS ⟨(if_pos (kIn_hi (nI_lt n_14 (by omega)))).symm, (if_pos (kIn_hi (nI_lt n_14 (by omega)))).symm, hR⟩ d_Mo_undo_18 hlocks
abbrev Qc_Mo_again (dC : Nat → ClassId) (dI : Nat → Nat → Nat) (cI cB cZ : ClassId) (mo : Nat) (th : Int32) (aS : Nat) (aA : Nat) (aB : Nat) (aT : Nat) (aU : Nat) (M : List Int32) (aO : Nat) (O : List Nat) (aI : Nat) (I : List Nat) (bS : Nat) (bA : Nat) (bB : Nat) (bT : Nat) (bU : Nat) (nm : Int32) (pp : Int32) (ft : Int32) (pl : Int32) (va : Int32) (vb : Int32) (fa : Nat → Int32) (fs : Nat → Int32) (fr : Nat → Int32) (fu : Nat → Int32) (pi : Int32) (pn : Int32) (A : Nat → Prop) := va_Qi (fun (r9 : Int32) (u9 : (Nat → Int32) × (Nat → Int32) × (Nat → Int32) × (Nat → Int32) × List Int32) => (r9 = if kAgOk M pi pn then nI u9.2.2.2.2.length else -1) ∧ (u9.2.2.2.2 = if kAgOk M pi pn then M ++ (M.drop pi.toNatClampNeg).take pn.toNatClampNeg else M) ∧ (MRow u9.1 u9.2.1 u9.2.2.1 u9.2.2.2.1 u9.2.2.2.2)) (ka (dC, dI) classes [(cI, .int), (cB, .byte), (cZ, .boolean)] (fun (u9 : (Nat → Int32) × (Nat → Int32) × (Nat → Int32) × (Nat → Int32) × List Int32) => [(mo, .inr (4, [.int 0, .ref aS, .ref aA, .ref aB, .ref aT, .ref aU, .int (nI u9.2.2.2.2.length), .ref aO, .int (nI O.length), .ref aI, .int (nI I.length), .ref bS, .ref bA, .ref bB, .ref bT, .ref bU, .int nm, .int pp, .int ft, .int pl, .int va, .int vb])), (aA, .inl (cI, 1024, .inl u9.1)), (aB, .inl (cI, 1024, .inl u9.2.1)), (aT, .inl (cI, 1024, .inl u9.2.2.1)), (aU, .inl (cZ, 1024, .inl u9.2.2.2.1))]) A) A
set_option maxHeartbeats 1000000 in
set_option maxRecDepth 100000 in
/-- Model.again -/
theorem c_Mo_again (l : Launch) (dC : Nat → ClassId) (dI : Nat → Nat → Nat) (cI cB cZ : ClassId) (sz : Nat) (mo : Nat) (th : Int32) (aS : Nat) (aA : Nat) (aB : Nat) (aT : Nat) (aU : Nat) (M : List Int32) (aO : Nat) (O : List Nat) (aI : Nat) (I : List Nat) (bS : Nat) (bA : Nat) (bB : Nat) (bT : Nat) (bU : Nat) (nm : Int32) (pp : Int32) (ft : Int32) (pl : Int32) (va : Int32) (vb : Int32) (fa : Nat → Int32) (fs : Nat → Int32) (fr : Nat → Int32) (fu : Nat → Int32) (pi : Int32) (pn : Int32) (hR : MRow fa fs fr fu M) : Met l y_Mo_again w_Mo_again ({ frames := 0, cells := 0, slots := 0, locals := 0 }) (va_Pc [.ref mo, .int pi, .int pn] (kp (dC, dI) classes [(cI, .int), (cB, .byte), (cZ, .boolean)] [(mo, .inr (4, [.int th, .ref aS, .ref aA, .ref aB, .ref aT, .ref aU, .int (nI M.length), .ref aO, .int (nI O.length), .ref aI, .int (nI I.length), .ref bS, .ref bA, .ref bB, .ref bT, .ref bU, .int nm, .int pp, .int ft, .int pl, .int va, .int vb])), (aA, .inl (cI, 1024, .inl fa)), (aB, .inl (cI, 1024, .inl fs)), (aT, .inl (cI, 1024, .inl fr)), (aU, .inl (cZ, 1024, .inl fu))] sz)) (Qc_Mo_again dC dI cI cB cZ mo th aS aA aB aT aU M aO O aI I bS bA bB bT bU nm pp ft pl va vb fa fs fr fu pi pn (va_A [(mo, .inr (4, [.int th, .ref aS, .ref aA, .ref aB, .ref aT, .ref aU, .int (nI M.length), .ref aO, .int (nI O.length), .ref aI, .int (nI I.length), .ref bS, .ref bA, .ref bB, .ref bT, .ref bU, .int nm, .int pp, .int ft, .int pl, .int va, .int vb])), (aA, .inl (cI, 1024, .inl fa)), (aB, .inl (cI, 1024, .inl fs)), (aT, .inl (cI, 1024, .inl fr)), (aU, .inl (cZ, 1024, .inl fu))] sz)) 0 0 (va_A [(mo, .inr (4, [.int th, .ref aS, .ref aA, .ref aB, .ref aT, .ref aU, .int (nI M.length), .ref aO, .int (nI O.length), .ref aI, .int (nI I.length), .ref bS, .ref bA, .ref bB, .ref bT, .ref bU, .int nm, .int pp, .int ft, .int pl, .int va, .int vb])), (aA, .inl (cI, 1024, .inl fa)), (aB, .inl (cI, 1024, .inl fs)), (aT, .inl (cI, 1024, .inl fr)), (aU, .inl (cZ, 1024, .inl fu))] sz) := by
  refine Met.ofW (cc := prog_7_method_7_code) (maxL := 4) (ret := (some .int)) (by decide) rfl ?_
  intro p e s m args below meth c s₁ B hml hv
  obtain ⟨rfl, hsz, hP, hK, hD0⟩ := hv
  have hx := B.exec
  have hb := B.bytes
  have hr := B.returns
  have hts := fun w h => atoms_spec (ws := w_Mo_again) B.pre w (List.mem_cons_of_mem _ h)
  have hown : s.vm.findClass "DemoTapeModel" = some m.cls := findClass_of_methodNamed B.named
  have hlocks := B.notSynchronized
  subst hsz
  have hD := hD0.self (sz := s.heap.size)
  generalize hAe : va_A ([(mo, .inr (4, [.int th, .ref aS, .ref aA, .ref aB, .ref aT, .ref aU, .int (nI M.length), .ref aO, .int (nI O.length), .ref aI, .int (nI I.length), .ref bS, .ref bA, .ref bB, .ref bT, .ref bU, .int nm, .int pp, .int ft, .int pl, .int va, .int vb])), (aA, .inl (cI, 1024, .inl fa)), (aB, .inl (cI, 1024, .inl fs)), (aT, .inl (cI, 1024, .inl fr)), (aU, .inl (cZ, 1024, .inl fu))] : va_W) s.heap.size = A at hD ⊢
  have hA : ∀ q : Nat, s.heap.size ≤ q → A q := fun q h => by rw [← hAe]; exact Or.inr h
  have hS : va_S A s.heap s.heap [] := va_S.rf
  have hP : va_P (dC, dI) classes [(mo, .inr (4, [.int th, .ref aS, .ref aA, .ref aB, .ref aT, .ref aU, .int (nI M.length), .ref aO, .int (nI O.length), .ref aI, .int (nI I.length), .ref bS, .ref bA, .ref bB, .ref bT, .ref bU, .int nm, .int pp, .int ft, .int pl, .int va, .int vb])), (aA, .inl (cI, 1024, .inl fa)), (aB, .inl (cI, 1024, .inl fs)), (aT, .inl (cI, 1024, .inl fr)), (aU, .inl (cZ, 1024, .inl fu))] s.heap := hP
  have hM := hR.2.2
  have hl := lv_entry ([.ref mo, .int pi, .int pn]) (n := 4) (Nat.le_of_ble_eq_true rfl)
  rw [lg_entry_eq]
  generalize (lg_sl ([.ref mo, .int pi, .int pn]) ++ List.replicate (4 - (lg_sl ([.ref mo, .int pi, .int pn])).length) Slot.unset).toArray = ls at hl ⊢
  have hl : lv_has ls 4 [(0, .ref mo), (1, .int pi), (2, .int pn)] := hl
  have J_48 : ∀ (fuel : Nat) (i : Nat) (k : Nat) (j : Nat) (ha : Nat → Int32) (hs : Nat → Int32) (hr_ : Nat → Int32) (hu_ : Nat → Int32), (k - j < fuel) → (pi = nI i) → (pn = nI k) → (kAgOk M (nI i) (nI k)) → (i + k ≤ M.length) → (M.length + k ≤ 1024) → (j ≤ k) → (MRow ha hs hr_ hu_ (M ++ (M.drop i).take j)) → ∀ (H : Heap) (locs : List Loc), va_P (dC, dI) classes [(mo, .inr (4, [.int 0, .ref aS, .ref aA, .ref aB, .ref aT, .ref aU, .int (nI (M ++ (M.drop i).take j).length), .ref aO, .int (nI O.length), .ref aI, .int (nI I.length), .ref bS, .ref bA, .ref bB, .ref bT, .ref bU, .int nm, .int pp, .int ft, .int pl, .int va, .int vb])), (aA, .inl (cI, 1024, .inl ha)), (aB, .inl (cI, 1024, .inl hs)), (aT, .inl (cI, 1024, .inl hr_)), (aU, .inl (cZ, 1024, .inl hu_))] H → va_D A [(mo, .inr (4, [.int 0, .ref aS, .ref aA, .ref aB, .ref aT, .ref aU, .int (nI (M ++ (M.drop i).take j).length), .ref aO, .int (nI O.length), .ref aI, .int (nI I.length), .ref bS, .ref bA, .ref bB, .ref bT, .ref bU, .int nm, .int pp, .int ft, .int pl, .int va, .int vb])), (aA, .inl (cI, 1024, .inl ha)), (aB, .inl (cI, 1024, .inl hs)), (aT, .inl (cI, 1024, .inl hr_)), (aU, .inl (cZ, 1024, .inl hu_))] → va_S A s.heap H locs → ∀ (ls : Array Slot), lv_has ls 4 [(0, .ref mo), (1, .int (nI i)), (2, .int (nI k)), (3, .int (nI j))] → W p l e (headSpec w_Mo_again ({ frames := 0, cells := 0, slots := 0, locals := 0 })).room s m [.ref mo, .int pi, .int pn].toArray below meth c H locs 0 0 (MQ below (Qc_Mo_again dC dI cI cB cZ mo th aS aA aB aT aU M aO O aI I bS bA bB bT bU nm pp ft pl va vb fa fs fr fu pi pn A) [.ref mo, .int pi, .int pn].toArray s 0 0 A) (F0 m 48 ls []) := by
    intro fuel
    induction fuel with
    | zero => intro i k j ha hs hr_ hu_ hm; exact absurd hm (Nat.not_lt_zero _)
    | succ fuel ih_48 =>
      intro i k j ha hs hr_ hu_ hm hpi hpn ok hik hk2 hj hR2 H locs hP hD hS ls hl
      refine lv_iload_n hx hb d_Mo_again_48 rfl (lv_at hl 3 rfl) ?_
      refine lv_iload_n hx hb d_Mo_again_49 rfl (lv_at hl 2 rfl) ?_
      refine lv_icmp_ge (tgt := 137) hx hb d_Mo_again_50 (by decide) (fun c_50 => ?_) (fun c_50 => ?_)
      · have n_50 := kn_le (a := k) (b := j) c_50 rfl rfl (by omega) (by omega)
        obtain rfl : k = j := by omega
        refine lv_aload_n hx hb d_Mo_again_137 rfl (lv_at hl 0 rfl) ?_
        refine va_get (D := (dC, dI)) (ci := 4) (v := .int (nI (M ++ (M.drop i).take k).length)) (C := "DemoTapeModel") (T := F_Mo) (N := 22) hx hb hts i_Mo hown hK hP 0 rfl rfl 6 (by decide) (hts _ mw390) (fun _ h9 => h9) rfl d_Mo_again_138 ?_
        subst hpi
        subst hpn
        exact kr_i (v := nI (M ++ (M.drop i).take k).length) (ha, hs, hr_, hu_, (M ++ (M.drop i).take k)) hx hb hr rfl hK (hP.sub [0, 1, 2, 3, 4] (rfl)) (hD.sub [0, 1, 2, 3, 4] (by decide) (rfl)) hS ⟨(if_pos ok).symm, by dsimp only; rw [if_pos ok, nI_clamp (by omega), nI_clamp (by omega)], hR2⟩ d_Mo_again_141 hlocks
      · have n_50 := kn_nle (a := k) (b := j) c_50 rfl rfl (by omega) (by omega)
        have hq := hR2.at (j := i + j) (by simp only [List.length_append, List.length_take, List.length_drop]; omega)
        rw [List.getElem?_append_left (by omega)] at hq
        have hu01 := kUse_01 ((M[i + j]?).getD (-1))
        have hq4 : vp_nar .boolean (hu_ (i + j)) = kUse ((M[i + j]?).getD (-1)) := by rw [hq.2.2.2]; exact nar_b01 hu01
        have hq := (⟨hq.1, hq.2.1, hq.2.2.1, hq4⟩ : ha (i + j) = _ ∧ hs (i + j) = _ ∧ hr_ (i + j) = _ ∧ vp_nar .boolean (hu_ (i + j)) = _)
        refine lv_aload_n hx hb d_Mo_again_53 rfl (lv_at hl 0 rfl) ?_
        refine va_get (D := (dC, dI)) (ci := 4) (v := .ref aA) (C := "DemoTapeModel") (T := F_Mo) (N := 22) hx hb hts i_Mo hown hK hP 0 rfl rfl 2 (by decide) (hts _ mw386) (fun _ h9 => h9) rfl d_Mo_again_54 ?_
        refine lv_aload_n hx hb d_Mo_again_57 rfl (lv_at hl 0 rfl) ?_
        refine va_get (D := (dC, dI)) (ci := 4) (v := .int (nI (M ++ (M.drop i).take j).length)) (C := "DemoTapeModel") (T := F_Mo) (N := 22) hx hb hts i_Mo hown hK hP 0 rfl rfl 6 (by decide) (hts _ mw390) (fun _ h9 => h9) rfl d_Mo_again_58 ?_
        refine lv_aload_n hx hb d_Mo_again_61 rfl (lv_at hl 0 rfl) ?_
        refine va_get (D := (dC, dI)) (ci := 4) (v := .ref aA) (C := "DemoTapeModel") (T := F_Mo) (N := 22) hx hb hts i_Mo hown hK hP 0 rfl rfl 2 (by decide) (hts _ mw386) (fun _ h9 => h9) rfl d_Mo_again_62 ?_
        refine lv_iload_n hx hb d_Mo_again_65 rfl (lv_at hl 1 rfl) ?_
        refine lv_iload_n hx hb d_Mo_again_66 rfl (lv_at hl 3 rfl) ?_
        refine lv_iadd hx hb d_Mo_again_67 ?_
        refine kt_i (y := nI (i + j)) (nI_add _ _) ?_
        refine kt_iald (j := i + j) hx hb hK hP 1 0 rfl rfl (by omega) (by decide) d_Mo_again_68 ?_
        refine kt_iast (j := (M ++ (M.drop i).take j).length) hx hb hK hP hD hS 1 0 rfl rfl (by simp only [List.length_append, List.length_take, List.length_drop]; omega) (by decide) d_Mo_again_69 (fun H locs hP hD hS => ?_)
        have hP : va_P (dC, dI) classes [(mo, .inr (4, [.int 0, .ref aS, .ref aA, .ref aB, .ref aT, .ref aU, .int (nI (M ++ (M.drop i).take j).length), .ref aO, .int (nI O.length), .ref aI, .int (nI I.length), .ref bS, .ref bA, .ref bB, .ref bT, .ref bU, .int nm, .int pp, .int ft, .int pl, .int va, .int vb])), (aA, .inl (cI, 1024, .inl (upd ha (M ++ (M.drop i).take j).length (ha (i + j))))), (aB, .inl (cI, 1024, .inl hs)), (aT, .inl (cI, 1024, .inl hr_)), (aU, .inl (cZ, 1024, .inl hu_))] H := hP
        have hD : va_D A [(mo, .inr (4, [.int 0, .ref aS, .ref aA, .ref aB, .ref aT, .ref aU, .int (nI (M ++ (M.drop i).take j).length), .ref aO, .int (nI O.length), .ref aI, .int (nI I.length), .ref bS, .ref bA, .ref bB, .ref bT, .ref bU, .int nm, .int pp, .int ft, .int pl, .int va, .int vb])), (aA, .inl (cI, 1024, .inl (upd ha (M ++ (M.drop i).take j).length (ha (i + j))))), (aB, .inl (cI, 1024, .inl hs)), (aT, .inl (cI, 1024, .inl hr_)), (aU, .inl (cZ, 1024, .inl hu_))] := hD
        refine lv_aload_n hx hb d_Mo_again_70 rfl (lv_at hl 0 rfl) ?_
        refine va_get (D := (dC, dI)) (ci := 4) (v := .ref aB) (C := "DemoTapeModel") (T := F_Mo) (N := 22) hx hb hts i_Mo hown hK hP 0 rfl rfl 3 (by decide) (hts _ mw387) (fun _ h9 => h9) rfl d_Mo_again_71 ?_
        refine lv_aload_n hx hb d_Mo_again_74 rfl (lv_at hl 0 rfl) ?_
        refine va_get (D := (dC, dI)) (ci := 4) (v := .int (nI (M ++ (M.drop i).take j).length)) (C := "DemoTapeModel") (T := F_Mo) (N := 22) hx hb hts i_Mo hown hK hP 0 rfl rfl 6 (by decide) (hts _ mw390) (fun _ h9 => h9) rfl d_Mo_again_75 ?_
        refine lv_aload_n hx hb d_Mo_again_78 rfl (lv_at hl 0 rfl) ?_
        refine va_get (D := (dC, dI)) (ci := 4) (v := .ref aB) (C := "DemoTapeModel") (T := F_Mo) (N := 22) hx hb hts i_Mo hown hK hP 0 rfl rfl 3 (by decide) (hts _ mw387) (fun _ h9 => h9) rfl d_Mo_again_79 ?_
        refine lv_iload_n hx hb d_Mo_again_82 rfl (lv_at hl 1 rfl) ?_
        refine lv_iload_n hx hb d_Mo_again_83 rfl (lv_at hl 3 rfl) ?_
        refine lv_iadd hx hb d_Mo_again_84 ?_
        refine kt_i (y := nI (i + j)) (nI_add _ _) ?_
        refine kt_iald (j := i + j) hx hb hK hP 2 0 rfl rfl (by omega) (by decide) d_Mo_again_85 ?_
        refine kt_iast (j := (M ++ (M.drop i).take j).length) hx hb hK hP hD hS 2 0 rfl rfl (by simp only [List.length_append, List.length_take, List.length_drop]; omega) (by decide) d_Mo_again_86 (fun H locs hP hD hS => ?_)
        have hP : va_P (dC, dI) classes [(mo, .inr (4, [.int 0, .ref aS, .ref aA, .ref aB, .ref aT, .ref aU, .int (nI (M ++ (M.drop i).take j).length), .ref aO, .int (nI O.length), .ref aI, .int (nI I.length), .ref bS, .ref bA, .ref bB, .ref bT, .ref bU, .int nm, .int pp, .int ft, .int pl, .int va, .int vb])), (aA, .inl (cI, 1024, .inl (upd ha (M ++ (M.drop i).take j).length (ha (i + j))))), (aB, .inl (cI, 1024, .inl (upd hs (M ++ (M.drop i).take j).length (hs (i + j))))), (aT, .inl (cI, 1024, .inl hr_)), (aU, .inl (cZ, 1024, .inl hu_))] H := hP
        have hD : va_D A [(mo, .inr (4, [.int 0, .ref aS, .ref aA, .ref aB, .ref aT, .ref aU, .int (nI (M ++ (M.drop i).take j).length), .ref aO, .int (nI O.length), .ref aI, .int (nI I.length), .ref bS, .ref bA, .ref bB, .ref bT, .ref bU, .int nm, .int pp, .int ft, .int pl, .int va, .int vb])), (aA, .inl (cI, 1024, .inl (upd ha (M ++ (M.drop i).take j).length (ha (i + j))))), (aB, .inl (cI, 1024, .inl (upd hs (M ++ (M.drop i).take j).length (hs (i + j))))), (aT, .inl (cI, 1024, .inl hr_)), (aU, .inl (cZ, 1024, .inl hu_))] := hD
        refine lv_aload_n hx hb d_Mo_again_87 rfl (lv_at hl 0 rfl) ?_
        refine va_get (D := (dC, dI)) (ci := 4) (v := .ref aT) (C := "DemoTapeModel") (T := F_Mo) (N := 22) hx hb hts i_Mo hown hK hP 0 rfl rfl 4 (by decide) (hts _ mw388) (fun _ h9 => h9) rfl d_Mo_again_88 ?_
        refine lv_aload_n hx hb d_Mo_again_91 rfl (lv_at hl 0 rfl) ?_
        refine va_get (D := (dC, dI)) (ci := 4) (v := .int (nI (M ++ (M.drop i).take j).length)) (C := "DemoTapeModel") (T := F_Mo) (N := 22) hx hb hts i_Mo hown hK hP 0 rfl rfl 6 (by decide) (hts _ mw390) (fun _ h9 => h9) rfl d_Mo_again_92 ?_
        refine lv_aload_n hx hb d_Mo_again_95 rfl (lv_at hl 0 rfl) ?_
        refine va_get (D := (dC, dI)) (ci := 4) (v := .ref aT) (C := "DemoTapeModel") (T := F_Mo) (N := 22) hx hb hts i_Mo hown hK hP 0 rfl rfl 4 (by decide) (hts _ mw388) (fun _ h9 => h9) rfl d_Mo_again_96 ?_
        refine lv_iload_n hx hb d_Mo_again_99 rfl (lv_at hl 1 rfl) ?_
        refine lv_iload_n hx hb d_Mo_again_100 rfl (lv_at hl 3 rfl) ?_
        refine lv_iadd hx hb d_Mo_again_101 ?_
        refine kt_i (y := nI (i + j)) (nI_add _ _) ?_
        refine kt_iald (j := i + j) hx hb hK hP 3 0 rfl rfl (by omega) (by decide) d_Mo_again_102 ?_
        refine kt_iast (j := (M ++ (M.drop i).take j).length) hx hb hK hP hD hS 3 0 rfl rfl (by simp only [List.length_append, List.length_take, List.length_drop]; omega) (by decide) d_Mo_again_103 (fun H locs hP hD hS => ?_)
        have hP : va_P (dC, dI) classes [(mo, .inr (4, [.int 0, .ref aS, .ref aA, .ref aB, .ref aT, .ref aU, .int (nI (M ++ (M.drop i).take j).length), .ref aO, .int (nI O.length), .ref aI, .int (nI I.length), .ref bS, .ref bA, .ref bB, .ref bT, .ref bU, .int nm, .int pp, .int ft, .int pl, .int va, .int vb])), (aA, .inl (cI, 1024, .inl (upd ha (M ++ (M.drop i).take j).length (ha (i + j))))), (aB, .inl (cI, 1024, .inl (upd hs (M ++ (M.drop i).take j).length (hs (i + j))))), (aT, .inl (cI, 1024, .inl (upd hr_ (M ++ (M.drop i).take j).length (hr_ (i + j))))), (aU, .inl (cZ, 1024, .inl hu_))] H := hP
        have hD : va_D A [(mo, .inr (4, [.int 0, .ref aS, .ref aA, .ref aB, .ref aT, .ref aU, .int (nI (M ++ (M.drop i).take j).length), .ref aO, .int (nI O.length), .ref aI, .int (nI I.length), .ref bS, .ref bA, .ref bB, .ref bT, .ref bU, .int nm, .int pp, .int ft, .int pl, .int va, .int vb])), (aA, .inl (cI, 1024, .inl (upd ha (M ++ (M.drop i).take j).length (ha (i + j))))), (aB, .inl (cI, 1024, .inl (upd hs (M ++ (M.drop i).take j).length (hs (i + j))))), (aT, .inl (cI, 1024, .inl (upd hr_ (M ++ (M.drop i).take j).length (hr_ (i + j))))), (aU, .inl (cZ, 1024, .inl hu_))] := hD
        refine lv_aload_n hx hb d_Mo_again_104 rfl (lv_at hl 0 rfl) ?_
        refine va_get (D := (dC, dI)) (ci := 4) (v := .ref aU) (C := "DemoTapeModel") (T := F_Mo) (N := 22) hx hb hts i_Mo hown hK hP 0 rfl rfl 5 (by decide) (hts _ mw389) (fun _ h9 => h9) rfl d_Mo_again_105 ?_
        refine lv_aload_n hx hb d_Mo_again_108 rfl (lv_at hl 0 rfl) ?_
        refine va_get (D := (dC, dI)) (ci := 4) (v := .int (nI (M ++ (M.drop i).take j).length)) (C := "DemoTapeModel") (T := F_Mo) (N := 22) hx hb hts i_Mo hown hK hP 0 rfl rfl 6 (by decide) (hts _ mw390) (fun _ h9 => h9) rfl d_Mo_again_109 ?_
        refine lv_aload_n hx hb d_Mo_again_112 rfl (lv_at hl 0 rfl) ?_
        refine va_get (D := (dC, dI)) (ci := 4) (v := .ref aU) (C := "DemoTapeModel") (T := F_Mo) (N := 22) hx hb hts i_Mo hown hK hP 0 rfl rfl 5 (by decide) (hts _ mw389) (fun _ h9 => h9) rfl d_Mo_again_113 ?_
        refine lv_iload_n hx hb d_Mo_again_116 rfl (lv_at hl 1 rfl) ?_
        refine lv_iload_n hx hb d_Mo_again_117 rfl (lv_at hl 3 rfl) ?_
        refine lv_iadd hx hb d_Mo_again_118 ?_
        refine kt_i (y := nI (i + j)) (nI_add _ _) ?_
        refine kt_zald (j := i + j) hx hb hK hP 4 2 rfl rfl (by omega) (by decide) d_Mo_again_119 ?_
        refine kt_zast (j := (M ++ (M.drop i).take j).length) hx hb hK hP hD hS 4 2 rfl rfl (by simp only [List.length_append, List.length_take, List.length_drop]; omega) (by decide) d_Mo_again_120 (fun H locs hP hD hS => ?_)
        have hP : va_P (dC, dI) classes [(mo, .inr (4, [.int 0, .ref aS, .ref aA, .ref aB, .ref aT, .ref aU, .int (nI (M ++ (M.drop i).take j).length), .ref aO, .int (nI O.length), .ref aI, .int (nI I.length), .ref bS, .ref bA, .ref bB, .ref bT, .ref bU, .int nm, .int pp, .int ft, .int pl, .int va, .int vb])), (aA, .inl (cI, 1024, .inl (upd ha (M ++ (M.drop i).take j).length (ha (i + j))))), (aB, .inl (cI, 1024, .inl (upd hs (M ++ (M.drop i).take j).length (hs (i + j))))), (aT, .inl (cI, 1024, .inl (upd hr_ (M ++ (M.drop i).take j).length (hr_ (i + j))))), (aU, .inl (cZ, 1024, .inl (upd hu_ (M ++ (M.drop i).take j).length (vp_nar .boolean (hu_ (i + j))))))] H := hP
        have hD : va_D A [(mo, .inr (4, [.int 0, .ref aS, .ref aA, .ref aB, .ref aT, .ref aU, .int (nI (M ++ (M.drop i).take j).length), .ref aO, .int (nI O.length), .ref aI, .int (nI I.length), .ref bS, .ref bA, .ref bB, .ref bT, .ref bU, .int nm, .int pp, .int ft, .int pl, .int va, .int vb])), (aA, .inl (cI, 1024, .inl (upd ha (M ++ (M.drop i).take j).length (ha (i + j))))), (aB, .inl (cI, 1024, .inl (upd hs (M ++ (M.drop i).take j).length (hs (i + j))))), (aT, .inl (cI, 1024, .inl (upd hr_ (M ++ (M.drop i).take j).length (hr_ (i + j))))), (aU, .inl (cZ, 1024, .inl (upd hu_ (M ++ (M.drop i).take j).length (vp_nar .boolean (hu_ (i + j))))))] := hD
        refine lv_aload_n hx hb d_Mo_again_121 rfl (lv_at hl 0 rfl) ?_
        refine lv_dup hx hb d_Mo_again_122 rfl ?_
        refine va_get (D := (dC, dI)) (ci := 4) (v := .int (nI (M ++ (M.drop i).take j).length)) (C := "DemoTapeModel") (T := F_Mo) (N := 22) hx hb hts i_Mo hown hK hP 0 rfl rfl 6 (by decide) (hts _ mw390) (fun _ h9 => h9) rfl d_Mo_again_123 ?_
        refine lv_iconst (v := 1) hx hb d_Mo_again_126 (by decide) ?_
        refine lv_iadd hx hb d_Mo_again_127 ?_
        refine kt_i (y := nI (M ++ (M.drop i).take (j + 1)).length) (by rw [← kTake_succ (by omega), List.length_append (bs := List.replicate _ _), List.length_replicate]; exact nI_1 _) ?_
        refine va_put (D := (dC, dI)) (ci := 4) (v := .int (nI (M ++ (M.drop i).take (j + 1)).length)) (ty := .int) (C := "DemoTapeModel") (T := F_Mo) (N := 22) hx hb hts i_Mo t_Mo t_Mo_ok n_Mo hown hK hP hD hS 0 rfl rfl 6 (by decide) (hts _ mw390) (fun _ h9 => h9) rfl (by decide +kernel) rfl rfl (Nat.le_of_ble_eq_true rfl) d_Mo_again_128 (fun H locs hP hD hS => ?_)
        have hP : va_P (dC, dI) classes [(mo, .inr (4, [.int 0, .ref aS, .ref aA, .ref aB, .ref aT, .ref aU, .int (nI (M ++ (M.drop i).take (j + 1)).length), .ref aO, .int (nI O.length), .ref aI, .int (nI I.length), .ref bS, .ref bA, .ref bB, .ref bT, .ref bU, .int nm, .int pp, .int ft, .int pl, .int va, .int vb])), (aA, .inl (cI, 1024, .inl (upd ha (M ++ (M.drop i).take j).length (ha (i + j))))), (aB, .inl (cI, 1024, .inl (upd hs (M ++ (M.drop i).take j).length (hs (i + j))))), (aT, .inl (cI, 1024, .inl (upd hr_ (M ++ (M.drop i).take j).length (hr_ (i + j))))), (aU, .inl (cZ, 1024, .inl (upd hu_ (M ++ (M.drop i).take j).length (vp_nar .boolean (hu_ (i + j))))))] H := hP
        have hD : va_D A [(mo, .inr (4, [.int 0, .ref aS, .ref aA, .ref aB, .ref aT, .ref aU, .int (nI (M ++ (M.drop i).take (j + 1)).length), .ref aO, .int (nI O.length), .ref aI, .int (nI I.length), .ref bS, .ref bA, .ref bB, .ref bT, .ref bU, .int nm, .int pp, .int ft, .int pl, .int va, .int vb])), (aA, .inl (cI, 1024, .inl (upd ha (M ++ (M.drop i).take j).length (ha (i + j))))), (aB, .inl (cI, 1024, .inl (upd hs (M ++ (M.drop i).take j).length (hs (i + j))))), (aT, .inl (cI, 1024, .inl (upd hr_ (M ++ (M.drop i).take j).length (hr_ (i + j))))), (aU, .inl (cZ, 1024, .inl (upd hu_ (M ++ (M.drop i).take j).length (vp_nar .boolean (hu_ (i + j))))))] := hD
        refine lv_iinc (v := nI (j + 1)) (lv' := [(3, .int (nI (j + 1))), (0, .ref mo), (1, .int (nI i)), (2, .int (nI k))]) hx hb d_Mo_again_131 hl (k := 3) rfl (by first | rfl | exact nI_1 _) (by decide) rfl (fun ls hl => ?_)
        refine lv_goto (tgt := 48) hx hb d_Mo_again_134 (by decide) ?_
        exact ih_48 i k (j + 1) (upd ha (M ++ (M.drop i).take j).length (ha (i + j))) (upd hs (M ++ (M.drop i).take j).length (hs (i + j))) (upd hr_ (M ++ (M.drop i).take j).length (hr_ (i + j))) (upd hu_ (M ++ (M.drop i).take j).length (vp_nar .boolean (hu_ (i + j)))) (by omega) (hpi) (hpn) (ok) (by first | with_reducible assumption | omega) (by first | with_reducible assumption | omega) (by first | with_reducible assumption | omega) (by have h9 := hR2.push (hR.ok (j := i + j) (by omega)) (by simp only [List.length_append, List.length_take, List.length_drop]; omega) hq.1 hq.2.1 hq.2.2.1 hq.2.2.2; rw [← kTake_succ (by omega)]; exact h9) _ _ (hP.sub [0, 1, 2, 3, 4] (rfl)) (hD.sub [0, 1, 2, 3, 4] (by decide) (rfl)) hS ls (lv_sub hl [1, 2, 3, 0] rfl)
  refine lv_aload_n hx hb d_Mo_again_0 rfl (lv_at hl 0 rfl) ?_
  refine lv_iconst (v := 0) hx hb d_Mo_again_1 (by decide) ?_
  refine va_put (D := (dC, dI)) (ci := 4) (v := .int 0) (ty := .int) (C := "DemoTapeModel") (T := F_Mo) (N := 22) hx hb hts i_Mo t_Mo t_Mo_ok n_Mo hown hK hP hD hS 0 rfl rfl 0 (by decide) (hts _ mw384) (fun _ h9 => h9) rfl (by decide +kernel) rfl rfl (Nat.le_of_ble_eq_true rfl) d_Mo_again_2 (fun H locs hP hD hS => ?_)
  have hP : va_P (dC, dI) classes [(mo, .inr (4, [.int 0, .ref aS, .ref aA, .ref aB, .ref aT, .ref aU, .int (nI M.length), .ref aO, .int (nI O.length), .ref aI, .int (nI I.length), .ref bS, .ref bA, .ref bB, .ref bT, .ref bU, .int nm, .int pp, .int ft, .int pl, .int va, .int vb])), (aA, .inl (cI, 1024, .inl fa)), (aB, .inl (cI, 1024, .inl fs)), (aT, .inl (cI, 1024, .inl fr)), (aU, .inl (cZ, 1024, .inl fu))] H := hP
  have hD : va_D A [(mo, .inr (4, [.int 0, .ref aS, .ref aA, .ref aB, .ref aT, .ref aU, .int (nI M.length), .ref aO, .int (nI O.length), .ref aI, .int (nI I.length), .ref bS, .ref bA, .ref bB, .ref bT, .ref bU, .int nm, .int pp, .int ft, .int pl, .int va, .int vb])), (aA, .inl (cI, 1024, .inl fa)), (aB, .inl (cI, 1024, .inl fs)), (aT, .inl (cI, 1024, .inl fr)), (aU, .inl (cZ, 1024, .inl fu))] := hD
  refine lv_iload_n hx hb d_Mo_again_5 rfl (lv_at hl 1 rfl) ?_
  refine lv_if_lt (tgt := 44) hx hb d_Mo_again_6 (by decide) (fun c_6 => ?_) (fun c_6 => ?_)
  · refine lv_iconst (v := -1) hx hb d_Mo_again_44 (by decide) ?_
    exact kr_i (v := -1) (fa, fs, fr, fu, M) hx hb hr rfl hK (hP.sub [0, 1, 2, 3, 4] (rfl)) (hD.sub [0, 1, 2, 3, 4] (by decide) (rfl)) hS ⟨(if_neg (fun z => z.1 (kIn_lo c_6))).symm, (if_neg (fun z => z.1 (kIn_lo c_6))).symm, hR⟩ d_Mo_again_45 hlocks
  · refine lv_iload_n hx hb d_Mo_again_9 rfl (lv_at hl 2 rfl) ?_
    refine lv_iconst (v := 1) hx hb d_Mo_again_10 (by decide) ?_
    refine lv_icmp_lt (tgt := 44) hx hb d_Mo_again_11 (by decide) (fun c_11 => ?_) (fun c_11 => ?_)
    · refine lv_iconst (v := -1) hx hb d_Mo_again_44 (by decide) ?_
      exact kr_i (v := -1) (fa, fs, fr, fu, M) hx hb hr rfl hK (hP.sub [0, 1, 2, 3, 4] (rfl)) (hD.sub [0, 1, 2, 3, 4] (by decide) (rfl)) hS ⟨(if_neg (fun z => z.2.1 (kIn_lo c_11))).symm, (if_neg (fun z => z.2.1 (kIn_lo c_11))).symm, hR⟩ d_Mo_again_45 hlocks
    · refine lv_iload_n hx hb d_Mo_again_14 rfl (lv_at hl 1 rfl) ?_
      refine lv_aload_n hx hb d_Mo_again_15 rfl (lv_at hl 0 rfl) ?_
      refine va_get (D := (dC, dI)) (ci := 4) (v := .int (nI M.length)) (C := "DemoTapeModel") (T := F_Mo) (N := 22) hx hb hts i_Mo hown hK hP 0 rfl rfl 6 (by decide) (hts _ mw390) (fun _ h9 => h9) rfl d_Mo_again_16 ?_
      refine lv_iload_n hx hb d_Mo_again_19 rfl (lv_at hl 2 rfl) ?_
      refine lv_isub hx hb d_Mo_again_20 ?_
      refine lv_icmp_gt (tgt := 44) hx hb d_Mo_again_21 (by decide) (fun c_21 => ?_) (fun c_21 => ?_)
      · refine lv_iconst (v := -1) hx hb d_Mo_again_44 (by decide) ?_
        exact kr_i (v := -1) (fa, fs, fr, fu, M) hx hb hr rfl hK (hP.sub [0, 1, 2, 3, 4] (rfl)) (hD.sub [0, 1, 2, 3, 4] (by decide) (rfl)) hS ⟨(if_neg (kAg_no1 hM c_6 c_11 c_21)).symm, (if_neg (kAg_no1 hM c_6 c_11 c_21)).symm, hR⟩ d_Mo_again_45 hlocks
      · obtain ⟨i, k, hk1, hik, rfl, rfl⟩ := kAg_in hM c_6 c_11 c_21
        refine lv_iload_n hx hb d_Mo_again_24 rfl (lv_at hl 2 rfl) ?_
        refine lv_aload_n hx hb d_Mo_again_25 rfl (lv_at hl 0 rfl) ?_
        refine va_get (D := (dC, dI)) (ci := 4) (v := .int (nI M.length)) (C := "DemoTapeModel") (T := F_Mo) (N := 22) hx hb hts i_Mo hown hK hP 0 rfl rfl 6 (by decide) (hts _ mw390) (fun _ h9 => h9) rfl d_Mo_again_26 ?_
        refine lv_icmp_gt (tgt := 44) hx hb d_Mo_again_29 (by decide) (fun c_29 => ?_) (fun c_29 => ?_)
        · have n_29 := kn_lt (a := M.length) (b := k) c_29 rfl rfl (by omega) (by omega)
          refine lv_iconst (v := -1) hx hb d_Mo_again_44 (by decide) ?_
          exact kr_i (v := -1) (fa, fs, fr, fu, M) hx hb hr rfl hK (hP.sub [0, 1, 2, 3, 4] (rfl)) (hD.sub [0, 1, 2, 3, 4] (by decide) (rfl)) hS ⟨(if_neg (fun z => absurd n_29 (by omega))).symm, (if_neg (fun z => absurd n_29 (by omega))).symm, hR⟩ d_Mo_again_45 hlocks
        · have n_29 := kn_nlt (a := M.length) (b := k) c_29 rfl rfl (by omega) (by omega)
          refine lv_aload_n hx hb d_Mo_again_32 rfl (lv_at hl 0 rfl) ?_
          refine va_get (D := (dC, dI)) (ci := 4) (v := .int (nI M.length)) (C := "DemoTapeModel") (T := F_Mo) (N := 22) hx hb hts i_Mo hown hK hP 0 rfl rfl 6 (by decide) (hts _ mw390) (fun _ h9 => h9) rfl d_Mo_again_33 ?_
          refine lv_iload_n hx hb d_Mo_again_36 rfl (lv_at hl 2 rfl) ?_
          refine lv_iadd hx hb d_Mo_again_37 ?_
          refine kt_i (y := nI (M.length + k)) (nI_add _ _) ?_
          refine lv_sipush (v := 1024) hx hb d_Mo_again_38 (by decide) ?_
          refine lv_icmp_le (tgt := 46) hx hb d_Mo_again_41 (by decide) (fun c_41 => ?_) (fun c_41 => ?_)
          · have n_41 := kn_le (a := M.length + k) (b := 1024) c_41 rfl rfl (by omega) (by omega)
            refine lv_iconst (v := 0) hx hb d_Mo_again_46 (by decide) ?_
            refine lv_istore_n (lv' := [(3, .int 0), (0, .ref mo), (1, .int (nI i)), (2, .int (nI k))]) hx hb d_Mo_again_47 rfl hl (by decide) rfl (fun ls hl => ?_)
            exact J_48 _ i k 0 fa fs fr fu (Nat.lt_succ_self _) (rfl) (rfl) (kAg_ok (by omega) hk1 (by omega) (by omega)) (by first | with_reducible assumption | omega) (by first | with_reducible assumption | omega) (by first | with_reducible assumption | omega) (by rw [kTake_0]; exact hR) _ _ (hP.sub [0, 1, 2, 3, 4] (by rw [kTake_0]; rfl)) (hD.sub [0, 1, 2, 3, 4] (by decide) (by rw [kTake_0]; rfl)) hS ls (lv_sub hl [1, 2, 3, 0] rfl)
          · have n_41 := kn_nle (a := M.length + k) (b := 1024) c_41 rfl rfl (by omega) (by omega)
            refine lv_iconst (v := -1) hx hb d_Mo_again_44 (by decide) ?_
            exact kr_i (v := -1) (fa, fs, fr, fu, M) hx hb hr rfl hK (hP.sub [0, 1, 2, 3, 4] (rfl)) (hD.sub [0, 1, 2, 3, 4] (by decide) (rfl)) hS ⟨(if_neg (fun z => absurd (kn_le z.2.2 rfl rfl (by omega) (by omega)) (by omega))).symm, (if_neg (fun z => absurd (kn_le z.2.2 rfl rfl (by omega) (by omega)) (by omega))).symm, hR⟩ d_Mo_again_45 hlocks
abbrev Qc_Mo_cut (dC : Nat → ClassId) (dI : Nat → Nat → Nat) (cI cB cZ : ClassId) (mo : Nat) (th : Int32) (aS : Nat) (aA : Nat) (aB : Nat) (aT : Nat) (aU : Nat) (M : List Int32) (aO : Nat) (O : List Nat) (aI : Nat) (I : List Nat) (bS : Nat) (bA : Nat) (bB : Nat) (bT : Nat) (bU : Nat) (nm : Int32) (pp : Int32) (ft : Int32) (pl : Int32) (va : Int32) (vb : Int32) (fi : Nat → Int32) (pn : Int32) (A : Nat → Prop) := va_Qi (fun (r9 : Int32) (u9 : List Nat) => (r9 = if kIn pn 0 (nI I.length) = 0 then 0 else 1) ∧ (u9 = if kIn pn 0 (nI I.length) = 0 then I else I.take pn.toNatClampNeg) ∧ (NRow 8192 fi u9)) (ka (dC, dI) classes [(cI, .int), (cB, .byte), (cZ, .boolean)] (fun (u9 : List Nat) => [(mo, .inr (4, [.int 0, .ref aS, .ref aA, .ref aB, .ref aT, .ref aU, .int (nI M.length), .ref aO, .int (nI O.length), .ref aI, .int (nI u9.length), .ref bS, .ref bA, .ref bB, .ref bT, .ref bU, .int nm, .int pp, .int ft, .int pl, .int va, .int vb])), (aI, .inl (cI, 8192, .inl fi))]) A) A
set_option maxHeartbeats 1000000 in
set_option maxRecDepth 100000 in
/-- Model.cut -/
theorem c_Mo_cut (l : Launch) (dC : Nat → ClassId) (dI : Nat → Nat → Nat) (cI cB cZ : ClassId) (sz : Nat) (mo : Nat) (th : Int32) (aS : Nat) (aA : Nat) (aB : Nat) (aT : Nat) (aU : Nat) (M : List Int32) (aO : Nat) (O : List Nat) (aI : Nat) (I : List Nat) (bS : Nat) (bA : Nat) (bB : Nat) (bT : Nat) (bU : Nat) (nm : Int32) (pp : Int32) (ft : Int32) (pl : Int32) (va : Int32) (vb : Int32) (fi : Nat → Int32) (pn : Int32) (hI : NRow 8192 fi I) : Met l y_Mo_cut w_Mo_cut ({ frames := 0, cells := 0, slots := 0, locals := 0 }) (va_Pc [.ref mo, .int pn] (kp (dC, dI) classes [(cI, .int), (cB, .byte), (cZ, .boolean)] [(mo, .inr (4, [.int th, .ref aS, .ref aA, .ref aB, .ref aT, .ref aU, .int (nI M.length), .ref aO, .int (nI O.length), .ref aI, .int (nI I.length), .ref bS, .ref bA, .ref bB, .ref bT, .ref bU, .int nm, .int pp, .int ft, .int pl, .int va, .int vb])), (aI, .inl (cI, 8192, .inl fi))] sz)) (Qc_Mo_cut dC dI cI cB cZ mo th aS aA aB aT aU M aO O aI I bS bA bB bT bU nm pp ft pl va vb fi pn (va_A [(mo, .inr (4, [.int th, .ref aS, .ref aA, .ref aB, .ref aT, .ref aU, .int (nI M.length), .ref aO, .int (nI O.length), .ref aI, .int (nI I.length), .ref bS, .ref bA, .ref bB, .ref bT, .ref bU, .int nm, .int pp, .int ft, .int pl, .int va, .int vb])), (aI, .inl (cI, 8192, .inl fi))] sz)) 0 0 (va_A [(mo, .inr (4, [.int th, .ref aS, .ref aA, .ref aB, .ref aT, .ref aU, .int (nI M.length), .ref aO, .int (nI O.length), .ref aI, .int (nI I.length), .ref bS, .ref bA, .ref bB, .ref bT, .ref bU, .int nm, .int pp, .int ft, .int pl, .int va, .int vb])), (aI, .inl (cI, 8192, .inl fi))] sz) := by
  refine Met.ofW (cc := prog_7_method_15_code) (maxL := 2) (ret := (some .boolean)) (by decide) rfl ?_
  intro p e s m args below meth c s₁ B hml hv
  obtain ⟨rfl, hsz, hP, hK, hD0⟩ := hv
  have hx := B.exec
  have hb := B.bytes
  have hr := B.returns
  have hts := fun w h => atoms_spec (ws := w_Mo_cut) B.pre w (List.mem_cons_of_mem _ h)
  have hown : s.vm.findClass "DemoTapeModel" = some m.cls := findClass_of_methodNamed B.named
  have hlocks := B.notSynchronized
  subst hsz
  have hD := hD0.self (sz := s.heap.size)
  generalize hAe : va_A ([(mo, .inr (4, [.int th, .ref aS, .ref aA, .ref aB, .ref aT, .ref aU, .int (nI M.length), .ref aO, .int (nI O.length), .ref aI, .int (nI I.length), .ref bS, .ref bA, .ref bB, .ref bT, .ref bU, .int nm, .int pp, .int ft, .int pl, .int va, .int vb])), (aI, .inl (cI, 8192, .inl fi))] : va_W) s.heap.size = A at hD ⊢
  have hA : ∀ q : Nat, s.heap.size ≤ q → A q := fun q h => by rw [← hAe]; exact Or.inr h
  have hS : va_S A s.heap s.heap [] := va_S.rf
  have hP : va_P (dC, dI) classes [(mo, .inr (4, [.int th, .ref aS, .ref aA, .ref aB, .ref aT, .ref aU, .int (nI M.length), .ref aO, .int (nI O.length), .ref aI, .int (nI I.length), .ref bS, .ref bA, .ref bB, .ref bT, .ref bU, .int nm, .int pp, .int ft, .int pl, .int va, .int vb])), (aI, .inl (cI, 8192, .inl fi))] s.heap := hP
  have hIl := hI.2.2
  have hl := lv_entry ([.ref mo, .int pn]) (n := 2) (Nat.le_of_ble_eq_true rfl)
  rw [lg_entry_eq]
  generalize (lg_sl ([.ref mo, .int pn]) ++ List.replicate (2 - (lg_sl ([.ref mo, .int pn])).length) Slot.unset).toArray = ls at hl ⊢
  have hl : lv_has ls 2 [(0, .ref mo), (1, .int pn)] := hl
  refine lv_aload_n hx hb d_Mo_cut_0 rfl (lv_at hl 0 rfl) ?_
  refine lv_iconst (v := 0) hx hb d_Mo_cut_1 (by decide) ?_
  refine va_put (D := (dC, dI)) (ci := 4) (v := .int 0) (ty := .int) (C := "DemoTapeModel") (T := F_Mo) (N := 22) hx hb hts i_Mo t_Mo t_Mo_ok n_Mo hown hK hP hD hS 0 rfl rfl 0 (by decide) (hts _ mw384) (fun _ h9 => h9) rfl (by decide +kernel) rfl rfl (Nat.le_of_ble_eq_true rfl) d_Mo_cut_2 (fun H locs hP hD hS => ?_)
  have hP : va_P (dC, dI) classes [(mo, .inr (4, [.int 0, .ref aS, .ref aA, .ref aB, .ref aT, .ref aU, .int (nI M.length), .ref aO, .int (nI O.length), .ref aI, .int (nI I.length), .ref bS, .ref bA, .ref bB, .ref bT, .ref bU, .int nm, .int pp, .int ft, .int pl, .int va, .int vb])), (aI, .inl (cI, 8192, .inl fi))] H := hP
  have hD : va_D A [(mo, .inr (4, [.int 0, .ref aS, .ref aA, .ref aB, .ref aT, .ref aU, .int (nI M.length), .ref aO, .int (nI O.length), .ref aI, .int (nI I.length), .ref bS, .ref bA, .ref bB, .ref bT, .ref bU, .int nm, .int pp, .int ft, .int pl, .int va, .int vb])), (aI, .inl (cI, 8192, .inl fi))] := hD
  refine lv_iload_n hx hb d_Mo_cut_5 rfl (lv_at hl 1 rfl) ?_
  refine lv_if_lt (tgt := 17) hx hb d_Mo_cut_6 (by decide) (fun c_6 => ?_) (fun c_6 => ?_)
  · refine lv_iconst (v := 0) hx hb d_Mo_cut_17 (by decide) ?_
    exact kr_i (v := 0) I hx hb hr (by decide) hK (hP.sub [0, 1] (rfl)) (hD.sub [0, 1] (by decide) (rfl)) hS ⟨(if_pos (kIn_lo c_6)).symm, (if_pos (kIn_lo c_6)).symm, hI⟩ d_Mo_cut_18 hlocks
  · obtain ⟨k, hk, rfl⟩ := nI_of c_6
    refine lv_iload_n hx hb d_Mo_cut_9 rfl (lv_at hl 1 rfl) ?_
    refine lv_aload_n hx hb d_Mo_cut_10 rfl (lv_at hl 0 rfl) ?_
    refine va_get (D := (dC, dI)) (ci := 4) (v := .int (nI I.length)) (C := "DemoTapeModel") (T := F_Mo) (N := 22) hx hb hts i_Mo hown hK hP 0 rfl rfl 10 (by decide) (hts _ mw394) (fun _ h9 => h9) rfl d_Mo_cut_11 ?_
    refine lv_icmp_le (tgt := 19) hx hb d_Mo_cut_14 (by decide) (fun c_14 => ?_) (fun c_14 => ?_)
    · have n_14 := kn_le (a := k) (b := I.length) c_14 rfl rfl (by omega) (by omega)
      refine lv_aload_n hx hb d_Mo_cut_19 rfl (lv_at hl 0 rfl) ?_
      refine lv_iload_n hx hb d_Mo_cut_20 rfl (lv_at hl 1 rfl) ?_
      refine kt_i (y := nI (I.take k).length) (by rw [List.length_take, Nat.min_eq_left n_14]) ?_
      refine va_put (D := (dC, dI)) (ci := 4) (v := .int (nI (I.take k).length)) (ty := .int) (C := "DemoTapeModel") (T := F_Mo) (N := 22) hx hb hts i_Mo t_Mo t_Mo_ok n_Mo hown hK hP hD hS 0 rfl rfl 10 (by decide) (hts _ mw394) (fun _ h9 => h9) rfl (by decide +kernel) rfl rfl (Nat.le_of_ble_eq_true rfl) d_Mo_cut_21 (fun H locs hP hD hS => ?_)
      have hP : va_P (dC, dI) classes [(mo, .inr (4, [.int 0, .ref aS, .ref aA, .ref aB, .ref aT, .ref aU, .int (nI M.length), .ref aO, .int (nI O.length), .ref aI, .int (nI (I.take k).length), .ref bS, .ref bA, .ref bB, .ref bT, .ref bU, .int nm, .int pp, .int ft, .int pl, .int va, .int vb])), (aI, .inl (cI, 8192, .inl fi))] H := hP
      have hD : va_D A [(mo, .inr (4, [.int 0, .ref aS, .ref aA, .ref aB, .ref aT, .ref aU, .int (nI M.length), .ref aO, .int (nI O.length), .ref aI, .int (nI (I.take k).length), .ref bS, .ref bA, .ref bB, .ref bT, .ref bU, .int nm, .int pp, .int ft, .int pl, .int va, .int vb])), (aI, .inl (cI, 8192, .inl fi))] := hD
      refine lv_iconst (v := 1) hx hb d_Mo_cut_24 (by decide) ?_
      exact kr_i (v := 1) (I.take k) hx hb hr (by decide) hK (hP.sub [0, 1] (rfl)) (hD.sub [0, 1] (by decide) (rfl)) hS ⟨(if_neg (kIn_y c_6 (nI_nlt n_14 (by omega)))).symm, by rw [if_neg (kIn_y c_6 (nI_nlt n_14 (by omega))), nI_clamp (by omega)], hI.take _⟩ d_Mo_cut_25 hlocks
    · have n_14 := kn_nle (a := k) (b := I.length) c_14 rfl rfl (by omega) (by omega)
      refine lv_iconst (v := 0) hx hb d_Mo_cut_17 (by decide) ?_
      exact kr_i (v := 0) I hx hb hr (by decide) hK (hP.sub [0, 1] (rfl)) (hD.sub [0, 1] (by decide) (rfl)) hS ⟨(if_pos (kIn_hi (nI_lt n_14 (by omega)))).symm, (if_pos (kIn_hi (nI_lt n_14 (by omega)))).symm, hI⟩ d_Mo_cut_18 hlocks
abbrev Qc_Mo_poke (dC : Nat → ClassId) (dI : Nat → Nat → Nat) (cI cB cZ : ClassId) (mo : Nat) (th : Int32) (aS : Nat) (aA : Nat) (aB : Nat) (aT : Nat) (aU : Nat) (M : List Int32) (aO : Nat) (O : List Nat) (aI : Nat) (I : List Nat) (bS : Nat) (bA : Nat) (bB : Nat) (bT : Nat) (bU : Nat) (nm : Int32) (pp : Int32) (ft : Int32) (pl : Int32) (va : Int32) (vb : Int32) (fi : Nat → Int32) (pk : Int32) (pb : Int32) (A : Nat → Prop) := va_Qi (fun (r9 : Int32) (u9 : (Nat → Int32) × List Nat) => (r9 = if kIn pk 0 (nI I.length - 1) = 0 then 0 else 1) ∧ (u9.2 = if kIn pk 0 (nI I.length - 1) = 0 then I else I.set pk.toNatClampNeg (iByte pb)) ∧ (NRow 8192 u9.1 u9.2)) (ka (dC, dI) classes [(cI, .int), (cB, .byte), (cZ, .boolean)] (fun (u9 : (Nat → Int32) × List Nat) => [(mo, .inr (4, [.int 0, .ref aS, .ref aA, .ref aB, .ref aT, .ref aU, .int (nI M.length), .ref aO, .int (nI O.length), .ref aI, .int (nI u9.2.length), .ref bS, .ref bA, .ref bB, .ref bT, .ref bU, .int nm, .int pp, .int ft, .int pl, .int va, .int vb])), (aI, .inl (cI, 8192, .inl u9.1))]) A) A
set_option maxHeartbeats 1000000 in
set_option maxRecDepth 100000 in
/-- Model.poke -/
theorem c_Mo_poke (l : Launch) (dC : Nat → ClassId) (dI : Nat → Nat → Nat) (cI cB cZ : ClassId) (sz : Nat) (mo : Nat) (th : Int32) (aS : Nat) (aA : Nat) (aB : Nat) (aT : Nat) (aU : Nat) (M : List Int32) (aO : Nat) (O : List Nat) (aI : Nat) (I : List Nat) (bS : Nat) (bA : Nat) (bB : Nat) (bT : Nat) (bU : Nat) (nm : Int32) (pp : Int32) (ft : Int32) (pl : Int32) (va : Int32) (vb : Int32) (fi : Nat → Int32) (pk : Int32) (pb : Int32) (hI : NRow 8192 fi I) : Met l y_Mo_poke w_Mo_poke ({ frames := 0, cells := 0, slots := 0, locals := 0 }) (va_Pc [.ref mo, .int pk, .int pb] (kp (dC, dI) classes [(cI, .int), (cB, .byte), (cZ, .boolean)] [(mo, .inr (4, [.int th, .ref aS, .ref aA, .ref aB, .ref aT, .ref aU, .int (nI M.length), .ref aO, .int (nI O.length), .ref aI, .int (nI I.length), .ref bS, .ref bA, .ref bB, .ref bT, .ref bU, .int nm, .int pp, .int ft, .int pl, .int va, .int vb])), (aI, .inl (cI, 8192, .inl fi))] sz)) (Qc_Mo_poke dC dI cI cB cZ mo th aS aA aB aT aU M aO O aI I bS bA bB bT bU nm pp ft pl va vb fi pk pb (va_A [(mo, .inr (4, [.int th, .ref aS, .ref aA, .ref aB, .ref aT, .ref aU, .int (nI M.length), .ref aO, .int (nI O.length), .ref aI, .int (nI I.length), .ref bS, .ref bA, .ref bB, .ref bT, .ref bU, .int nm, .int pp, .int ft, .int pl, .int va, .int vb])), (aI, .inl (cI, 8192, .inl fi))] sz)) 0 0 (va_A [(mo, .inr (4, [.int th, .ref aS, .ref aA, .ref aB, .ref aT, .ref aU, .int (nI M.length), .ref aO, .int (nI O.length), .ref aI, .int (nI I.length), .ref bS, .ref bA, .ref bB, .ref bT, .ref bU, .int nm, .int pp, .int ft, .int pl, .int va, .int vb])), (aI, .inl (cI, 8192, .inl fi))] sz) := by
  refine Met.ofW (cc := prog_7_method_16_code) (maxL := 3) (ret := (some .boolean)) (by decide) rfl ?_
  intro p e s m args below meth c s₁ B hml hv
  obtain ⟨rfl, hsz, hP, hK, hD0⟩ := hv
  have hx := B.exec
  have hb := B.bytes
  have hr := B.returns
  have hts := fun w h => atoms_spec (ws := w_Mo_poke) B.pre w (List.mem_cons_of_mem _ h)
  have hown : s.vm.findClass "DemoTapeModel" = some m.cls := findClass_of_methodNamed B.named
  have hlocks := B.notSynchronized
  subst hsz
  have hD := hD0.self (sz := s.heap.size)
  generalize hAe : va_A ([(mo, .inr (4, [.int th, .ref aS, .ref aA, .ref aB, .ref aT, .ref aU, .int (nI M.length), .ref aO, .int (nI O.length), .ref aI, .int (nI I.length), .ref bS, .ref bA, .ref bB, .ref bT, .ref bU, .int nm, .int pp, .int ft, .int pl, .int va, .int vb])), (aI, .inl (cI, 8192, .inl fi))] : va_W) s.heap.size = A at hD ⊢
  have hA : ∀ q : Nat, s.heap.size ≤ q → A q := fun q h => by rw [← hAe]; exact Or.inr h
  have hS : va_S A s.heap s.heap [] := va_S.rf
  have hP : va_P (dC, dI) classes [(mo, .inr (4, [.int th, .ref aS, .ref aA, .ref aB, .ref aT, .ref aU, .int (nI M.length), .ref aO, .int (nI O.length), .ref aI, .int (nI I.length), .ref bS, .ref bA, .ref bB, .ref bT, .ref bU, .int nm, .int pp, .int ft, .int pl, .int va, .int vb])), (aI, .inl (cI, 8192, .inl fi))] s.heap := hP
  have hIl := hI.2.2
  have hl := lv_entry ([.ref mo, .int pk, .int pb]) (n := 3) (Nat.le_of_ble_eq_true rfl)
  rw [lg_entry_eq]
  generalize (lg_sl ([.ref mo, .int pk, .int pb]) ++ List.replicate (3 - (lg_sl ([.ref mo, .int pk, .int pb])).length) Slot.unset).toArray = ls at hl ⊢
  have hl : lv_has ls 3 [(0, .ref mo), (1, .int pk), (2, .int pb)] := hl
  refine lv_aload_n hx hb d_Mo_poke_0 rfl (lv_at hl 0 rfl) ?_
  refine lv_iconst (v := 0) hx hb d_Mo_poke_1 (by decide) ?_
  refine va_put (D := (dC, dI)) (ci := 4) (v := .int 0) (ty := .int) (C := "DemoTapeModel") (T := F_Mo) (N := 22) hx hb hts i_Mo t_Mo t_Mo_ok n_Mo hown hK hP hD hS 0 rfl rfl 0 (by decide) (hts _ mw384) (fun _ h9 => h9) rfl (by decide +kernel) rfl rfl (Nat.le_of_ble_eq_true rfl) d_Mo_poke_2 (fun H locs hP hD hS => ?_)
  have hP : va_P (dC, dI) classes [(mo, .inr (4, [.int 0, .ref aS, .ref aA, .ref aB, .ref aT, .ref aU, .int (nI M.length), .ref aO, .int (nI O.length), .ref aI, .int (nI I.length), .ref bS, .ref bA, .ref bB, .ref bT, .ref bU, .int nm, .int pp, .int ft, .int pl, .int va, .int vb])), (aI, .inl (cI, 8192, .inl fi))] H := hP
  have hD : va_D A [(mo, .inr (4, [.int 0, .ref aS, .ref aA, .ref aB, .ref aT, .ref aU, .int (nI M.length), .ref aO, .int (nI O.length), .ref aI, .int (nI I.length), .ref bS, .ref bA, .ref bB, .ref bT, .ref bU, .int nm, .int pp, .int ft, .int pl, .int va, .int vb])), (aI, .inl (cI, 8192, .inl fi))] := hD
  refine lv_iload_n hx hb d_Mo_poke_5 rfl (lv_at hl 1 rfl) ?_
  refine lv_if_lt (tgt := 17) hx hb d_Mo_poke_6 (by decide) (fun c_6 => ?_) (fun c_6 => ?_)
  · refine lv_iconst (v := 0) hx hb d_Mo_poke_17 (by decide) ?_
    exact kr_i (v := 0) (fi, I) hx hb hr (by decide) hK (hP.sub [0, 1] (rfl)) (hD.sub [0, 1] (by decide) (rfl)) hS ⟨(if_pos (kIn_lo c_6)).symm, (if_pos (kIn_lo c_6)).symm, hI⟩ d_Mo_poke_18 hlocks
  · obtain ⟨k, hk, rfl⟩ := nI_of c_6
    refine lv_iload_n hx hb d_Mo_poke_9 rfl (lv_at hl 1 rfl) ?_
    refine lv_aload_n hx hb d_Mo_poke_10 rfl (lv_at hl 0 rfl) ?_
    refine va_get (D := (dC, dI)) (ci := 4) (v := .int (nI I.length)) (C := "DemoTapeModel") (T := F_Mo) (N := 22) hx hb hts i_Mo hown hK hP 0 rfl rfl 10 (by decide) (hts _ mw394) (fun _ h9 => h9) rfl d_Mo_poke_11 ?_
    refine lv_icmp_lt (tgt := 19) hx hb d_Mo_poke_14 (by decide) (fun c_14 => ?_) (fun c_14 => ?_)
    · have n_14 := kn_lt (a := k) (b := I.length) c_14 rfl rfl (by omega) (by omega)
      refine lv_aload_n hx hb d_Mo_poke_19 rfl (lv_at hl 0 rfl) ?_
      refine va_get (D := (dC, dI)) (ci := 4) (v := .ref aI) (C := "DemoTapeModel") (T := F_Mo) (N := 22) hx hb hts i_Mo hown hK hP 0 rfl rfl 9 (by decide) (hts _ mw393) (fun _ h9 => h9) rfl d_Mo_poke_20 ?_
      refine lv_iload_n hx hb d_Mo_poke_23 rfl (lv_at hl 1 rfl) ?_
      refine lv_iload_n hx hb d_Mo_poke_24 rfl (lv_at hl 2 rfl) ?_
      refine lv_sipush (v := 255) hx hb d_Mo_poke_25 (by decide) ?_
      refine lv_iand hx hb d_Mo_poke_28 ?_
      refine kt_i (y := nI (iByte pb)) (pk_and pb 8 (by decide)) ?_
      refine kt_iast (j := k) hx hb hK hP hD hS 1 0 rfl rfl (by omega) (by decide) d_Mo_poke_29 (fun H locs hP hD hS => ?_)
      have hP : va_P (dC, dI) classes [(mo, .inr (4, [.int 0, .ref aS, .ref aA, .ref aB, .ref aT, .ref aU, .int (nI M.length), .ref aO, .int (nI O.length), .ref aI, .int (nI I.length), .ref bS, .ref bA, .ref bB, .ref bT, .ref bU, .int nm, .int pp, .int ft, .int pl, .int va, .int vb])), (aI, .inl (cI, 8192, .inl (upd fi k (nI (iByte pb)))))] H := hP
      have hD : va_D A [(mo, .inr (4, [.int 0, .ref aS, .ref aA, .ref aB, .ref aT, .ref aU, .int (nI M.length), .ref aO, .int (nI O.length), .ref aI, .int (nI I.length), .ref bS, .ref bA, .ref bB, .ref bT, .ref bU, .int nm, .int pp, .int ft, .int pl, .int va, .int vb])), (aI, .inl (cI, 8192, .inl (upd fi k (nI (iByte pb)))))] := hD
      refine lv_iconst (v := 1) hx hb d_Mo_poke_30 (by decide) ?_
      exact kr_i (v := 1) (upd fi k (nI (iByte pb)), I.set k (iByte pb)) hx hb hr (by decide) hK (hP.sub [0, 1] (by dsimp only; rw [List.length_set]; rfl)) (hD.sub [0, 1] (by decide) (by dsimp only; rw [List.length_set]; rfl)) hS ⟨(if_neg (kIx_y n_14 (by omega))).symm, by dsimp only; rw [if_neg (kIx_y n_14 (by omega)), nI_clamp (by omega)], hI.set rfl (Nat.mod_lt _ (by decide))⟩ d_Mo_poke_31 hlocks
    · have n_14 := kn_nlt (a := k) (b := I.length) c_14 rfl rfl (by omega) (by omega)
      refine lv_iconst (v := 0) hx hb d_Mo_poke_17 (by decide) ?_
      exact kr_i (v := 0) (fi, I) hx hb hr (by decide) hK (hP.sub [0, 1] (rfl)) (hD.sub [0, 1] (by decide) (rfl)) hS ⟨(if_pos (kIx_no n_14 (by omega))).symm, (if_pos (kIx_no n_14 (by omega))).symm, hI⟩ d_Mo_poke_18 hlocks
abbrev Qc_Mo_give (dC : Nat → ClassId) (dI : Nat → Nat → Nat) (cI cB cZ : ClassId) (mo : Nat) (th : Int32) (aS : Nat) (aA : Nat) (aB : Nat) (aT : Nat) (aU : Nat) (M : List Int32) (aO : Nat) (O : List Nat) (aI : Nat) (I : List Nat) (bS : Nat) (bA : Nat) (bB : Nat) (bT : Nat) (bU : Nat) (nm : Int32) (pp : Int32) (ft : Int32) (pl : Int32) (va : Int32) (vb : Int32) (fi : Nat → Int32) (pv : Int64) (pn : Int32) (A : Nat → Prop) := va_Qi (fun (r9 : Int32) (u9 : (Nat → Int32) × List Nat) => (r9 = if kGvOk I pn then 1 else 0) ∧ (u9.2 = if kGvOk I pn then I ++ lowB (lNat pv) pn.toNatClampNeg else I) ∧ (NRow 8192 u9.1 u9.2)) (ka (dC, dI) classes [(cI, .int), (cB, .byte), (cZ, .boolean)] (fun (u9 : (Nat → Int32) × List Nat) => [(mo, .inr (4, [.int 0, .ref aS, .ref aA, .ref aB, .ref aT, .ref aU, .int (nI M.length), .ref aO, .int (nI O.length), .ref aI, .int (nI u9.2.length), .ref bS, .ref bA, .ref bB, .ref bT, .ref bU, .int nm, .int pp, .int ft, .int pl, .int va, .int vb])), (aI, .inl (cI, 8192, .inl u9.1))]) A) A
set_option maxHeartbeats 1000000 in
set_option maxRecDepth 100000 in
/-- Model.give -/
theorem c_Mo_give (l : Launch) (dC : Nat → ClassId) (dI : Nat → Nat → Nat) (cI cB cZ : ClassId) (sz : Nat) (mo : Nat) (th : Int32) (aS : Nat) (aA : Nat) (aB : Nat) (aT : Nat) (aU : Nat) (M : List Int32) (aO : Nat) (O : List Nat) (aI : Nat) (I : List Nat) (bS : Nat) (bA : Nat) (bB : Nat) (bT : Nat) (bU : Nat) (nm : Int32) (pp : Int32) (ft : Int32) (pl : Int32) (va : Int32) (vb : Int32) (fi : Nat → Int32) (pv : Int64) (pn : Int32) (hI : NRow 8192 fi I) : Met l y_Mo_give w_Mo_give ({ frames := 0, cells := 0, slots := 0, locals := 0 }) (va_Pc [.ref mo, .long pv, .int pn] (kp (dC, dI) classes [(cI, .int), (cB, .byte), (cZ, .boolean)] [(mo, .inr (4, [.int th, .ref aS, .ref aA, .ref aB, .ref aT, .ref aU, .int (nI M.length), .ref aO, .int (nI O.length), .ref aI, .int (nI I.length), .ref bS, .ref bA, .ref bB, .ref bT, .ref bU, .int nm, .int pp, .int ft, .int pl, .int va, .int vb])), (aI, .inl (cI, 8192, .inl fi))] sz)) (Qc_Mo_give dC dI cI cB cZ mo th aS aA aB aT aU M aO O aI I bS bA bB bT bU nm pp ft pl va vb fi pv pn (va_A [(mo, .inr (4, [.int th, .ref aS, .ref aA, .ref aB, .ref aT, .ref aU, .int (nI M.length), .ref aO, .int (nI O.length), .ref aI, .int (nI I.length), .ref bS, .ref bA, .ref bB, .ref bT, .ref bU, .int nm, .int pp, .int ft, .int pl, .int va, .int vb])), (aI, .inl (cI, 8192, .inl fi))] sz)) 0 0 (va_A [(mo, .inr (4, [.int th, .ref aS, .ref aA, .ref aB, .ref aT, .ref aU, .int (nI M.length), .ref aO, .int (nI O.length), .ref aI, .int (nI I.length), .ref bS, .ref bA, .ref bB, .ref bT, .ref bU, .int nm, .int pp, .int ft, .int pl, .int va, .int vb])), (aI, .inl (cI, 8192, .inl fi))] sz) := by
  refine Met.ofW (cc := prog_7_method_13_code) (maxL := 5) (ret := (some .boolean)) (by decide) rfl ?_
  intro p e s m args below meth c s₁ B hml hv
  obtain ⟨rfl, hsz, hP, hK, hD0⟩ := hv
  have hx := B.exec
  have hb := B.bytes
  have hr := B.returns
  have hts := fun w h => atoms_spec (ws := w_Mo_give) B.pre w (List.mem_cons_of_mem _ h)
  have hown : s.vm.findClass "DemoTapeModel" = some m.cls := findClass_of_methodNamed B.named
  have hlocks := B.notSynchronized
  subst hsz
  have hD := hD0.self (sz := s.heap.size)
  generalize hAe : va_A ([(mo, .inr (4, [.int th, .ref aS, .ref aA, .ref aB, .ref aT, .ref aU, .int (nI M.length), .ref aO, .int (nI O.length), .ref aI, .int (nI I.length), .ref bS, .ref bA, .ref bB, .ref bT, .ref bU, .int nm, .int pp, .int ft, .int pl, .int va, .int vb])), (aI, .inl (cI, 8192, .inl fi))] : va_W) s.heap.size = A at hD ⊢
  have hA : ∀ q : Nat, s.heap.size ≤ q → A q := fun q h => by rw [← hAe]; exact Or.inr h
  have hS : va_S A s.heap s.heap [] := va_S.rf
  have hP : va_P (dC, dI) classes [(mo, .inr (4, [.int th, .ref aS, .ref aA, .ref aB, .ref aT, .ref aU, .int (nI M.length), .ref aO, .int (nI O.length), .ref aI, .int (nI I.length), .ref bS, .ref bA, .ref bB, .ref bT, .ref bU, .int nm, .int pp, .int ft, .int pl, .int va, .int vb])), (aI, .inl (cI, 8192, .inl fi))] s.heap := hP
  have hIl := hI.2.2
  have hl := lv_entry ([.ref mo, .long pv, .int pn]) (n := 5) (Nat.le_of_ble_eq_true rfl)
  rw [lg_entry_eq]
  generalize (lg_sl ([.ref mo, .long pv, .int pn]) ++ List.replicate (5 - (lg_sl ([.ref mo, .long pv, .int pn])).length) Slot.unset).toArray = ls at hl ⊢
  have hl : lv_has ls 5 [(0, .ref mo), (1, .long pv), (3, .int pn)] := hl
  have J_35 : ∀ (fuel : Nat) (k : Nat) (q : Nat) (f2 : Nat → Int32) (Z : List Nat), (q < fuel) → (pn = nI k) → (1 ≤ k) → (k ≤ 8) → (kGvOk I (nI k)) → (q ≤ 8) → (NRow 8192 f2 Z) → (Z ++ lowB (lNat pv) q = I ++ lowB (lNat pv) k) → (Z.length + q ≤ 8192) → ∀ (H : Heap) (locs : List Loc), va_P (dC, dI) classes [(mo, .inr (4, [.int 0, .ref aS, .ref aA, .ref aB, .ref aT, .ref aU, .int (nI M.length), .ref aO, .int (nI O.length), .ref aI, .int (nI Z.length), .ref bS, .ref bA, .ref bB, .ref bT, .ref bU, .int nm, .int pp, .int ft, .int pl, .int va, .int vb])), (aI, .inl (cI, 8192, .inl f2))] H → va_D A [(mo, .inr (4, [.int 0, .ref aS, .ref aA, .ref aB, .ref aT, .ref aU, .int (nI M.length), .ref aO, .int (nI O.length), .ref aI, .int (nI Z.length), .ref bS, .ref bA, .ref bB, .ref bT, .ref bU, .int nm, .int pp, .int ft, .int pl, .int va, .int vb])), (aI, .inl (cI, 8192, .inl f2))] → va_S A s.heap H locs → ∀ (ls : Array Slot), lv_has ls 5 [(0, .ref mo), (1, .long pv), (3, .int (nI k)), (4, .int (nI q - 1))] → W p l e (headSpec w_Mo_give ({ frames := 0, cells := 0, slots := 0, locals := 0 })).room s m [.ref mo, .long pv, .int pn].toArray below meth c H locs 0 0 (MQ below (Qc_Mo_give dC dI cI cB cZ mo th aS aA aB aT aU M aO O aI I bS bA bB bT bU nm pp ft pl va vb fi pv pn A) [.ref mo, .long pv, .int pn].toArray s 0 0 A) (F0 m 35 ls []) := by
    intro fuel
    induction fuel with
    | zero => intro k q f2 Z hm; exact absurd hm (Nat.not_lt_zero _)
    | succ fuel ih_35 =>
      intro k q f2 Z hm hpn hk1 hk2 ok hq hZ he hl2 H locs hP hD hS ls hl
      refine lv_iload hx hb d_Mo_give_35 (lv_at hl 3 rfl) ?_
      refine lv_if_lt (tgt := 77) hx hb d_Mo_give_37 (by decide) (fun c_37 => ?_) (fun c_37 => ?_)
      · obtain rfl : q = 0 := kq0 c_37 (by omega)
        have hZ0 : Z = I ++ lowB (lNat pv) k := by rw [← he]; exact (List.append_nil Z).symm
        rw [hZ0] at hP hD hZ
        refine lv_iconst (v := 1) hx hb d_Mo_give_77 (by decide) ?_
        subst hpn
        exact kr_i (v := 1) (f2, (I ++ lowB (lNat pv) k)) hx hb hr (by decide) hK (hP.sub [0, 1] (rfl)) (hD.sub [0, 1] (by decide) (rfl)) hS ⟨(if_pos ok).symm, by dsimp only; rw [if_pos ok, nI_clamp (by omega)], hZ⟩ d_Mo_give_78 hlocks
      · obtain ⟨q1, rfl⟩ : ∃ z, q = z + 1 := kq1 c_37
        refine lv_aload_n hx hb d_Mo_give_40 rfl (lv_at hl 0 rfl) ?_
        refine va_get (D := (dC, dI)) (ci := 4) (v := .ref aI) (C := "DemoTapeModel") (T := F_Mo) (N := 22) hx hb hts i_Mo hown hK hP 0 rfl rfl 9 (by decide) (hts _ mw393) (fun _ h9 => h9) rfl d_Mo_give_41 ?_
        refine lv_aload_n hx hb d_Mo_give_44 rfl (lv_at hl 0 rfl) ?_
        refine va_get (D := (dC, dI)) (ci := 4) (v := .int (nI Z.length)) (C := "DemoTapeModel") (T := F_Mo) (N := 22) hx hb hts i_Mo hown hK hP 0 rfl rfl 10 (by decide) (hts _ mw394) (fun _ h9 => h9) rfl d_Mo_give_45 ?_
        refine lv_lload_n hx hb d_Mo_give_48 rfl (lv_at hl 1 rfl) ?_
        refine lv_bipush (v := 8) hx hb d_Mo_give_49 (by decide) ?_
        refine lv_iload hx hb d_Mo_give_51 (lv_at hl 3 rfl) ?_
        refine kt_i (y := nI q1) (nI_pred _) ?_
        refine lv_imul hx hb d_Mo_give_53 ?_
        refine kt_i (y := nI (8 * q1)) (pk_mul 8 q1) ?_
        refine lv_lshr (v := pv >>> ((nI (8 * q1)).toInt64 &&& 63)) hx hb d_Mo_give_54 rfl ?_
        refine lv_ldc2 (v := 255) hx hb hown (hts _ mw496) d_Mo_give_55 ?_
        refine lv_land hx hb d_Mo_give_58 ?_
        refine lv_l2i (v := ((pv >>> ((nI (8 * q1)).toInt64 &&& 63)) &&& 255).toInt32) hx hb d_Mo_give_59 rfl ?_
        refine kt_i (y := nI (lNat pv / 2 ^ (8 * q1) % 256)) (lNat_sbyte pv q1 (by omega)) ?_
        refine kt_iast (j := Z.length) hx hb hK hP hD hS 1 0 rfl rfl (by omega) (by decide) d_Mo_give_60 (fun H locs hP hD hS => ?_)
        have hP : va_P (dC, dI) classes [(mo, .inr (4, [.int 0, .ref aS, .ref aA, .ref aB, .ref aT, .ref aU, .int (nI M.length), .ref aO, .int (nI O.length), .ref aI, .int (nI Z.length), .ref bS, .ref bA, .ref bB, .ref bT, .ref bU, .int nm, .int pp, .int ft, .int pl, .int va, .int vb])), (aI, .inl (cI, 8192, .inl (upd f2 Z.length (nI (lNat pv / 2 ^ (8 * q1) % 256)))))] H := hP
        have hD : va_D A [(mo, .inr (4, [.int 0, .ref aS, .ref aA, .ref aB, .ref aT, .ref aU, .int (nI M.length), .ref aO, .int (nI O.length), .ref aI, .int (nI Z.length), .ref bS, .ref bA, .ref bB, .ref bT, .ref bU, .int nm, .int pp, .int ft, .int pl, .int va, .int vb])), (aI, .inl (cI, 8192, .inl (upd f2 Z.length (nI (lNat pv / 2 ^ (8 * q1) % 256)))))] := hD
        refine lv_aload_n hx hb d_Mo_give_61 rfl (lv_at hl 0 rfl) ?_
        refine lv_dup hx hb d_Mo_give_62 rfl ?_
        refine va_get (D := (dC, dI)) (ci := 4) (v := .int (nI Z.length)) (C := "DemoTapeModel") (T := F_Mo) (N := 22) hx hb hts i_Mo hown hK hP 0 rfl rfl 10 (by decide) (hts _ mw394) (fun _ h9 => h9) rfl d_Mo_give_63 ?_
        refine lv_iconst (v := 1) hx hb d_Mo_give_66 (by decide) ?_
        refine lv_iadd hx hb d_Mo_give_67 ?_
        refine kt_i (y := nI (Z ++ [lNat pv / 2 ^ (8 * q1) % 256]).length) (by rw [List.length_append]; exact nI_1 _) ?_
        refine va_put (D := (dC, dI)) (ci := 4) (v := .int (nI (Z ++ [lNat pv / 2 ^ (8 * q1) % 256]).length)) (ty := .int) (C := "DemoTapeModel") (T := F_Mo) (N := 22) hx hb hts i_Mo t_Mo t_Mo_ok n_Mo hown hK hP hD hS 0 rfl rfl 10 (by decide) (hts _ mw394) (fun _ h9 => h9) rfl (by decide +kernel) rfl rfl (Nat.le_of_ble_eq_true rfl) d_Mo_give_68 (fun H locs hP hD hS => ?_)
        have hP : va_P (dC, dI) classes [(mo, .inr (4, [.int 0, .ref aS, .ref aA, .ref aB, .ref aT, .ref aU, .int (nI M.length), .ref aO, .int (nI O.length), .ref aI, .int (nI (Z ++ [lNat pv / 2 ^ (8 * q1) % 256]).length), .ref bS, .ref bA, .ref bB, .ref bT, .ref bU, .int nm, .int pp, .int ft, .int pl, .int va, .int vb])), (aI, .inl (cI, 8192, .inl (upd f2 Z.length (nI (lNat pv / 2 ^ (8 * q1) % 256)))))] H := hP
        have hD : va_D A [(mo, .inr (4, [.int 0, .ref aS, .ref aA, .ref aB, .ref aT, .ref aU, .int (nI M.length), .ref aO, .int (nI O.length), .ref aI, .int (nI (Z ++ [lNat pv / 2 ^ (8 * q1) % 256]).length), .ref bS, .ref bA, .ref bB, .ref bT, .ref bU, .int nm, .int pp, .int ft, .int pl, .int va, .int vb])), (aI, .inl (cI, 8192, .inl (upd f2 Z.length (nI (lNat pv / 2 ^ (8 * q1) % 256)))))] := hD
        refine lv_iinc (v := nI q1 - 1) (lv' := [(4, .int (nI q1 - 1)), (0, .ref mo), (1, .long pv), (3, .int (nI k))]) hx hb d_Mo_give_71 hl (k := 3) rfl (by rw [nI_pred, Int32.sub_eq_add_neg]; rfl) (by decide) rfl (fun ls hl => ?_)
        refine lv_goto (tgt := 35) hx hb d_Mo_give_74 (by decide) ?_
        exact ih_35 k q1 (upd f2 Z.length (nI (lNat pv / 2 ^ (8 * q1) % 256))) (Z ++ [lNat pv / 2 ^ (8 * q1) % 256]) (by omega) (hpn) (by first | with_reducible assumption | omega) (by first | with_reducible assumption | omega) (by first | with_reducible assumption | omega) (by first | with_reducible assumption | omega) (hZ.push rfl (Nat.mod_lt _ (by decide)) (by omega)) (by rw [← he, List.append_assoc]; rfl) (by rw [List.length_append, List.length_singleton]; omega) _ _ (hP.sub [0, 1] (rfl)) (hD.sub [0, 1] (by decide) (rfl)) hS ls (lv_sub hl [1, 2, 3, 0] rfl)
  refine lv_aload_n hx hb d_Mo_give_0 rfl (lv_at hl 0 rfl) ?_
  refine lv_iconst (v := 0) hx hb d_Mo_give_1 (by decide) ?_
  refine va_put (D := (dC, dI)) (ci := 4) (v := .int 0) (ty := .int) (C := "DemoTapeModel") (T := F_Mo) (N := 22) hx hb hts i_Mo t_Mo t_Mo_ok n_Mo hown hK hP hD hS 0 rfl rfl 0 (by decide) (hts _ mw384) (fun _ h9 => h9) rfl (by decide +kernel) rfl rfl (Nat.le_of_ble_eq_true rfl) d_Mo_give_2 (fun H locs hP hD hS => ?_)
  have hP : va_P (dC, dI) classes [(mo, .inr (4, [.int 0, .ref aS, .ref aA, .ref aB, .ref aT, .ref aU, .int (nI M.length), .ref aO, .int (nI O.length), .ref aI, .int (nI I.length), .ref bS, .ref bA, .ref bB, .ref bT, .ref bU, .int nm, .int pp, .int ft, .int pl, .int va, .int vb])), (aI, .inl (cI, 8192, .inl fi))] H := hP
  have hD : va_D A [(mo, .inr (4, [.int 0, .ref aS, .ref aA, .ref aB, .ref aT, .ref aU, .int (nI M.length), .ref aO, .int (nI O.length), .ref aI, .int (nI I.length), .ref bS, .ref bA, .ref bB, .ref bT, .ref bU, .int nm, .int pp, .int ft, .int pl, .int va, .int vb])), (aI, .inl (cI, 8192, .inl fi))] := hD
  refine lv_iload_n hx hb d_Mo_give_5 rfl (lv_at hl 2 rfl) ?_
  refine lv_iconst (v := 1) hx hb d_Mo_give_6 (by decide) ?_
  refine lv_icmp_lt (tgt := 28) hx hb d_Mo_give_7 (by decide) (fun c_7 => ?_) (fun c_7 => ?_)
  · refine lv_iconst (v := 0) hx hb d_Mo_give_28 (by decide) ?_
    exact kr_i (v := 0) (fi, I) hx hb hr (by decide) hK (hP.sub [0, 1] (rfl)) (hD.sub [0, 1] (by decide) (rfl)) hS ⟨(if_neg (fun z => z.1 (kIn_lo c_7))).symm, (if_neg (fun z => z.1 (kIn_lo c_7))).symm, hI⟩ d_Mo_give_29 hlocks
  · refine lv_iload_n hx hb d_Mo_give_10 rfl (lv_at hl 2 rfl) ?_
    refine lv_bipush (v := 8) hx hb d_Mo_give_11 (by decide) ?_
    refine lv_icmp_gt (tgt := 28) hx hb d_Mo_give_13 (by decide) (fun c_13 => ?_) (fun c_13 => ?_)
    · refine lv_iconst (v := 0) hx hb d_Mo_give_28 (by decide) ?_
      exact kr_i (v := 0) (fi, I) hx hb hr (by decide) hK (hP.sub [0, 1] (rfl)) (hD.sub [0, 1] (by decide) (rfl)) hS ⟨(if_neg (fun z => z.1 (kIn_hi c_13))).symm, (if_neg (fun z => z.1 (kIn_hi c_13))).symm, hI⟩ d_Mo_give_29 hlocks
    · obtain ⟨k, hk1, hk2, rfl⟩ := kPn (n := 8) c_7 c_13 (by decide)
      refine lv_aload_n hx hb d_Mo_give_16 rfl (lv_at hl 0 rfl) ?_
      refine va_get (D := (dC, dI)) (ci := 4) (v := .int (nI I.length)) (C := "DemoTapeModel") (T := F_Mo) (N := 22) hx hb hts i_Mo hown hK hP 0 rfl rfl 10 (by decide) (hts _ mw394) (fun _ h9 => h9) rfl d_Mo_give_17 ?_
      refine lv_iload_n hx hb d_Mo_give_20 rfl (lv_at hl 2 rfl) ?_
      refine lv_iadd hx hb d_Mo_give_21 ?_
      refine kt_i (y := nI (I.length + k)) (nI_add _ _) ?_
      refine lv_sipush (v := 8192) hx hb d_Mo_give_22 (by decide) ?_
      refine lv_icmp_le (tgt := 30) hx hb d_Mo_give_25 (by decide) (fun c_25 => ?_) (fun c_25 => ?_)
      · have n_25 := kn_le (a := I.length + k) (b := 8192) c_25 rfl rfl (by omega) (by omega)
        have ok : kGvOk I (nI k) := ⟨kIn_ok hk1 (n := 8) hk2 (by decide), nI_le (by omega) (by omega)⟩
        refine lv_iload_n hx hb d_Mo_give_30 rfl (lv_at hl 2 rfl) ?_
        refine lv_iconst (v := 1) hx hb d_Mo_give_31 (by decide) ?_
        refine lv_isub hx hb d_Mo_give_32 ?_
        refine lv_istore (lv' := [(4, .int ((nI k) - 1)), (0, .ref mo), (1, .long pv), (3, .int (nI k))]) hx hb d_Mo_give_33 hl (by decide) rfl (fun ls hl => ?_)
        exact J_35 _ k k fi I (Nat.lt_succ_self _) (rfl) (by first | with_reducible assumption | omega) (by first | with_reducible assumption | omega) (by first | with_reducible assumption | omega) (by first | with_reducible assumption | omega) (hI) (rfl) (by first | with_reducible assumption | omega) _ _ (hP.sub [0, 1] (rfl)) (hD.sub [0, 1] (by decide) (rfl)) hS ls (lv_sub hl [1, 2, 3, 0] rfl)
      · have n_25 := kn_nle (a := I.length + k) (b := 8192) c_25 rfl rfl (by omega) (by omega)
        refine lv_iconst (v := 0) hx hb d_Mo_give_28 (by decide) ?_
        exact kr_i (v := 0) (fi, I) hx hb hr (by decide) hK (hP.sub [0, 1] (rfl)) (hD.sub [0, 1] (by decide) (rfl)) hS ⟨(if_neg (fun z => absurd (kn_le z.2 rfl rfl (by omega) (by omega)) (by omega))).symm, (if_neg (fun z => absurd (kn_le z.2 rfl rfl (by omega) (by omega)) (by omega))).symm, hI⟩ d_Mo_give_29 hlocks
abbrev Qc_Mo_turnOver (dC : Nat → ClassId) (dI : Nat → Nat → Nat) (cI cB cZ : ClassId) (mo : Nat) (th : Int32) (aS : Nat) (aA : Nat) (aB : Nat) (aT : Nat) (aU : Nat) (M : List Int32) (aO : Nat) (O : List Nat) (aI : Nat) (I : List Nat) (bS : Nat) (bA : Nat) (bB : Nat) (bT : Nat) (bU : Nat) (nm : Int32) (pp : Int32) (ft : Int32) (pl : Int32) (va : Int32) (vb : Int32) (fo : Nat → Int32) (fi : Nat → Int32) (A : Nat → Prop) := va_Qv (fun (u9 : (Nat → Int32)) => (NRow 8192 u9 O)) (ka (dC, dI) classes [(cI, .int), (cB, .byte), (cZ, .boolean)] (fun (u9 : (Nat → Int32)) => [(mo, .inr (4, [.int 0, .ref aS, .ref aA, .ref aB, .ref aT, .ref aU, .int (nI M.length), .ref aO, .int (nI O.length), .ref aI, .int (nI O.length), .ref bS, .ref bA, .ref bB, .ref bT, .ref bU, .int nm, .int pp, .int ft, .int pl, .int va, .int vb])), (aO, .inl (cI, 4200, .inl fo)), (aI, .inl (cI, 8192, .inl u9))]) A) A
set_option maxHeartbeats 1000000 in
set_option maxRecDepth 100000 in
/-- Model.turnOver -/
theorem c_Mo_turnOver (l : Launch) (dC : Nat → ClassId) (dI : Nat → Nat → Nat) (cI cB cZ : ClassId) (sz : Nat) (mo : Nat) (th : Int32) (aS : Nat) (aA : Nat) (aB : Nat) (aT : Nat) (aU : Nat) (M : List Int32) (aO : Nat) (O : List Nat) (aI : Nat) (I : List Nat) (bS : Nat) (bA : Nat) (bB : Nat) (bT : Nat) (bU : Nat) (nm : Int32) (pp : Int32) (ft : Int32) (pl : Int32) (va : Int32) (vb : Int32) (fo : Nat → Int32) (fi : Nat → Int32) (hO : NRow 4200 fo O) : Met l y_Mo_turnOver w_Mo_turnOver ({ frames := 0, cells := 0, slots := 0, locals := 0 }) (va_Pc [.ref mo] (kp (dC, dI) classes [(cI, .int), (cB, .byte), (cZ, .boolean)] [(mo, .inr (4, [.int th, .ref aS, .ref aA, .ref aB, .ref aT, .ref aU, .int (nI M.length), .ref aO, .int (nI O.length), .ref aI, .int (nI I.length), .ref bS, .ref bA, .ref bB, .ref bT, .ref bU, .int nm, .int pp, .int ft, .int pl, .int va, .int vb])), (aO, .inl (cI, 4200, .inl fo)), (aI, .inl (cI, 8192, .inl fi))] sz)) (Qc_Mo_turnOver dC dI cI cB cZ mo th aS aA aB aT aU M aO O aI I bS bA bB bT bU nm pp ft pl va vb fo fi (va_A [(mo, .inr (4, [.int th, .ref aS, .ref aA, .ref aB, .ref aT, .ref aU, .int (nI M.length), .ref aO, .int (nI O.length), .ref aI, .int (nI I.length), .ref bS, .ref bA, .ref bB, .ref bT, .ref bU, .int nm, .int pp, .int ft, .int pl, .int va, .int vb])), (aO, .inl (cI, 4200, .inl fo)), (aI, .inl (cI, 8192, .inl fi))] sz)) 0 0 (va_A [(mo, .inr (4, [.int th, .ref aS, .ref aA, .ref aB, .ref aT, .ref aU, .int (nI M.length), .ref aO, .int (nI O.length), .ref aI, .int (nI I.length), .ref bS, .ref bA, .ref bB, .ref bT, .ref bU, .int nm, .int pp, .int ft, .int pl, .int va, .int vb])), (aO, .inl (cI, 4200, .inl fo)), (aI, .inl (cI, 8192, .inl fi))] sz) := by
  refine Met.ofW (cc := prog_7_method_14_code) (maxL := 2) (ret := none) (by decide) rfl ?_
  intro p e s m args below meth c s₁ B hml hv
  obtain ⟨rfl, hsz, hP, hK, hD0⟩ := hv
  have hx := B.exec
  have hb := B.bytes
  have hr := B.returns
  have hts := fun w h => atoms_spec (ws := w_Mo_turnOver) B.pre w (List.mem_cons_of_mem _ h)
  have hown : s.vm.findClass "DemoTapeModel" = some m.cls := findClass_of_methodNamed B.named
  have hlocks := B.notSynchronized
  subst hsz
  have hD := hD0.self (sz := s.heap.size)
  generalize hAe : va_A ([(mo, .inr (4, [.int th, .ref aS, .ref aA, .ref aB, .ref aT, .ref aU, .int (nI M.length), .ref aO, .int (nI O.length), .ref aI, .int (nI I.length), .ref bS, .ref bA, .ref bB, .ref bT, .ref bU, .int nm, .int pp, .int ft, .int pl, .int va, .int vb])), (aO, .inl (cI, 4200, .inl fo)), (aI, .inl (cI, 8192, .inl fi))] : va_W) s.heap.size = A at hD ⊢
  have hA : ∀ q : Nat, s.heap.size ≤ q → A q := fun q h => by rw [← hAe]; exact Or.inr h
  have hS : va_S A s.heap s.heap [] := va_S.rf
  have hP : va_P (dC, dI) classes [(mo, .inr (4, [.int th, .ref aS, .ref aA, .ref aB, .ref aT, .ref aU, .int (nI M.length), .ref aO, .int (nI O.length), .ref aI, .int (nI I.length), .ref bS, .ref bA, .ref bB, .ref bT, .ref bU, .int nm, .int pp, .int ft, .int pl, .int va, .int vb])), (aO, .inl (cI, 4200, .inl fo)), (aI, .inl (cI, 8192, .inl fi))] s.heap := hP
  have hOl := hO.2.2
  have hl := lv_entry ([.ref mo]) (n := 2) (Nat.le_of_ble_eq_true rfl)
  rw [lg_entry_eq]
  generalize (lg_sl ([.ref mo]) ++ List.replicate (2 - (lg_sl ([.ref mo])).length) Slot.unset).toArray = ls at hl ⊢
  have hl : lv_has ls 2 [(0, .ref mo)] := hl
  have J_7 : ∀ (fuel : Nat) (j : Nat) (f2 : Nat → Int32), (O.length - j < fuel) → (j ≤ O.length) → (∀ i, i < j → f2 i = fo i) → ∀ (H : Heap) (locs : List Loc), va_P (dC, dI) classes [(mo, .inr (4, [.int 0, .ref aS, .ref aA, .ref aB, .ref aT, .ref aU, .int (nI M.length), .ref aO, .int (nI O.length), .ref aI, .int (nI I.length), .ref bS, .ref bA, .ref bB, .ref bT, .ref bU, .int nm, .int pp, .int ft, .int pl, .int va, .int vb])), (aO, .inl (cI, 4200, .inl fo)), (aI, .inl (cI, 8192, .inl f2))] H → va_D A [(mo, .inr (4, [.int 0, .ref aS, .ref aA, .ref aB, .ref aT, .ref aU, .int (nI M.length), .ref aO, .int (nI O.length), .ref aI, .int (nI I.length), .ref bS, .ref bA, .ref bB, .ref bT, .ref bU, .int nm, .int pp, .int ft, .int pl, .int va, .int vb])), (aO, .inl (cI, 4200, .inl fo)), (aI, .inl (cI, 8192, .inl f2))] → va_S A s.heap H locs → ∀ (ls : Array Slot), lv_has ls 2 [(0, .ref mo), (1, .int (nI j))] → W p l e (headSpec w_Mo_turnOver ({ frames := 0, cells := 0, slots := 0, locals := 0 })).room s m [.ref mo].toArray below meth c H locs 0 0 (MQ below (Qc_Mo_turnOver dC dI cI cB cZ mo th aS aA aB aT aU M aO O aI I bS bA bB bT bU nm pp ft pl va vb fo fi A) [.ref mo].toArray s 0 0 A) (F0 m 7 ls []) := by
    intro fuel
    induction fuel with
    | zero => intro j f2 hm; exact absurd hm (Nat.not_lt_zero _)
    | succ fuel ih_7 =>
      intro j f2 hm hj hf H locs hP hD hS ls hl
      refine lv_iload_n hx hb d_Mo_turnOver_7 rfl (lv_at hl 1 rfl) ?_
      refine lv_aload_n hx hb d_Mo_turnOver_8 rfl (lv_at hl 0 rfl) ?_
      refine va_get (D := (dC, dI)) (ci := 4) (v := .int (nI O.length)) (C := "DemoTapeModel") (T := F_Mo) (N := 22) hx hb hts i_Mo hown hK hP 0 rfl rfl 8 (by decide) (hts _ mw392) (fun _ h9 => h9) rfl d_Mo_turnOver_9 ?_
      refine lv_icmp_ge (tgt := 33) hx hb d_Mo_turnOver_12 (by decide) (fun c_12 => ?_) (fun c_12 => ?_)
      · have n_12 := kn_le (a := O.length) (b := j) c_12 rfl rfl (by omega) (by omega)
        refine lv_aload_n hx hb d_Mo_turnOver_33 rfl (lv_at hl 0 rfl) ?_
        refine lv_aload_n hx hb d_Mo_turnOver_34 rfl (lv_at hl 0 rfl) ?_
        refine va_get (D := (dC, dI)) (ci := 4) (v := .int (nI O.length)) (C := "DemoTapeModel") (T := F_Mo) (N := 22) hx hb hts i_Mo hown hK hP 0 rfl rfl 8 (by decide) (hts _ mw392) (fun _ h9 => h9) rfl d_Mo_turnOver_35 ?_
        refine va_put (D := (dC, dI)) (ci := 4) (v := .int (nI O.length)) (ty := .int) (C := "DemoTapeModel") (T := F_Mo) (N := 22) hx hb hts i_Mo t_Mo t_Mo_ok n_Mo hown hK hP hD hS 0 rfl rfl 10 (by decide) (hts _ mw394) (fun _ h9 => h9) rfl (by decide +kernel) rfl rfl (Nat.le_of_ble_eq_true rfl) d_Mo_turnOver_38 (fun H locs hP hD hS => ?_)
        have hP : va_P (dC, dI) classes [(mo, .inr (4, [.int 0, .ref aS, .ref aA, .ref aB, .ref aT, .ref aU, .int (nI M.length), .ref aO, .int (nI O.length), .ref aI, .int (nI O.length), .ref bS, .ref bA, .ref bB, .ref bT, .ref bU, .int nm, .int pp, .int ft, .int pl, .int va, .int vb])), (aO, .inl (cI, 4200, .inl fo)), (aI, .inl (cI, 8192, .inl f2))] H := hP
        have hD : va_D A [(mo, .inr (4, [.int 0, .ref aS, .ref aA, .ref aB, .ref aT, .ref aU, .int (nI M.length), .ref aO, .int (nI O.length), .ref aI, .int (nI O.length), .ref bS, .ref bA, .ref bB, .ref bT, .ref bU, .int nm, .int pp, .int ft, .int pl, .int va, .int vb])), (aO, .inl (cI, 4200, .inl fo)), (aI, .inl (cI, 8192, .inl f2))] := hD
        exact kr_v f2 hx hb hr hK (hP.sub [0, 1, 2] (rfl)) (hD.sub [0, 1, 2] (by decide) (rfl)) hS (kCpy_row hO (by omega) hf) d_Mo_turnOver_41 hlocks
      · have n_12 := kn_nle (a := O.length) (b := j) c_12 rfl rfl (by omega) (by omega)
        refine lv_aload_n hx hb d_Mo_turnOver_15 rfl (lv_at hl 0 rfl) ?_
        refine va_get (D := (dC, dI)) (ci := 4) (v := .ref aI) (C := "DemoTapeModel") (T := F_Mo) (N := 22) hx hb hts i_Mo hown hK hP 0 rfl rfl 9 (by decide) (hts _ mw393) (fun _ h9 => h9) rfl d_Mo_turnOver_16 ?_
        refine lv_iload_n hx hb d_Mo_turnOver_19 rfl (lv_at hl 1 rfl) ?_
        refine lv_aload_n hx hb d_Mo_turnOver_20 rfl (lv_at hl 0 rfl) ?_
        refine va_get (D := (dC, dI)) (ci := 4) (v := .ref aO) (C := "DemoTapeModel") (T := F_Mo) (N := 22) hx hb hts i_Mo hown hK hP 0 rfl rfl 7 (by decide) (hts _ mw391) (fun _ h9 => h9) rfl d_Mo_turnOver_21 ?_
        refine lv_iload_n hx hb d_Mo_turnOver_24 rfl (lv_at hl 1 rfl) ?_
        refine kt_iald (j := j) hx hb hK hP 1 0 rfl rfl (by omega) (by decide) d_Mo_turnOver_25 ?_
        refine kt_iast (j := j) hx hb hK hP hD hS 2 0 rfl rfl (by omega) (by decide) d_Mo_turnOver_26 (fun H locs hP hD hS => ?_)
        have hP : va_P (dC, dI) classes [(mo, .inr (4, [.int 0, .ref aS, .ref aA, .ref aB, .ref aT, .ref aU, .int (nI M.length), .ref aO, .int (nI O.length), .ref aI, .int (nI I.length), .ref bS, .ref bA, .ref bB, .ref bT, .ref bU, .int nm, .int pp, .int ft, .int pl, .int va, .int vb])), (aO, .inl (cI, 4200, .inl fo)), (aI, .inl (cI, 8192, .inl (upd f2 j (fo j))))] H := hP
        have hD : va_D A [(mo, .inr (4, [.int 0, .ref aS, .ref aA, .ref aB, .ref aT, .ref aU, .int (nI M.length), .ref aO, .int (nI O.length), .ref aI, .int (nI I.length), .ref bS, .ref bA, .ref bB, .ref bT, .ref bU, .int nm, .int pp, .int ft, .int pl, .int va, .int vb])), (aO, .inl (cI, 4200, .inl fo)), (aI, .inl (cI, 8192, .inl (upd f2 j (fo j))))] := hD
        refine lv_iinc (v := nI (j + 1)) (lv' := [(1, .int (nI (j + 1))), (0, .ref mo)]) hx hb d_Mo_turnOver_27 hl (k := 1) rfl (by first | rfl | exact nI_1 _) (by decide) rfl (fun ls hl => ?_)
        refine lv_goto (tgt := 7) hx hb d_Mo_turnOver_30 (by decide) ?_
        exact ih_7 (j + 1) (upd f2 j (fo j)) (by omega) (by first | with_reducible assumption | omega) (kCpy_step hf) _ _ (hP.sub [0, 1, 2] (rfl)) (hD.sub [0, 1, 2] (by decide) (rfl)) hS ls (lv_sub hl [1, 0] rfl)
  refine lv_aload_n hx hb d_Mo_turnOver_0 rfl (lv_at hl 0 rfl) ?_
  refine lv_iconst (v := 0) hx hb d_Mo_turnOver_1 (by decide) ?_
  refine va_put (D := (dC, dI)) (ci := 4) (v := .int 0) (ty := .int) (C := "DemoTapeModel") (T := F_Mo) (N := 22) hx hb hts i_Mo t_Mo t_Mo_ok n_Mo hown hK hP hD hS 0 rfl rfl 0 (by decide) (hts _ mw384) (fun _ h9 => h9) rfl (by decide +kernel) rfl rfl (Nat.le_of_ble_eq_true rfl) d_Mo_turnOver_2 (fun H locs hP hD hS => ?_)
  have hP : va_P (dC, dI) classes [(mo, .inr (4, [.int 0, .ref aS, .ref aA, .ref aB, .ref aT, .ref aU, .int (nI M.length), .ref aO, .int (nI O.length), .ref aI, .int (nI I.length), .ref bS, .ref bA, .ref bB, .ref bT, .ref bU, .int nm, .int pp, .int ft, .int pl, .int va, .int vb])), (aO, .inl (cI, 4200, .inl fo)), (aI, .inl (cI, 8192, .inl fi))] H := hP
  have hD : va_D A [(mo, .inr (4, [.int 0, .ref aS, .ref aA, .ref aB, .ref aT, .ref aU, .int (nI M.length), .ref aO, .int (nI O.length), .ref aI, .int (nI I.length), .ref bS, .ref bA, .ref bB, .ref bT, .ref bU, .int nm, .int pp, .int ft, .int pl, .int va, .int vb])), (aO, .inl (cI, 4200, .inl fo)), (aI, .inl (cI, 8192, .inl fi))] := hD
  refine lv_iconst (v := 0) hx hb d_Mo_turnOver_5 (by decide) ?_
  refine lv_istore_n (lv' := [(1, .int 0), (0, .ref mo)]) hx hb d_Mo_turnOver_6 rfl hl (by decide) rfl (fun ls hl => ?_)
  exact J_7 _ 0 fi (Nat.lt_succ_self _) (by first | with_reducible assumption | omega) (fun i hi => absurd hi (Nat.not_lt_zero _)) _ _ (hP.sub [0, 1, 2] (rfl)) (hD.sub [0, 1, 2] (by decide) (rfl)) hS ls (lv_sub hl [1, 0] rfl)
abbrev Qc_Mo_begin (dC : Nat → ClassId) (dI : Nat → Nat → Nat) (cI cB cZ : ClassId) (mo : Nat) (th : Int32) (aS : Nat) (aA : Nat) (aB : Nat) (aT : Nat) (aU : Nat) (M : List Int32) (aO : Nat) (O : List Nat) (aI : Nat) (I : List Nat) (bS : Nat) (bA : Nat) (bB : Nat) (bT : Nat) (bU : Nat) (nm : Int32) (pp : Int32) (ft : Int32) (pl : Int32) (va : Int32) (vb : Int32) (fS : Nat → Int32) (v4 : Int32 × Int32 × Int32 × Int32) (pw : Int32) (A : Nat → Prop) := va_Qi (fun (r9 : Int32) (_ : Unit) => (r9 = kStart v4.1 v4.2.1 v4.2.2.1 v4.2.2.2 pw)) (ka (dC, dI) classes [(cI, .int), (cB, .byte), (cZ, .boolean)] (fun (_ : Unit) => [(mo, .inr (4, [.int 0, .ref aS, .ref aA, .ref aB, .ref aT, .ref aU, .int (nI M.length), .ref aO, .int (nI O.length), .ref aI, .int (nI I.length), .ref bS, .ref bA, .ref bB, .ref bT, .ref bU, .int nm, .int pp, .int ft, .int pl, .int va, .int vb])), (aS, .inl (cI, 4, .inl fS))]) A) A
set_option maxHeartbeats 1000000 in
set_option maxRecDepth 100000 in
/-- Model.begin -/
theorem c_Mo_begin (l : Launch) (dC : Nat → ClassId) (dI : Nat → Nat → Nat) (cI cB cZ : ClassId) (sz : Nat) (mo : Nat) (th : Int32) (aS : Nat) (aA : Nat) (aB : Nat) (aT : Nat) (aU : Nat) (M : List Int32) (aO : Nat) (O : List Nat) (aI : Nat) (I : List Nat) (bS : Nat) (bA : Nat) (bB : Nat) (bT : Nat) (bU : Nat) (nm : Int32) (pp : Int32) (ft : Int32) (pl : Int32) (va : Int32) (vb : Int32) (fS : Nat → Int32) (v4 : Int32 × Int32 × Int32 × Int32) (pw : Int32) (hQ : HoldQ fS v4) : Met l y_Mo_begin w_Mo_begin ({ frames := 0, cells := 0, slots := 0, locals := 0 }) (va_Pc [.ref mo, .int pw] (kp (dC, dI) classes [(cI, .int), (cB, .byte), (cZ, .boolean)] [(mo, .inr (4, [.int th, .ref aS, .ref aA, .ref aB, .ref aT, .ref aU, .int (nI M.length), .ref aO, .int (nI O.length), .ref aI, .int (nI I.length), .ref bS, .ref bA, .ref bB, .ref bT, .ref bU, .int nm, .int pp, .int ft, .int pl, .int va, .int vb])), (aS, .inl (cI, 4, .inl fS))] sz)) (Qc_Mo_begin dC dI cI cB cZ mo th aS aA aB aT aU M aO O aI I bS bA bB bT bU nm pp ft pl va vb fS v4 pw (va_A [(mo, .inr (4, [.int th, .ref aS, .ref aA, .ref aB, .ref aT, .ref aU, .int (nI M.length), .ref aO, .int (nI O.length), .ref aI, .int (nI I.length), .ref bS, .ref bA, .ref bB, .ref bT, .ref bU, .int nm, .int pp, .int ft, .int pl, .int va, .int vb])), (aS, .inl (cI, 4, .inl fS))] sz)) 0 0 (va_A [(mo, .inr (4, [.int th, .ref aS, .ref aA, .ref aB, .ref aT, .ref aU, .int (nI M.length), .ref aO, .int (nI O.length), .ref aI, .int (nI I.length), .ref bS, .ref bA, .ref bB, .ref bT, .ref bU, .int nm, .int pp, .int ft, .int pl, .int va, .int vb])), (aS, .inl (cI, 4, .inl fS))] sz) := by
  refine Met.ofW (cc := prog_7_method_25_code) (maxL := 2) (ret := (some .int)) (by decide) rfl ?_
  intro p e s m args below meth c s₁ B hml hv
  obtain ⟨rfl, hsz, hP, hK, hD0⟩ := hv
  have hx := B.exec
  have hb := B.bytes
  have hr := B.returns
  have hts := fun w h => atoms_spec (ws := w_Mo_begin) B.pre w (List.mem_cons_of_mem _ h)
  have hown : s.vm.findClass "DemoTapeModel" = some m.cls := findClass_of_methodNamed B.named
  have hlocks := B.notSynchronized
  subst hsz
  have hD := hD0.self (sz := s.heap.size)
  generalize hAe : va_A ([(mo, .inr (4, [.int th, .ref aS, .ref aA, .ref aB, .ref aT, .ref aU, .int (nI M.length), .ref aO, .int (nI O.length), .ref aI, .int (nI I.length), .ref bS, .ref bA, .ref bB, .ref bT, .ref bU, .int nm, .int pp, .int ft, .int pl, .int va, .int vb])), (aS, .inl (cI, 4, .inl fS))] : va_W) s.heap.size = A at hD ⊢
  have hA : ∀ q : Nat, s.heap.size ≤ q → A q := fun q h => by rw [← hAe]; exact Or.inr h
  have hS : va_S A s.heap s.heap [] := va_S.rf
  have hP : va_P (dC, dI) classes [(mo, .inr (4, [.int th, .ref aS, .ref aA, .ref aB, .ref aT, .ref aU, .int (nI M.length), .ref aO, .int (nI O.length), .ref aI, .int (nI I.length), .ref bS, .ref bA, .ref bB, .ref bT, .ref bU, .int nm, .int pp, .int ft, .int pl, .int va, .int vb])), (aS, .inl (cI, 4, .inl fS))] s.heap := hP
  have hl := lv_entry ([.ref mo, .int pw]) (n := 2) (Nat.le_of_ble_eq_true rfl)
  rw [lg_entry_eq]
  generalize (lg_sl ([.ref mo, .int pw]) ++ List.replicate (2 - (lg_sl ([.ref mo, .int pw])).length) Slot.unset).toArray = ls at hl ⊢
  have hl : lv_has ls 2 [(0, .ref mo), (1, .int pw)] := hl
  refine lv_aload_n hx hb d_Mo_begin_0 rfl (lv_at hl 0 rfl) ?_
  refine lv_iconst (v := 0) hx hb d_Mo_begin_1 (by decide) ?_
  refine va_put (D := (dC, dI)) (ci := 4) (v := .int 0) (ty := .int) (C := "DemoTapeModel") (T := F_Mo) (N := 22) hx hb hts i_Mo t_Mo t_Mo_ok n_Mo hown hK hP hD hS 0 rfl rfl 0 (by decide) (hts _ mw384) (fun _ h9 => h9) rfl (by decide +kernel) rfl rfl (Nat.le_of_ble_eq_true rfl) d_Mo_begin_2 (fun H locs hP hD hS => ?_)
  have hP : va_P (dC, dI) classes [(mo, .inr (4, [.int 0, .ref aS, .ref aA, .ref aB, .ref aT, .ref aU, .int (nI M.length), .ref aO, .int (nI O.length), .ref aI, .int (nI I.length), .ref bS, .ref bA, .ref bB, .ref bT, .ref bU, .int nm, .int pp, .int ft, .int pl, .int va, .int vb])), (aS, .inl (cI, 4, .inl fS))] H := hP
  have hD : va_D A [(mo, .inr (4, [.int 0, .ref aS, .ref aA, .ref aB, .ref aT, .ref aU, .int (nI M.length), .ref aO, .int (nI O.length), .ref aI, .int (nI I.length), .ref bS, .ref bA, .ref bB, .ref bT, .ref bU, .int nm, .int pp, .int ft, .int pl, .int va, .int vb])), (aS, .inl (cI, 4, .inl fS))] := hD
  refine lv_iload_n hx hb d_Mo_begin_5 rfl (lv_at hl 1 rfl) ?_
  refine lv_if_lt (tgt := 14) hx hb d_Mo_begin_6 (by decide) (fun c_6 => ?_) (fun c_6 => ?_)
  · refine lv_ldc (v := 100000) hx hb hown (hts _ mw542) d_Mo_begin_14 ?_
    refine lv_goto (tgt := 25) hx hb d_Mo_begin_16 (by decide) ?_
    exact kr_i (v := 100000) () hx hb hr rfl hK (hP.sub [0, 1] (rfl)) (hD.sub [0, 1] (by decide) (rfl)) hS ((kStart_out (Or.inl (by rw [k32_lt] at c_6; exact c_6))).symm) d_Mo_begin_25 hlocks
  · obtain ⟨k, hk, rfl⟩ := nI_of c_6
    refine lv_iload_n hx hb d_Mo_begin_9 rfl (lv_at hl 1 rfl) ?_
    refine lv_iconst (v := 3) hx hb d_Mo_begin_10 (by decide) ?_
    refine lv_icmp_le (tgt := 19) hx hb d_Mo_begin_11 (by decide) (fun c_11 => ?_) (fun c_11 => ?_)
    · have n_11 := kn_le (a := k) (b := 3) c_11 rfl rfl (by omega) (by omega)
      refine lv_aload_n hx hb d_Mo_begin_19 rfl (lv_at hl 0 rfl) ?_
      refine va_get (D := (dC, dI)) (ci := 4) (v := .ref aS) (C := "DemoTapeModel") (T := F_Mo) (N := 22) hx hb hts i_Mo hown hK hP 0 rfl rfl 1 (by decide) (hts _ mw385) (fun _ h9 => h9) rfl d_Mo_begin_20 ?_
      refine lv_iload_n hx hb d_Mo_begin_23 rfl (lv_at hl 1 rfl) ?_
      refine kt_iald (j := k) hx hb hK hP 1 0 rfl rfl (by omega) (by decide) d_Mo_begin_24 ?_
      exact kr_i (v := fS k) () hx hb hr rfl hK (hP.sub [0, 1] (rfl)) (hD.sub [0, 1] (by decide) (rfl)) hS ((kStart_in hQ (by omega)).symm) d_Mo_begin_25 hlocks
    · have n_11 := kn_nle (a := k) (b := 3) c_11 rfl rfl (by omega) (by omega)
      refine lv_ldc (v := 100000) hx hb hown (hts _ mw542) d_Mo_begin_14 ?_
      refine lv_goto (tgt := 25) hx hb d_Mo_begin_16 (by decide) ?_
      exact kr_i (v := 100000) () hx hb hr rfl hK (hP.sub [0, 1] (rfl)) (hD.sub [0, 1] (by decide) (rfl)) hS ((kStart_out (Or.inr (by have h9 := Int32.not_le.mp c_11; rw [k32_lt] at h9; exact h9))).symm) d_Mo_begin_25 hlocks
abbrev Qc_Mo_byteAt (dC : Nat → ClassId) (dI : Nat → Nat → Nat) (cI cB cZ : ClassId) (mo : Nat) (th : Int32) (aS : Nat) (aA : Nat) (aB : Nat) (aT : Nat) (aU : Nat) (M : List Int32) (aO : Nat) (O : List Nat) (aI : Nat) (I : List Nat) (bS : Nat) (bA : Nat) (bB : Nat) (bT : Nat) (bU : Nat) (nm : Int32) (pp : Int32) (ft : Int32) (pl : Int32) (va : Int32) (vb : Int32) (fo : Nat → Int32) (fi : Nat → Int32) (pk : Int32) (pz : Int32) (A : Nat → Prop) := va_Qi (fun (r9 : Int32) (_ : Unit) => (r9 = if pz = 0 then kGetB O pk else kGetB I pk)) (ka (dC, dI) classes [(cI, .int), (cB, .byte), (cZ, .boolean)] (fun (_ : Unit) => [(mo, .inr (4, [.int 0, .ref aS, .ref aA, .ref aB, .ref aT, .ref aU, .int (nI M.length), .ref aO, .int (nI O.length), .ref aI, .int (nI I.length), .ref bS, .ref bA, .ref bB, .ref bT, .ref bU, .int nm, .int pp, .int ft, .int pl, .int va, .int vb])), (aO, .inl (cI, 4200, .inl fo)), (aI, .inl (cI, 8192, .inl fi))]) A) A
set_option maxHeartbeats 1000000 in
set_option maxRecDepth 100000 in
/-- Model.byteAt -/
theorem c_Mo_byteAt (l : Launch) (dC : Nat → ClassId) (dI : Nat → Nat → Nat) (cI cB cZ : ClassId) (sz : Nat) (mo : Nat) (th : Int32) (aS : Nat) (aA : Nat) (aB : Nat) (aT : Nat) (aU : Nat) (M : List Int32) (aO : Nat) (O : List Nat) (aI : Nat) (I : List Nat) (bS : Nat) (bA : Nat) (bB : Nat) (bT : Nat) (bU : Nat) (nm : Int32) (pp : Int32) (ft : Int32) (pl : Int32) (va : Int32) (vb : Int32) (fo : Nat → Int32) (fi : Nat → Int32) (pk : Int32) (pz : Int32) (hO : NRow 4200 fo O) (hI : NRow 8192 fi I) : Met l y_Mo_byteAt w_Mo_byteAt ({ frames := 0, cells := 0, slots := 0, locals := 0 }) (va_Pc [.ref mo, .int pk, .int pz] (kp (dC, dI) classes [(cI, .int), (cB, .byte), (cZ, .boolean)] [(mo, .inr (4, [.int th, .ref aS, .ref aA, .ref aB, .ref aT, .ref aU, .int (nI M.length), .ref aO, .int (nI O.length), .ref aI, .int (nI I.length), .ref bS, .ref bA, .ref bB, .ref bT, .ref bU, .int nm, .int pp, .int ft, .int pl, .int va, .int vb])), (aO, .inl (cI, 4200, .inl fo)), (aI, .inl (cI, 8192, .inl fi))] sz)) (Qc_Mo_byteAt dC dI cI cB cZ mo th aS aA aB aT aU M aO O aI I bS bA bB bT bU nm pp ft pl va vb fo fi pk pz (va_A [(mo, .inr (4, [.int th, .ref aS, .ref aA, .ref aB, .ref aT, .ref aU, .int (nI M.length), .ref aO, .int (nI O.length), .ref aI, .int (nI I.length), .ref bS, .ref bA, .ref bB, .ref bT, .ref bU, .int nm, .int pp, .int ft, .int pl, .int va, .int vb])), (aO, .inl (cI, 4200, .inl fo)), (aI, .inl (cI, 8192, .inl fi))] sz)) 0 0 (va_A [(mo, .inr (4, [.int th, .ref aS, .ref aA, .ref aB, .ref aT, .ref aU, .int (nI M.length), .ref aO, .int (nI O.length), .ref aI, .int (nI I.length), .ref bS, .ref bA, .ref bB, .ref bT, .ref bU, .int nm, .int pp, .int ft, .int pl, .int va, .int vb])), (aO, .inl (cI, 4200, .inl fo)), (aI, .inl (cI, 8192, .inl fi))] sz) := by
  refine Met.ofW (cc := prog_7_method_26_code) (maxL := 3) (ret := (some .int)) (by decide) rfl ?_
  intro p e s m args below meth c s₁ B hml hv
  obtain ⟨rfl, hsz, hP, hK, hD0⟩ := hv
  have hx := B.exec
  have hb := B.bytes
  have hr := B.returns
  have hts := fun w h => atoms_spec (ws := w_Mo_byteAt) B.pre w (List.mem_cons_of_mem _ h)
  have hown : s.vm.findClass "DemoTapeModel" = some m.cls := findClass_of_methodNamed B.named
  have hlocks := B.notSynchronized
  subst hsz
  have hD := hD0.self (sz := s.heap.size)
  generalize hAe : va_A ([(mo, .inr (4, [.int th, .ref aS, .ref aA, .ref aB, .ref aT, .ref aU, .int (nI M.length), .ref aO, .int (nI O.length), .ref aI, .int (nI I.length), .ref bS, .ref bA, .ref bB, .ref bT, .ref bU, .int nm, .int pp, .int ft, .int pl, .int va, .int vb])), (aO, .inl (cI, 4200, .inl fo)), (aI, .inl (cI, 8192, .inl fi))] : va_W) s.heap.size = A at hD ⊢
  have hA : ∀ q : Nat, s.heap.size ≤ q → A q := fun q h => by rw [← hAe]; exact Or.inr h
  have hS : va_S A s.heap s.heap [] := va_S.rf
  have hP : va_P (dC, dI) classes [(mo, .inr (4, [.int th, .ref aS, .ref aA, .ref aB, .ref aT, .ref aU, .int (nI M.length), .ref aO, .int (nI O.length), .ref aI, .int (nI I.length), .ref bS, .ref bA, .ref bB, .ref bT, .ref bU, .int nm, .int pp, .int ft, .int pl, .int va, .int vb])), (aO, .inl (cI, 4200, .inl fo)), (aI, .inl (cI, 8192, .inl fi))] s.heap := hP
  have hOl := hO.2.2
  have hIl := hI.2.2
  have hl := lv_entry ([.ref mo, .int pk, .int pz]) (n := 3) (Nat.le_of_ble_eq_true rfl)
  rw [lg_entry_eq]
  generalize (lg_sl ([.ref mo, .int pk, .int pz]) ++ List.replicate (3 - (lg_sl ([.ref mo, .int pk, .int pz])).length) Slot.unset).toArray = ls at hl ⊢
  have hl : lv_has ls 3 [(0, .ref mo), (1, .int pk), (2, .int pz)] := hl
  refine lv_aload_n hx hb d_Mo_byteAt_0 rfl (lv_at hl 0 rfl) ?_
  refine lv_iconst (v := 0) hx hb d_Mo_byteAt_1 (by decide) ?_
  refine va_put (D := (dC, dI)) (ci := 4) (v := .int 0) (ty := .int) (C := "DemoTapeModel") (T := F_Mo) (N := 22) hx hb hts i_Mo t_Mo t_Mo_ok n_Mo hown hK hP hD hS 0 rfl rfl 0 (by decide) (hts _ mw384) (fun _ h9 => h9) rfl (by decide +kernel) rfl rfl (Nat.le_of_ble_eq_true rfl) d_Mo_byteAt_2 (fun H locs hP hD hS => ?_)
  have hP : va_P (dC, dI) classes [(mo, .inr (4, [.int 0, .ref aS, .ref aA, .ref aB, .ref aT, .ref aU, .int (nI M.length), .ref aO, .int (nI O.length), .ref aI, .int (nI I.length), .ref bS, .ref bA, .ref bB, .ref bT, .ref bU, .int nm, .int pp, .int ft, .int pl, .int va, .int vb])), (aO, .inl (cI, 4200, .inl fo)), (aI, .inl (cI, 8192, .inl fi))] H := hP
  have hD : va_D A [(mo, .inr (4, [.int 0, .ref aS, .ref aA, .ref aB, .ref aT, .ref aU, .int (nI M.length), .ref aO, .int (nI O.length), .ref aI, .int (nI I.length), .ref bS, .ref bA, .ref bB, .ref bT, .ref bU, .int nm, .int pp, .int ft, .int pl, .int va, .int vb])), (aO, .inl (cI, 4200, .inl fo)), (aI, .inl (cI, 8192, .inl fi))] := hD
  refine lv_iload_n hx hb d_Mo_byteAt_5 rfl (lv_at hl 1 rfl) ?_
  refine lv_if_lt (tgt := 28) hx hb d_Mo_byteAt_6 (by decide) (fun c_6 => ?_) (fun c_6 => ?_)
  · refine lv_iconst (v := -1) hx hb d_Mo_byteAt_28 (by decide) ?_
    refine lv_goto (tgt := 51) hx hb d_Mo_byteAt_29 (by decide) ?_
    exact kr_i (v := -1) () hx hb hr rfl hK (hP.sub [0, 1, 2] (rfl)) (hD.sub [0, 1, 2] (by decide) (rfl)) hS (by rw [kGetB_neg c_6, kGetB_neg c_6]; exact (ite_self _).symm) d_Mo_byteAt_51 hlocks
  · obtain ⟨k, hk, rfl⟩ := nI_of c_6
    refine lv_iload_n hx hb d_Mo_byteAt_9 rfl (lv_at hl 1 rfl) ?_
    refine lv_iload_n hx hb d_Mo_byteAt_10 rfl (lv_at hl 2 rfl) ?_
    refine lv_if_eq (tgt := 21) hx hb d_Mo_byteAt_11 (by decide) (fun c_11 => ?_) (fun c_11 => ?_)
    · refine lv_aload_n hx hb d_Mo_byteAt_21 rfl (lv_at hl 0 rfl) ?_
      refine va_get (D := (dC, dI)) (ci := 4) (v := .int (nI O.length)) (C := "DemoTapeModel") (T := F_Mo) (N := 22) hx hb hts i_Mo hown hK hP 0 rfl rfl 8 (by decide) (hts _ mw392) (fun _ h9 => h9) rfl d_Mo_byteAt_22 ?_
      refine lv_icmp_lt (tgt := 32) hx hb d_Mo_byteAt_25 (by decide) (fun c_25 => ?_) (fun c_25 => ?_)
      · have n_25 := kn_lt (a := k) (b := O.length) c_25 rfl rfl (by omega) (by omega)
        refine lv_iload_n hx hb d_Mo_byteAt_32 rfl (lv_at hl 2 rfl) ?_
        refine lv_if_eq (tgt := 45) hx hb d_Mo_byteAt_33 (by decide) (fun c_33 => ?_) (fun c_33 => ?_)
        · refine lv_aload_n hx hb d_Mo_byteAt_45 rfl (lv_at hl 0 rfl) ?_
          refine va_get (D := (dC, dI)) (ci := 4) (v := .ref aO) (C := "DemoTapeModel") (T := F_Mo) (N := 22) hx hb hts i_Mo hown hK hP 0 rfl rfl 7 (by decide) (hts _ mw391) (fun _ h9 => h9) rfl d_Mo_byteAt_46 ?_
          refine lv_iload_n hx hb d_Mo_byteAt_49 rfl (lv_at hl 1 rfl) ?_
          refine kt_iald (j := k) hx hb hK hP 1 0 rfl rfl (by omega) (by decide) d_Mo_byteAt_50 ?_
          exact kr_i (v := fo k) () hx hb hr rfl hK (hP.sub [0, 1, 2] (rfl)) (hD.sub [0, 1, 2] (by decide) (rfl)) hS (by rw [if_pos c_11, kGetB_nI hk]; exact hO.get n_25) d_Mo_byteAt_51 hlocks
        · exact absurd c_11 c_33
      · have n_25 := kn_nlt (a := k) (b := O.length) c_25 rfl rfl (by omega) (by omega)
        refine lv_iconst (v := -1) hx hb d_Mo_byteAt_28 (by decide) ?_
        refine lv_goto (tgt := 51) hx hb d_Mo_byteAt_29 (by decide) ?_
        exact kr_i (v := -1) () hx hb hr rfl hK (hP.sub [0, 1, 2] (rfl)) (hD.sub [0, 1, 2] (by decide) (rfl)) hS (by rw [if_pos c_11, kGetB_nI hk, List.getElem?_eq_none n_25]; rfl) d_Mo_byteAt_51 hlocks
    · refine lv_aload_n hx hb d_Mo_byteAt_14 rfl (lv_at hl 0 rfl) ?_
      refine va_get (D := (dC, dI)) (ci := 4) (v := .int (nI I.length)) (C := "DemoTapeModel") (T := F_Mo) (N := 22) hx hb hts i_Mo hown hK hP 0 rfl rfl 10 (by decide) (hts _ mw394) (fun _ h9 => h9) rfl d_Mo_byteAt_15 ?_
      refine lv_goto (tgt := 25) hx hb d_Mo_byteAt_18 (by decide) ?_
      refine lv_icmp_lt (tgt := 32) hx hb d_Mo_byteAt_25 (by decide) (fun c_25 => ?_) (fun c_25 => ?_)
      · have n_25 := kn_lt (a := k) (b := I.length) c_25 rfl rfl (by omega) (by omega)
        refine lv_iload_n hx hb d_Mo_byteAt_32 rfl (lv_at hl 2 rfl) ?_
        refine lv_if_eq (tgt := 45) hx hb d_Mo_byteAt_33 (by decide) (fun c_33 => ?_) (fun c_33 => ?_)
        · exact absurd c_33 (c_11)
        · refine lv_aload_n hx hb d_Mo_byteAt_36 rfl (lv_at hl 0 rfl) ?_
          refine va_get (D := (dC, dI)) (ci := 4) (v := .ref aI) (C := "DemoTapeModel") (T := F_Mo) (N := 22) hx hb hts i_Mo hown hK hP 0 rfl rfl 9 (by decide) (hts _ mw393) (fun _ h9 => h9) rfl d_Mo_byteAt_37 ?_
          refine lv_iload_n hx hb d_Mo_byteAt_40 rfl (lv_at hl 1 rfl) ?_
          refine kt_iald (j := k) hx hb hK hP 2 0 rfl rfl (by omega) (by decide) d_Mo_byteAt_41 ?_
          refine lv_goto (tgt := 51) hx hb d_Mo_byteAt_42 (by decide) ?_
          exact kr_i (v := fi k) () hx hb hr rfl hK (hP.sub [0, 1, 2] (rfl)) (hD.sub [0, 1, 2] (by decide) (rfl)) hS (by rw [if_neg c_11, kGetB_nI hk]; exact hI.get n_25) d_Mo_byteAt_51 hlocks
      · have n_25 := kn_nlt (a := k) (b := I.length) c_25 rfl rfl (by omega) (by omega)
        refine lv_iconst (v := -1) hx hb d_Mo_byteAt_28 (by decide) ?_
        refine lv_goto (tgt := 51) hx hb d_Mo_byteAt_29 (by decide) ?_
        exact kr_i (v := -1) () hx hb hr rfl hK (hP.sub [0, 1, 2] (rfl)) (hD.sub [0, 1, 2] (by decide) (rfl)) hS (by rw [if_neg c_11, kGetB_nI hk, List.getElem?_eq_none n_25]; rfl) d_Mo_byteAt_51 hlocks
abbrev Qc_Mo_input (dC : Nat → ClassId) (dI : Nat → Nat → Nat) (cI cB cZ : ClassId) (mo : Nat) (th : Int32) (aS : Nat) (aA : Nat) (aB : Nat) (aT : Nat) (aU : Nat) (M : List Int32) (aO : Nat) (O : List Nat) (aI : Nat) (I : List Nat) (bS : Nat) (bA : Nat) (bB : Nat) (bT : Nat) (bU : Nat) (nm : Int32) (pp : Int32) (ft : Int32) (pl : Int32) (va : Int32) (vb : Int32) (fa : Nat → Int32) (fs : Nat → Int32) (fr : Nat → Int32) (fu : Nat → Int32) (pi : Int32) (pw : Int32) (A : Nat → Prop) := va_Qi (fun (r9 : Int32) (_ : Unit) => (r9 = kInput M pi pw)) (ka (dC, dI) classes [(cI, .int), (cB, .byte), (cZ, .boolean)] (fun (_ : Unit) => [(mo, .inr (4, [.int 0, .ref aS, .ref aA, .ref aB, .ref aT, .ref aU, .int (nI M.length), .ref aO, .int (nI O.length), .ref aI, .int (nI I.length), .ref bS, .ref bA, .ref bB, .ref bT, .ref bU, .int nm, .int pp, .int ft, .int pl, .int va, .int vb])), (aA, .inl (cI, 1024, .inl fa)), (aB, .inl (cI, 1024, .inl fs)), (aT, .inl (cI, 1024, .inl fr)), (aU, .inl (cZ, 1024, .inl fu))]) A) A
set_option maxHeartbeats 1000000 in
set_option maxRecDepth 100000 in
/-- Model.input -/
theorem c_Mo_input (l : Launch) (dC : Nat → ClassId) (dI : Nat → Nat → Nat) (cI cB cZ : ClassId) (sz : Nat) (mo : Nat) (th : Int32) (aS : Nat) (aA : Nat) (aB : Nat) (aT : Nat) (aU : Nat) (M : List Int32) (aO : Nat) (O : List Nat) (aI : Nat) (I : List Nat) (bS : Nat) (bA : Nat) (bB : Nat) (bT : Nat) (bU : Nat) (nm : Int32) (pp : Int32) (ft : Int32) (pl : Int32) (va : Int32) (vb : Int32) (fa : Nat → Int32) (fs : Nat → Int32) (fr : Nat → Int32) (fu : Nat → Int32) (pi : Int32) (pw : Int32) (hR : MRow fa fs fr fu M) : Met l y_Mo_input w_Mo_input ({ frames := 0, cells := 0, slots := 0, locals := 0 }) (va_Pc [.ref mo, .int pi, .int pw] (kp (dC, dI) classes [(cI, .int), (cB, .byte), (cZ, .boolean)] [(mo, .inr (4, [.int th, .ref aS, .ref aA, .ref aB, .ref aT, .ref aU, .int (nI M.length), .ref aO, .int (nI O.length), .ref aI, .int (nI I.length), .ref bS, .ref bA, .ref bB, .ref bT, .ref bU, .int nm, .int pp, .int ft, .int pl, .int va, .int vb])), (aA, .inl (cI, 1024, .inl fa)), (aB, .inl (cI, 1024, .inl fs)), (aT, .inl (cI, 1024, .inl fr)), (aU, .inl (cZ, 1024, .inl fu))] sz)) (Qc_Mo_input dC dI cI cB cZ mo th aS aA aB aT aU M aO O aI I bS bA bB bT bU nm pp ft pl va vb fa fs fr fu pi pw (va_A [(mo, .inr (4, [.int th, .ref aS, .ref aA, .ref aB, .ref aT, .ref aU, .int (nI M.length), .ref aO, .int (nI O.length), .ref aI, .int (nI I.length), .ref bS, .ref bA, .ref bB, .ref bT, .ref bU, .int nm, .int pp, .int ft, .int pl, .int va, .int vb])), (aA, .inl (cI, 1024, .inl fa)), (aB, .inl (cI, 1024, .inl fs)), (aT, .inl (cI, 1024, .inl fr)), (aU, .inl (cZ, 1024, .inl fu))] sz)) 0 0 (va_A [(mo, .inr (4, [.int th, .ref aS, .ref aA, .ref aB, .ref aT, .ref aU, .int (nI M.length), .ref aO, .int (nI O.length), .ref aI, .int (nI I.length), .ref bS, .ref bA, .ref bB, .ref bT, .ref bU, .int nm, .int pp, .int ft, .int pl, .int va, .int vb])), (aA, .inl (cI, 1024, .inl fa)), (aB, .inl (cI, 1024, .inl fs)), (aT, .inl (cI, 1024, .inl fr)), (aU, .inl (cZ, 1024, .inl fu))] sz) := by
  refine Met.ofW (cc := prog_7_method_24_code) (maxL := 3) (ret := (some .int)) (by decide) rfl ?_
  intro p e s m args below meth c s₁ B hml hv
  obtain ⟨rfl, hsz, hP, hK, hD0⟩ := hv
  have hx := B.exec
  have hb := B.bytes
  have hr := B.returns
  have hts := fun w h => atoms_spec (ws := w_Mo_input) B.pre w (List.mem_cons_of_mem _ h)
  have hown : s.vm.findClass "DemoTapeModel" = some m.cls := findClass_of_methodNamed B.named
  have hlocks := B.notSynchronized
  subst hsz
  have hD := hD0.self (sz := s.heap.size)
  generalize hAe : va_A ([(mo, .inr (4, [.int th, .ref aS, .ref aA, .ref aB, .ref aT, .ref aU, .int (nI M.length), .ref aO, .int (nI O.length), .ref aI, .int (nI I.length), .ref bS, .ref bA, .ref bB, .ref bT, .ref bU, .int nm, .int pp, .int ft, .int pl, .int va, .int vb])), (aA, .inl (cI, 1024, .inl fa)), (aB, .inl (cI, 1024, .inl fs)), (aT, .inl (cI, 1024, .inl fr)), (aU, .inl (cZ, 1024, .inl fu))] : va_W) s.heap.size = A at hD ⊢
  have hA : ∀ q : Nat, s.heap.size ≤ q → A q := fun q h => by rw [← hAe]; exact Or.inr h
  have hS : va_S A s.heap s.heap [] := va_S.rf
  have hP : va_P (dC, dI) classes [(mo, .inr (4, [.int th, .ref aS, .ref aA, .ref aB, .ref aT, .ref aU, .int (nI M.length), .ref aO, .int (nI O.length), .ref aI, .int (nI I.length), .ref bS, .ref bA, .ref bB, .ref bT, .ref bU, .int nm, .int pp, .int ft, .int pl, .int va, .int vb])), (aA, .inl (cI, 1024, .inl fa)), (aB, .inl (cI, 1024, .inl fs)), (aT, .inl (cI, 1024, .inl fr)), (aU, .inl (cZ, 1024, .inl fu))] s.heap := hP
  have hM := hR.2.2
  have hl := lv_entry ([.ref mo, .int pi, .int pw]) (n := 3) (Nat.le_of_ble_eq_true rfl)
  rw [lg_entry_eq]
  generalize (lg_sl ([.ref mo, .int pi, .int pw]) ++ List.replicate (3 - (lg_sl ([.ref mo, .int pi, .int pw])).length) Slot.unset).toArray = ls at hl ⊢
  have hl : lv_has ls 3 [(0, .ref mo), (1, .int pi), (2, .int pw)] := hl
  refine lv_aload_n hx hb d_Mo_input_0 rfl (lv_at hl 0 rfl) ?_
  refine lv_iconst (v := 0) hx hb d_Mo_input_1 (by decide) ?_
  refine va_put (D := (dC, dI)) (ci := 4) (v := .int 0) (ty := .int) (C := "DemoTapeModel") (T := F_Mo) (N := 22) hx hb hts i_Mo t_Mo t_Mo_ok n_Mo hown hK hP hD hS 0 rfl rfl 0 (by decide) (hts _ mw384) (fun _ h9 => h9) rfl (by decide +kernel) rfl rfl (Nat.le_of_ble_eq_true rfl) d_Mo_input_2 (fun H locs hP hD hS => ?_)
  have hP : va_P (dC, dI) classes [(mo, .inr (4, [.int 0, .ref aS, .ref aA, .ref aB, .ref aT, .ref aU, .int (nI M.length), .ref aO, .int (nI O.length), .ref aI, .int (nI I.length), .ref bS, .ref bA, .ref bB, .ref bT, .ref bU, .int nm, .int pp, .int ft, .int pl, .int va, .int vb])), (aA, .inl (cI, 1024, .inl fa)), (aB, .inl (cI, 1024, .inl fs)), (aT, .inl (cI, 1024, .inl fr)), (aU, .inl (cZ, 1024, .inl fu))] H := hP
  have hD : va_D A [(mo, .inr (4, [.int 0, .ref aS, .ref aA, .ref aB, .ref aT, .ref aU, .int (nI M.length), .ref aO, .int (nI O.length), .ref aI, .int (nI I.length), .ref bS, .ref bA, .ref bB, .ref bT, .ref bU, .int nm, .int pp, .int ft, .int pl, .int va, .int vb])), (aA, .inl (cI, 1024, .inl fa)), (aB, .inl (cI, 1024, .inl fs)), (aT, .inl (cI, 1024, .inl fr)), (aU, .inl (cZ, 1024, .inl fu))] := hD
  refine lv_iload_n hx hb d_Mo_input_5 rfl (lv_at hl 1 rfl) ?_
  refine lv_if_lt (tgt := 17) hx hb d_Mo_input_6 (by decide) (fun c_6 => ?_) (fun c_6 => ?_)
  · refine lv_ldc (v := 100000) hx hb hown (hts _ mw542) d_Mo_input_17 ?_
    exact kr_i (v := 100000) () hx hb hr rfl hK (hP.sub [0, 1, 2, 3, 4] (rfl)) (hD.sub [0, 1, 2, 3, 4] (by decide) (rfl)) hS ((kInput_n (kGet_neg c_6)).symm) d_Mo_input_19 hlocks
  · obtain ⟨k, hk, rfl⟩ := nI_of c_6
    refine lv_iload_n hx hb d_Mo_input_9 rfl (lv_at hl 1 rfl) ?_
    refine lv_aload_n hx hb d_Mo_input_10 rfl (lv_at hl 0 rfl) ?_
    refine va_get (D := (dC, dI)) (ci := 4) (v := .int (nI M.length)) (C := "DemoTapeModel") (T := F_Mo) (N := 22) hx hb hts i_Mo hown hK hP 0 rfl rfl 6 (by decide) (hts _ mw390) (fun _ h9 => h9) rfl d_Mo_input_11 ?_
    refine lv_icmp_lt (tgt := 20) hx hb d_Mo_input_14 (by decide) (fun c_14 => ?_) (fun c_14 => ?_)
    · have n_14 := kn_lt (a := k) (b := M.length) c_14 rfl rfl (by omega) (by omega)
      have h4 := hR.at n_14
      have hc := hR.ok n_14
      refine lv_iload_n hx hb d_Mo_input_20 rfl (lv_at hl 2 rfl) ?_
      refine lv_if_ne (tgt := 33) hx hb d_Mo_input_21 (by decide) (fun c_21 => ?_) (fun c_21 => ?_)
      · refine lv_iload_n hx hb d_Mo_input_33 rfl (lv_at hl 2 rfl) ?_
        refine lv_iconst (v := 1) hx hb d_Mo_input_34 (by decide) ?_
        refine lv_icmp_ne (tgt := 47) hx hb d_Mo_input_35 (by decide) (fun c_35 => ?_) (fun c_35 => ?_)
        · refine lv_iload_n hx hb d_Mo_input_47 rfl (lv_at hl 2 rfl) ?_
          refine lv_iconst (v := 2) hx hb d_Mo_input_48 (by decide) ?_
          refine lv_icmp_ne (tgt := 61) hx hb d_Mo_input_49 (by decide) (fun c_49 => ?_) (fun c_49 => ?_)
          · refine lv_iload_n hx hb d_Mo_input_61 rfl (lv_at hl 2 rfl) ?_
            refine lv_iconst (v := 3) hx hb d_Mo_input_62 (by decide) ?_
            refine lv_icmp_ne (tgt := 83) hx hb d_Mo_input_63 (by decide) (fun c_63 => ?_) (fun c_63 => ?_)
            · refine lv_ldc (v := 100000) hx hb hown (hts _ mw542) d_Mo_input_83 ?_
              exact kr_i (v := 100000) () hx hb hr rfl hK (hP.sub [0, 1, 2, 3, 4] (rfl)) (hD.sub [0, 1, 2, 3, 4] (by decide) (rfl)) hS (by rw [kInput_y (by rw [kGet_nI hk]; exact cOk_ne hc), kGet_nI hk]; unfold kInW;  rw [if_neg c_21, if_neg c_35, if_neg c_49, if_neg c_63]) d_Mo_input_85 hlocks
            · refine lv_aload_n hx hb d_Mo_input_66 rfl (lv_at hl 0 rfl) ?_
              refine va_get (D := (dC, dI)) (ci := 4) (v := .ref aU) (C := "DemoTapeModel") (T := F_Mo) (N := 22) hx hb hts i_Mo hown hK hP 0 rfl rfl 5 (by decide) (hts _ mw389) (fun _ h9 => h9) rfl d_Mo_input_67 ?_
              refine lv_iload_n hx hb d_Mo_input_70 rfl (lv_at hl 1 rfl) ?_
              refine kt_zald (j := k) hx hb hK hP 4 2 rfl rfl (by omega) (by decide) d_Mo_input_71 ?_
              refine lv_if_eq (tgt := 79) hx hb d_Mo_input_72 (by decide) (fun c_72 => ?_) (fun c_72 => ?_)
              · refine lv_iconst (v := 0) hx hb d_Mo_input_79 (by decide) ?_
                refine lv_goto (tgt := 85) hx hb d_Mo_input_80 (by decide) ?_
                exact kr_i (v := 0) () hx hb hr rfl hK (hP.sub [0, 1, 2, 3, 4] (rfl)) (hD.sub [0, 1, 2, 3, 4] (by decide) (rfl)) hS (by rw [kInput_y (by rw [kGet_nI hk]; exact cOk_ne hc), kGet_nI hk]; unfold kInW;  rw [if_neg c_21, if_neg c_35, if_neg c_49, if_pos c_63, ← h4.2.2.2, if_pos c_72]) d_Mo_input_85 hlocks
              · refine lv_iconst (v := 1) hx hb d_Mo_input_75 (by decide) ?_
                refine lv_goto (tgt := 85) hx hb d_Mo_input_76 (by decide) ?_
                exact kr_i (v := 1) () hx hb hr rfl hK (hP.sub [0, 1, 2, 3, 4] (rfl)) (hD.sub [0, 1, 2, 3, 4] (by decide) (rfl)) hS (by rw [kInput_y (by rw [kGet_nI hk]; exact cOk_ne hc), kGet_nI hk]; unfold kInW;  rw [if_neg c_21, if_neg c_35, if_neg c_49, if_pos c_63, ← h4.2.2.2, if_neg c_72]) d_Mo_input_85 hlocks
          · refine lv_aload_n hx hb d_Mo_input_52 rfl (lv_at hl 0 rfl) ?_
            refine va_get (D := (dC, dI)) (ci := 4) (v := .ref aT) (C := "DemoTapeModel") (T := F_Mo) (N := 22) hx hb hts i_Mo hown hK hP 0 rfl rfl 4 (by decide) (hts _ mw388) (fun _ h9 => h9) rfl d_Mo_input_53 ?_
            refine lv_iload_n hx hb d_Mo_input_56 rfl (lv_at hl 1 rfl) ?_
            refine kt_iald (j := k) hx hb hK hP 3 0 rfl rfl (by omega) (by decide) d_Mo_input_57 ?_
            refine lv_goto (tgt := 85) hx hb d_Mo_input_58 (by decide) ?_
            exact kr_i (v := fr k) () hx hb hr rfl hK (hP.sub [0, 1, 2, 3, 4] (rfl)) (hD.sub [0, 1, 2, 3, 4] (by decide) (rfl)) hS (by rw [kInput_y (by rw [kGet_nI hk]; exact cOk_ne hc), kGet_nI hk]; unfold kInW;  rw [if_neg c_21, if_neg c_35, if_pos c_49]; exact h4.2.2.1) d_Mo_input_85 hlocks
        · refine lv_aload_n hx hb d_Mo_input_38 rfl (lv_at hl 0 rfl) ?_
          refine va_get (D := (dC, dI)) (ci := 4) (v := .ref aB) (C := "DemoTapeModel") (T := F_Mo) (N := 22) hx hb hts i_Mo hown hK hP 0 rfl rfl 3 (by decide) (hts _ mw387) (fun _ h9 => h9) rfl d_Mo_input_39 ?_
          refine lv_iload_n hx hb d_Mo_input_42 rfl (lv_at hl 1 rfl) ?_
          refine kt_iald (j := k) hx hb hK hP 2 0 rfl rfl (by omega) (by decide) d_Mo_input_43 ?_
          refine lv_goto (tgt := 85) hx hb d_Mo_input_44 (by decide) ?_
          exact kr_i (v := fs k) () hx hb hr rfl hK (hP.sub [0, 1, 2, 3, 4] (rfl)) (hD.sub [0, 1, 2, 3, 4] (by decide) (rfl)) hS (by rw [kInput_y (by rw [kGet_nI hk]; exact cOk_ne hc), kGet_nI hk]; unfold kInW;  rw [if_neg c_21, if_pos c_35]; exact h4.2.1) d_Mo_input_85 hlocks
      · refine lv_aload_n hx hb d_Mo_input_24 rfl (lv_at hl 0 rfl) ?_
        refine va_get (D := (dC, dI)) (ci := 4) (v := .ref aA) (C := "DemoTapeModel") (T := F_Mo) (N := 22) hx hb hts i_Mo hown hK hP 0 rfl rfl 2 (by decide) (hts _ mw386) (fun _ h9 => h9) rfl d_Mo_input_25 ?_
        refine lv_iload_n hx hb d_Mo_input_28 rfl (lv_at hl 1 rfl) ?_
        refine kt_iald (j := k) hx hb hK hP 1 0 rfl rfl (by omega) (by decide) d_Mo_input_29 ?_
        refine lv_goto (tgt := 85) hx hb d_Mo_input_30 (by decide) ?_
        exact kr_i (v := fa k) () hx hb hr rfl hK (hP.sub [0, 1, 2, 3, 4] (rfl)) (hD.sub [0, 1, 2, 3, 4] (by decide) (rfl)) hS (by rw [kInput_y (by rw [kGet_nI hk]; exact cOk_ne hc), kGet_nI hk]; unfold kInW;  rw [if_pos c_21]; exact h4.1) d_Mo_input_85 hlocks
    · have n_14 := kn_nlt (a := k) (b := M.length) c_14 rfl rfl (by omega) (by omega)
      refine lv_ldc (v := 100000) hx hb hown (hts _ mw542) d_Mo_input_17 ?_
      exact kr_i (v := 100000) () hx hb hr rfl hK (hP.sub [0, 1, 2, 3, 4] (rfl)) (hD.sub [0, 1, 2, 3, 4] (by decide) (rfl)) hS ((kInput_n (by rw [kGet_nI hk, List.getElem?_eq_none n_14]; rfl)).symm) d_Mo_input_19 hlocks
abbrev Qc_Mo_using (dC : Nat → ClassId) (dI : Nat → Nat → Nat) (cI cB cZ : ClassId) (mo : Nat) (th : Int32) (aS : Nat) (aA : Nat) (aB : Nat) (aT : Nat) (aU : Nat) (M : List Int32) (aO : Nat) (O : List Nat) (aI : Nat) (I : List Nat) (bS : Nat) (bA : Nat) (bB : Nat) (bT : Nat) (bU : Nat) (nm : Int32) (pp : Int32) (ft : Int32) (pl : Int32) (va : Int32) (vb : Int32) (fa : Nat → Int32) (fs : Nat → Int32) (fr : Nat → Int32) (fu : Nat → Int32) (A : Nat → Prop) := va_Qi (fun (r9 : Int32) (_ : Unit) => (r9 = nI (kUses M))) (ka (dC, dI) classes [(cI, .int), (cB, .byte), (cZ, .boolean)] (fun (_ : Unit) => [(mo, .inr (4, [.int th, .ref aS, .ref aA, .ref aB, .ref aT, .ref aU, .int (nI M.length), .ref aO, .int (nI O.length), .ref aI, .int (nI I.length), .ref bS, .ref bA, .ref bB, .ref bT, .ref bU, .int nm, .int pp, .int ft, .int pl, .int va, .int vb])), (aA, .inl (cI, 1024, .inl fa)), (aB, .inl (cI, 1024, .inl fs)), (aT, .inl (cI, 1024, .inl fr)), (aU, .inl (cZ, 1024, .inl fu))]) A) A
set_option maxHeartbeats 1000000 in
set_option maxRecDepth 100000 in
/-- Model.using -/
theorem c_Mo_using (l : Launch) (dC : Nat → ClassId) (dI : Nat → Nat → Nat) (cI cB cZ : ClassId) (sz : Nat) (mo : Nat) (th : Int32) (aS : Nat) (aA : Nat) (aB : Nat) (aT : Nat) (aU : Nat) (M : List Int32) (aO : Nat) (O : List Nat) (aI : Nat) (I : List Nat) (bS : Nat) (bA : Nat) (bB : Nat) (bT : Nat) (bU : Nat) (nm : Int32) (pp : Int32) (ft : Int32) (pl : Int32) (va : Int32) (vb : Int32) (fa : Nat → Int32) (fs : Nat → Int32) (fr : Nat → Int32) (fu : Nat → Int32) (hR : MRow fa fs fr fu M) : Met l y_Mo_using w_Mo_using ({ frames := 0, cells := 0, slots := 0, locals := 0 }) (va_Pc [.ref mo] (kp (dC, dI) classes [(cI, .int), (cB, .byte), (cZ, .boolean)] [(mo, .inr (4, [.int th, .ref aS, .ref aA, .ref aB, .ref aT, .ref aU, .int (nI M.length), .ref aO, .int (nI O.length), .ref aI, .int (nI I.length), .ref bS, .ref bA, .ref bB, .ref bT, .ref bU, .int nm, .int pp, .int ft, .int pl, .int va, .int vb])), (aA, .inl (cI, 1024, .inl fa)), (aB, .inl (cI, 1024, .inl fs)), (aT, .inl (cI, 1024, .inl fr)), (aU, .inl (cZ, 1024, .inl fu))] sz)) (Qc_Mo_using dC dI cI cB cZ mo th aS aA aB aT aU M aO O aI I bS bA bB bT bU nm pp ft pl va vb fa fs fr fu (va_A [(mo, .inr (4, [.int th, .ref aS, .ref aA, .ref aB, .ref aT, .ref aU, .int (nI M.length), .ref aO, .int (nI O.length), .ref aI, .int (nI I.length), .ref bS, .ref bA, .ref bB, .ref bT, .ref bU, .int nm, .int pp, .int ft, .int pl, .int va, .int vb])), (aA, .inl (cI, 1024, .inl fa)), (aB, .inl (cI, 1024, .inl fs)), (aT, .inl (cI, 1024, .inl fr)), (aU, .inl (cZ, 1024, .inl fu))] sz)) 0 0 (va_A [(mo, .inr (4, [.int th, .ref aS, .ref aA, .ref aB, .ref aT, .ref aU, .int (nI M.length), .ref aO, .int (nI O.length), .ref aI, .int (nI I.length), .ref bS, .ref bA, .ref bB, .ref bT, .ref bU, .int nm, .int pp, .int ft, .int pl, .int va, .int vb])), (aA, .inl (cI, 1024, .inl fa)), (aB, .inl (cI, 1024, .inl fs)), (aT, .inl (cI, 1024, .inl fr)), (aU, .inl (cZ, 1024, .inl fu))] sz) := by
  refine Met.ofW (cc := prog_7_method_28_code) (maxL := 3) (ret := (some .int)) (by decide) rfl ?_
  intro p e s m args below meth c s₁ B hml hv
  obtain ⟨rfl, hsz, hP, hK, hD0⟩ := hv
  have hx := B.exec
  have hb := B.bytes
  have hr := B.returns
  have hts := fun w h => atoms_spec (ws := w_Mo_using) B.pre w (List.mem_cons_of_mem _ h)
  have hown : s.vm.findClass "DemoTapeModel" = some m.cls := findClass_of_methodNamed B.named
  have hlocks := B.notSynchronized
  subst hsz
  have hD := hD0.self (sz := s.heap.size)
  generalize hAe : va_A ([(mo, .inr (4, [.int th, .ref aS, .ref aA, .ref aB, .ref aT, .ref aU, .int (nI M.length), .ref aO, .int (nI O.length), .ref aI, .int (nI I.length), .ref bS, .ref bA, .ref bB, .ref bT, .ref bU, .int nm, .int pp, .int ft, .int pl, .int va, .int vb])), (aA, .inl (cI, 1024, .inl fa)), (aB, .inl (cI, 1024, .inl fs)), (aT, .inl (cI, 1024, .inl fr)), (aU, .inl (cZ, 1024, .inl fu))] : va_W) s.heap.size = A at hD ⊢
  have hA : ∀ q : Nat, s.heap.size ≤ q → A q := fun q h => by rw [← hAe]; exact Or.inr h
  have hS : va_S A s.heap s.heap [] := va_S.rf
  have hP : va_P (dC, dI) classes [(mo, .inr (4, [.int th, .ref aS, .ref aA, .ref aB, .ref aT, .ref aU, .int (nI M.length), .ref aO, .int (nI O.length), .ref aI, .int (nI I.length), .ref bS, .ref bA, .ref bB, .ref bT, .ref bU, .int nm, .int pp, .int ft, .int pl, .int va, .int vb])), (aA, .inl (cI, 1024, .inl fa)), (aB, .inl (cI, 1024, .inl fs)), (aT, .inl (cI, 1024, .inl fr)), (aU, .inl (cZ, 1024, .inl fu))] s.heap := hP
  have hM := hR.2.2
  have hl := lv_entry ([.ref mo]) (n := 3) (Nat.le_of_ble_eq_true rfl)
  rw [lg_entry_eq]
  generalize (lg_sl ([.ref mo]) ++ List.replicate (3 - (lg_sl ([.ref mo])).length) Slot.unset).toArray = ls at hl ⊢
  have hl : lv_has ls 3 [(0, .ref mo)] := hl
  have J_4 : ∀ (fuel : Nat) (n9 : Nat) (j : Nat), (M.length - j < fuel) → (j ≤ M.length) → (n9 = kUses (M.take j)) → ∀ (H : Heap) (locs : List Loc), va_P (dC, dI) classes [(mo, .inr (4, [.int th, .ref aS, .ref aA, .ref aB, .ref aT, .ref aU, .int (nI M.length), .ref aO, .int (nI O.length), .ref aI, .int (nI I.length), .ref bS, .ref bA, .ref bB, .ref bT, .ref bU, .int nm, .int pp, .int ft, .int pl, .int va, .int vb])), (aA, .inl (cI, 1024, .inl fa)), (aB, .inl (cI, 1024, .inl fs)), (aT, .inl (cI, 1024, .inl fr)), (aU, .inl (cZ, 1024, .inl fu))] H → va_D A [(mo, .inr (4, [.int th, .ref aS, .ref aA, .ref aB, .ref aT, .ref aU, .int (nI M.length), .ref aO, .int (nI O.length), .ref aI, .int (nI I.length), .ref bS, .ref bA, .ref bB, .ref bT, .ref bU, .int nm, .int pp, .int ft, .int pl, .int va, .int vb])), (aA, .inl (cI, 1024, .inl fa)), (aB, .inl (cI, 1024, .inl fs)), (aT, .inl (cI, 1024, .inl fr)), (aU, .inl (cZ, 1024, .inl fu))] → va_S A s.heap H locs → ∀ (ls : Array Slot), lv_has ls 3 [(0, .ref mo), (1, .int (nI n9)), (2, .int (nI j))] → W p l e (headSpec w_Mo_using ({ frames := 0, cells := 0, slots := 0, locals := 0 })).room s m [.ref mo].toArray below meth c H locs 0 0 (MQ below (Qc_Mo_using dC dI cI cB cZ mo th aS aA aB aT aU M aO O aI I bS bA bB bT bU nm pp ft pl va vb fa fs fr fu A) [.ref mo].toArray s 0 0 A) (F0 m 4 ls []) := by
    intro fuel
    induction fuel with
    | zero => intro n9 j hm; exact absurd hm (Nat.not_lt_zero _)
    | succ fuel ih_4 =>
      intro n9 j hm hj hn H locs hP hD hS ls hl
      refine lv_iload_n hx hb d_Mo_using_4 rfl (lv_at hl 2 rfl) ?_
      refine lv_aload_n hx hb d_Mo_using_5 rfl (lv_at hl 0 rfl) ?_
      refine va_get (D := (dC, dI)) (ci := 4) (v := .int (nI M.length)) (C := "DemoTapeModel") (T := F_Mo) (N := 22) hx hb hts i_Mo hown hK hP 0 rfl rfl 6 (by decide) (hts _ mw390) (fun _ h9 => h9) rfl d_Mo_using_6 ?_
      refine lv_icmp_ge (tgt := 35) hx hb d_Mo_using_9 (by decide) (fun c_9 => ?_) (fun c_9 => ?_)
      · have n_9 := kn_le (a := M.length) (b := j) c_9 rfl rfl (by omega) (by omega)
        refine lv_iload_n hx hb d_Mo_using_35 rfl (lv_at hl 1 rfl) ?_
        exact kr_i (v := nI n9) () hx hb hr rfl hK (hP.sub [0, 1, 2, 3, 4] (rfl)) (hD.sub [0, 1, 2, 3, 4] (by decide) (rfl)) hS (by rw [hn, List.take_of_length_le (by omega)]) d_Mo_using_36 hlocks
      · have n_9 := kn_nle (a := M.length) (b := j) c_9 rfl rfl (by omega) (by omega)
        refine lv_iload_n hx hb d_Mo_using_12 rfl (lv_at hl 1 rfl) ?_
        refine lv_aload_n hx hb d_Mo_using_13 rfl (lv_at hl 0 rfl) ?_
        refine va_get (D := (dC, dI)) (ci := 4) (v := .ref aU) (C := "DemoTapeModel") (T := F_Mo) (N := 22) hx hb hts i_Mo hown hK hP 0 rfl rfl 5 (by decide) (hts _ mw389) (fun _ h9 => h9) rfl d_Mo_using_14 ?_
        refine lv_iload_n hx hb d_Mo_using_17 rfl (lv_at hl 2 rfl) ?_
        refine kt_zald (j := j) hx hb hK hP 4 2 rfl rfl (by omega) (by decide) d_Mo_using_18 ?_
        refine lv_if_eq (tgt := 26) hx hb d_Mo_using_19 (by decide) (fun c_19 => ?_) (fun c_19 => ?_)
        · refine lv_iconst (v := 0) hx hb d_Mo_using_26 (by decide) ?_
          refine lv_iadd hx hb d_Mo_using_27 ?_
          refine kt_i (y := nI n9) (nI_add n9 0) ?_
          refine lv_istore_n (lv' := [(1, .int (nI n9)), (0, .ref mo), (2, .int (nI j))]) hx hb d_Mo_using_28 rfl hl (by decide) rfl (fun ls hl => ?_)
          refine lv_iinc (v := nI (j + 1)) (lv' := [(2, .int (nI (j + 1))), (1, .int (nI n9)), (0, .ref mo)]) hx hb d_Mo_using_29 hl (k := 2) rfl (by first | rfl | exact nI_1 _) (by decide) rfl (fun ls hl => ?_)
          refine lv_goto (tgt := 4) hx hb d_Mo_using_32 (by decide) ?_
          exact ih_4 n9 (j + 1) (by omega) (by first | with_reducible assumption | omega) (by rw [kUses_n n_9 (by rw [← (hR.at n_9).2.2.2]; exact c_19), hn]) _ _ (hP.sub [0, 1, 2, 3, 4] (rfl)) (hD.sub [0, 1, 2, 3, 4] (by decide) (rfl)) hS ls (lv_sub hl [2, 1, 0] rfl)
        · refine lv_iconst (v := 1) hx hb d_Mo_using_22 (by decide) ?_
          refine lv_goto (tgt := 27) hx hb d_Mo_using_23 (by decide) ?_
          refine lv_iadd hx hb d_Mo_using_27 ?_
          refine kt_i (y := nI (n9 + 1)) (nI_1 _) ?_
          refine lv_istore_n (lv' := [(1, .int (nI (n9 + 1))), (0, .ref mo), (2, .int (nI j))]) hx hb d_Mo_using_28 rfl hl (by decide) rfl (fun ls hl => ?_)
          refine lv_iinc (v := nI (j + 1)) (lv' := [(2, .int (nI (j + 1))), (1, .int (nI (n9 + 1))), (0, .ref mo)]) hx hb d_Mo_using_29 hl (k := 2) rfl (by first | rfl | exact nI_1 _) (by decide) rfl (fun ls hl => ?_)
          refine lv_goto (tgt := 4) hx hb d_Mo_using_32 (by decide) ?_
          exact ih_4 (n9 + 1) (j + 1) (by omega) (by first | with_reducible assumption | omega) (by rw [kUses_y n_9 (by rw [← (hR.at n_9).2.2.2]; exact c_19), hn]) _ _ (hP.sub [0, 1, 2, 3, 4] (rfl)) (hD.sub [0, 1, 2, 3, 4] (by decide) (rfl)) hS ls (lv_sub hl [2, 1, 0] rfl)
  refine lv_iconst (v := 0) hx hb d_Mo_using_0 (by decide) ?_
  refine lv_istore_n (lv' := [(1, .int 0), (0, .ref mo)]) hx hb d_Mo_using_1 rfl hl (by decide) rfl (fun ls hl => ?_)
  refine lv_iconst (v := 0) hx hb d_Mo_using_2 (by decide) ?_
  refine lv_istore_n (lv' := [(2, .int 0), (1, .int 0), (0, .ref mo)]) hx hb d_Mo_using_3 rfl hl (by decide) rfl (fun ls hl => ?_)
  exact J_4 _ 0 0 (Nat.lt_succ_self _) (by first | with_reducible assumption | omega) (rfl) _ _ (hP.sub [0, 1, 2, 3, 4] (rfl)) (hD.sub [0, 1, 2, 3, 4] (by decide) (rfl)) hS ls (lv_sub hl [2, 1, 0] rfl)
