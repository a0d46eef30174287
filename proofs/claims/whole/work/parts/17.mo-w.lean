abbrev Qc_Mo_run (dC : Nat → ClassId) (dI : Nat → Nat → Nat) (cI cB cZ : ClassId) (mo : Nat) (th : Int32) (aS : Nat) (aA : Nat) (aB : Nat) (aT : Nat) (aU : Nat) (M : List Int32) (aO : Nat) (O : List Nat) (aI : Nat) (I : List Nat) (bS : Nat) (bA : Nat) (bB : Nat) (bT : Nat) (bU : Nat) (nm : Int32) (pp : Int32) (ft : Int32) (pl : Int32) (va : Int32) (vb : Int32) (fa : Nat → Int32) (fs : Nat → Int32) (fr : Nat → Int32) (fu : Nat → Int32) (i : Nat) (A : Nat → Prop) := va_Qi (fun (r9 : Int32) (u9 : Nat) => (r9 = nI u9) ∧ (1 ≤ u9) ∧ (u9 ≤ 63) ∧ (i + u9 ≤ M.length) ∧ (kGr 0 (M.drop i) = ((M[i]?).getD (-1), u9) :: kGr 0 (M.drop (i + u9)))) (ka (dC, dI) classes [(cI, .int), (cB, .byte), (cZ, .boolean)] (fun (u9 : Nat) => [(mo, .inr (4, [.int th, .ref aS, .ref aA, .ref aB, .ref aT, .ref aU, .int (nI M.length), .ref aO, .int (nI O.length), .ref aI, .int (nI I.length), .ref bS, .ref bA, .ref bB, .ref bT, .ref bU, .int nm, .int pp, .int ft, .int pl, .int va, .int vb])), (aA, .inl (cI, 1024, .inl fa)), (aB, .inl (cI, 1024, .inl fs)), (aT, .inl (cI, 1024, .inl fr)), (aU, .inl (cZ, 1024, .inl fu))]) A) A
set_option maxHeartbeats 1000000 in
set_option maxRecDepth 100000 in
/-- Model.run -/
theorem c_Mo_run (l : Launch) (dC : Nat → ClassId) (dI : Nat → Nat → Nat) (cI cB cZ : ClassId) (sz : Nat) (mo : Nat) (th : Int32) (aS : Nat) (aA : Nat) (aB : Nat) (aT : Nat) (aU : Nat) (M : List Int32) (aO : Nat) (O : List Nat) (aI : Nat) (I : List Nat) (bS : Nat) (bA : Nat) (bB : Nat) (bT : Nat) (bU : Nat) (nm : Int32) (pp : Int32) (ft : Int32) (pl : Int32) (va : Int32) (vb : Int32) (fa : Nat → Int32) (fs : Nat → Int32) (fr : Nat → Int32) (fu : Nat → Int32) (i : Nat) (hR : MRow fa fs fr fu M) (hi : i < M.length) : Met l y_Mo_run w_Mo_run ({ frames := 0, cells := 0, slots := 0, locals := 0 }) (va_Pc [.ref mo, .int (nI i)] (kp (dC, dI) classes [(cI, .int), (cB, .byte), (cZ, .boolean)] [(mo, .inr (4, [.int th, .ref aS, .ref aA, .ref aB, .ref aT, .ref aU, .int (nI M.length), .ref aO, .int (nI O.length), .ref aI, .int (nI I.length), .ref bS, .ref bA, .ref bB, .ref bT, .ref bU, .int nm, .int pp, .int ft, .int pl, .int va, .int vb])), (aA, .inl (cI, 1024, .inl fa)), (aB, .inl (cI, 1024, .inl fs)), (aT, .inl (cI, 1024, .inl fr)), (aU, .inl (cZ, 1024, .inl fu))] sz)) (Qc_Mo_run dC dI cI cB cZ mo th aS aA aB aT aU M aO O aI I bS bA bB bT bU nm pp ft pl va vb fa fs fr fu i (va_A [(mo, .inr (4, [.int th, .ref aS, .ref aA, .ref aB, .ref aT, .ref aU, .int (nI M.length), .ref aO, .int (nI O.length), .ref aI, .int (nI I.length), .ref bS, .ref bA, .ref bB, .ref bT, .ref bU, .int nm, .int pp, .int ft, .int pl, .int va, .int vb])), (aA, .inl (cI, 1024, .inl fa)), (aB, .inl (cI, 1024, .inl fs)), (aT, .inl (cI, 1024, .inl fr)), (aU, .inl (cZ, 1024, .inl fu))] sz)) 0 0 (va_A [(mo, .inr (4, [.int th, .ref aS, .ref aA, .ref aB, .ref aT, .ref aU, .int (nI M.length), .ref aO, .int (nI O.length), .ref aI, .int (nI I.length), .ref bS, .ref bA, .ref bB, .ref bT, .ref bU, .int nm, .int pp, .int ft, .int pl, .int va, .int vb])), (aA, .inl (cI, 1024, .inl fa)), (aB, .inl (cI, 1024, .inl fs)), (aT, .inl (cI, 1024, .inl fr)), (aU, .inl (cZ, 1024, .inl fu))] sz) := by
  refine Met.ofW (cc := prog_7_method_8_code) (maxL := 3) (ret := (some .int)) (by decide) rfl ?_
  intro p e s m args below meth c s₁ B hml hv
  obtain ⟨rfl, hsz, hP, hK, hD0⟩ := hv
  have hx := B.exec
  have hb := B.bytes
  have hr := B.returns
  have hts := fun w h => atoms_spec (ws := w_Mo_run) B.pre w (List.mem_cons_of_mem _ h)
  have hown : s.vm.findClass "DemoTapeModel" = some m.cls := findClass_of_methodNamed B.named
  have hlocks := B.notSynchronized
  subst hsz
  have hD := hD0.self (sz := s.heap.size)
  generalize hAe : va_A ([(mo, .inr (4, [.int th, .ref aS, .ref aA, .ref aB, .ref aT, .ref aU, .int (nI M.length), .ref aO, .int (nI O.length), .ref aI, .int (nI I.length), .ref bS, .ref bA, .ref bB, .ref bT, .ref bU, .int nm, .int pp, .int ft, .int pl, .int va, .int vb])), (aA, .inl (cI, 1024, .inl fa)), (aB, .inl (cI, 1024, .inl fs)), (aT, .inl (cI, 1024, .inl fr)), (aU, .inl (cZ, 1024, .inl fu))] : va_W) s.heap.size = A at hD ⊢
  have hA : ∀ q : Nat, s.heap.size ≤ q → A q := fun q h => by rw [← hAe]; exact Or.inr h
  have hS : va_S A s.heap s.heap [] := va_S.rf
  have hP : va_P (dC, dI) classes [(mo, .inr (4, [.int th, .ref aS, .ref aA, .ref aB, .ref aT, .ref aU, .int (nI M.length), .ref aO, .int (nI O.length), .ref aI, .int (nI I.length), .ref bS, .ref bA, .ref bB, .ref bT, .ref bU, .int nm, .int pp, .int ft, .int pl, .int va, .int vb])), (aA, .inl (cI, 1024, .inl fa)), (aB, .inl (cI, 1024, .inl fs)), (aT, .inl (cI, 1024, .inl fr)), (aU, .inl (cZ, 1024, .inl fu))] s.heap := hP
  have hM := hR.2.2
  have hl := lv_entry ([.ref mo, .int (nI i)]) (n := 3) (Nat.le_of_ble_eq_true rfl)
  rw [lg_entry_eq]
  generalize (lg_sl ([.ref mo, .int (nI i)]) ++ List.replicate (3 - (lg_sl ([.ref mo, .int (nI i)])).length) Slot.unset).toArray = ls at hl ⊢
  have hl : lv_has ls 3 [(0, .ref mo), (1, .int (nI i))] := hl
  have J_2 : ∀ (fuel : Nat) (z : Nat), (62 - z < fuel) → (z ≤ 62) → (i + z < M.length) → (kGr 0 (M.drop i) = kGr z (M.drop (i + z))) → ((M[i + z]?).getD (-1) = (M[i]?).getD (-1)) → ∀ (H : Heap) (locs : List Loc), va_P (dC, dI) classes [(mo, .inr (4, [.int th, .ref aS, .ref aA, .ref aB, .ref aT, .ref aU, .int (nI M.length), .ref aO, .int (nI O.length), .ref aI, .int (nI I.length), .ref bS, .ref bA, .ref bB, .ref bT, .ref bU, .int nm, .int pp, .int ft, .int pl, .int va, .int vb])), (aA, .inl (cI, 1024, .inl fa)), (aB, .inl (cI, 1024, .inl fs)), (aT, .inl (cI, 1024, .inl fr)), (aU, .inl (cZ, 1024, .inl fu))] H → va_D A [(mo, .inr (4, [.int th, .ref aS, .ref aA, .ref aB, .ref aT, .ref aU, .int (nI M.length), .ref aO, .int (nI O.length), .ref aI, .int (nI I.length), .ref bS, .ref bA, .ref bB, .ref bT, .ref bU, .int nm, .int pp, .int ft, .int pl, .int va, .int vb])), (aA, .inl (cI, 1024, .inl fa)), (aB, .inl (cI, 1024, .inl fs)), (aT, .inl (cI, 1024, .inl fr)), (aU, .inl (cZ, 1024, .inl fu))] → va_S A s.heap H locs → ∀ (ls : Array Slot), lv_has ls 3 [(0, .ref mo), (1, .int (nI i)), (2, .int (nI (z + 1)))] → W p l e (headSpec w_Mo_run ({ frames := 0, cells := 0, slots := 0, locals := 0 })).room s m [.ref mo, .int (nI i)].toArray below meth c H locs 0 0 (MQ below (Qc_Mo_run dC dI cI cB cZ mo th aS aA aB aT aU M aO O aI I bS bA bB bT bU nm pp ft pl va vb fa fs fr fu i A) [.ref mo, .int (nI i)].toArray s 0 0 A) (F0 m 2 ls []) := by
    intro fuel
    induction fuel with
    | zero => intro z hm; exact absurd hm (Nat.not_lt_zero _)
    | succ fuel ih_2 =>
      intro z hm hz hlt hg heq H locs hP hD hS ls hl
      refine lv_iload_n hx hb d_Mo_run_2 rfl (lv_at hl 2 rfl) ?_
      refine lv_bipush (v := 63) hx hb d_Mo_run_3 (by decide) ?_
      refine lv_icmp_ge (tgt := 92) hx hb d_Mo_run_5 (by decide) (fun c_5 => ?_) (fun c_5 => ?_)
      · have n_5 := kn_le (a := 63) (b := z + 1) c_5 rfl rfl (by omega) (by omega)
        refine lv_iload_n hx hb d_Mo_run_92 rfl (lv_at hl 2 rfl) ?_
        exact kr_i (v := nI (z + 1)) (z + 1) hx hb hr rfl hK (hP.sub [0, 1, 2, 3, 4] (rfl)) (hD.sub [0, 1, 2, 3, 4] (by decide) (rfl)) hS ⟨by first | with_reducible rfl | with_reducible assumption | rfl | omega, by omega, by omega, by omega, by rw [hg, kGr_y hlt (kEnd_y1 (by omega)), heq]; first | done | rfl⟩ d_Mo_run_93 hlocks
      · have n_5 := kn_nle (a := 63) (b := z + 1) c_5 rfl rfl (by omega) (by omega)
        refine lv_iload_n hx hb d_Mo_run_8 rfl (lv_at hl 1 rfl) ?_
        refine lv_iload_n hx hb d_Mo_run_9 rfl (lv_at hl 2 rfl) ?_
        refine lv_iadd hx hb d_Mo_run_10 ?_
        refine kt_i (y := nI (i + z + 1)) (nI_add i (z + 1)) ?_
        refine lv_aload_n hx hb d_Mo_run_11 rfl (lv_at hl 0 rfl) ?_
        refine va_get (D := (dC, dI)) (ci := 4) (v := .int (nI M.length)) (C := "DemoTapeModel") (T := F_Mo) (N := 22) hx hb hts i_Mo hown hK hP 0 rfl rfl 6 (by decide) (hts _ mw390) (fun _ h9 => h9) rfl d_Mo_run_12 ?_
        refine lv_icmp_ge (tgt := 92) hx hb d_Mo_run_15 (by decide) (fun c_15 => ?_) (fun c_15 => ?_)
        · have n_15 := kn_le (a := M.length) (b := i + z + 1) c_15 rfl rfl (by omega) (by omega)
          refine lv_iload_n hx hb d_Mo_run_92 rfl (lv_at hl 2 rfl) ?_
          exact kr_i (v := nI (z + 1)) (z + 1) hx hb hr rfl hK (hP.sub [0, 1, 2, 3, 4] (rfl)) (hD.sub [0, 1, 2, 3, 4] (by decide) (rfl)) hS ⟨by first | with_reducible rfl | with_reducible assumption | rfl | omega, by omega, by omega, by omega, by rw [hg, kGr_y hlt (kEnd_y2 (by rw [List.getElem?_eq_none n_15]; exact fun q => cOk_ne (hR.ok hlt) q.symm)), heq]; first | done | rfl⟩ d_Mo_run_93 hlocks
        · have n_15 := kn_nle (a := M.length) (b := i + z + 1) c_15 rfl rfl (by omega) (by omega)
          refine lv_aload_n hx hb d_Mo_run_18 rfl (lv_at hl 0 rfl) ?_
          refine va_get (D := (dC, dI)) (ci := 4) (v := .ref aA) (C := "DemoTapeModel") (T := F_Mo) (N := 22) hx hb hts i_Mo hown hK hP 0 rfl rfl 2 (by decide) (hts _ mw386) (fun _ h9 => h9) rfl d_Mo_run_19 ?_
          refine lv_iload_n hx hb d_Mo_run_22 rfl (lv_at hl 1 rfl) ?_
          refine lv_iload_n hx hb d_Mo_run_23 rfl (lv_at hl 2 rfl) ?_
          refine lv_iadd hx hb d_Mo_run_24 ?_
          refine kt_i (y := nI (i + z + 1)) (nI_add i (z + 1)) ?_
          refine kt_iald (j := i + z + 1) hx hb hK hP 1 0 rfl rfl (by omega) (by decide) d_Mo_run_25 ?_
          refine lv_aload_n hx hb d_Mo_run_26 rfl (lv_at hl 0 rfl) ?_
          refine va_get (D := (dC, dI)) (ci := 4) (v := .ref aA) (C := "DemoTapeModel") (T := F_Mo) (N := 22) hx hb hts i_Mo hown hK hP 0 rfl rfl 2 (by decide) (hts _ mw386) (fun _ h9 => h9) rfl d_Mo_run_27 ?_
          refine lv_iload_n hx hb d_Mo_run_30 rfl (lv_at hl 1 rfl) ?_
          refine kt_iald (j := i) hx hb hK hP 1 0 rfl rfl (by omega) (by decide) d_Mo_run_31 ?_
          refine lv_icmp_ne (tgt := 92) hx hb d_Mo_run_32 (by decide) (fun c_32 => ?_) (fun c_32 => ?_)
          · refine lv_iload_n hx hb d_Mo_run_92 rfl (lv_at hl 2 rfl) ?_
            exact kr_i (v := nI (z + 1)) (z + 1) hx hb hr rfl hK (hP.sub [0, 1, 2, 3, 4] (rfl)) (hD.sub [0, 1, 2, 3, 4] (by decide) (rfl)) hS ⟨by first | with_reducible rfl | with_reducible assumption | rfl | omega, by omega, by omega, by omega, by rw [hg, kGr_y hlt (kEnd_y2 (by rw [heq]; exact hR.neq n_15 hi (Or.inl c_32))), heq]; first | done | rfl⟩ d_Mo_run_93 hlocks
          · refine lv_aload_n hx hb d_Mo_run_35 rfl (lv_at hl 0 rfl) ?_
            refine va_get (D := (dC, dI)) (ci := 4) (v := .ref aB) (C := "DemoTapeModel") (T := F_Mo) (N := 22) hx hb hts i_Mo hown hK hP 0 rfl rfl 3 (by decide) (hts _ mw387) (fun _ h9 => h9) rfl d_Mo_run_36 ?_
            refine lv_iload_n hx hb d_Mo_run_39 rfl (lv_at hl 1 rfl) ?_
            refine lv_iload_n hx hb d_Mo_run_40 rfl (lv_at hl 2 rfl) ?_
            refine lv_iadd hx hb d_Mo_run_41 ?_
            refine kt_i (y := nI (i + z + 1)) (nI_add i (z + 1)) ?_
            refine kt_iald (j := i + z + 1) hx hb hK hP 2 0 rfl rfl (by omega) (by decide) d_Mo_run_42 ?_
            refine lv_aload_n hx hb d_Mo_run_43 rfl (lv_at hl 0 rfl) ?_
            refine va_get (D := (dC, dI)) (ci := 4) (v := .ref aB) (C := "DemoTapeModel") (T := F_Mo) (N := 22) hx hb hts i_Mo hown hK hP 0 rfl rfl 3 (by decide) (hts _ mw387) (fun _ h9 => h9) rfl d_Mo_run_44 ?_
            refine lv_iload_n hx hb d_Mo_run_47 rfl (lv_at hl 1 rfl) ?_
            refine kt_iald (j := i) hx hb hK hP 2 0 rfl rfl (by omega) (by decide) d_Mo_run_48 ?_
            refine lv_icmp_ne (tgt := 92) hx hb d_Mo_run_49 (by decide) (fun c_49 => ?_) (fun c_49 => ?_)
            · refine lv_iload_n hx hb d_Mo_run_92 rfl (lv_at hl 2 rfl) ?_
              exact kr_i (v := nI (z + 1)) (z + 1) hx hb hr rfl hK (hP.sub [0, 1, 2, 3, 4] (rfl)) (hD.sub [0, 1, 2, 3, 4] (by decide) (rfl)) hS ⟨by first | with_reducible rfl | with_reducible assumption | rfl | omega, by omega, by omega, by omega, by rw [hg, kGr_y hlt (kEnd_y2 (by rw [heq]; exact hR.neq n_15 hi (Or.inr (Or.inl c_49)))), heq]; first | done | rfl⟩ d_Mo_run_93 hlocks
            · refine lv_aload_n hx hb d_Mo_run_52 rfl (lv_at hl 0 rfl) ?_
              refine va_get (D := (dC, dI)) (ci := 4) (v := .ref aT) (C := "DemoTapeModel") (T := F_Mo) (N := 22) hx hb hts i_Mo hown hK hP 0 rfl rfl 4 (by decide) (hts _ mw388) (fun _ h9 => h9) rfl d_Mo_run_53 ?_
              refine lv_iload_n hx hb d_Mo_run_56 rfl (lv_at hl 1 rfl) ?_
              refine lv_iload_n hx hb d_Mo_run_57 rfl (lv_at hl 2 rfl) ?_
              refine lv_iadd hx hb d_Mo_run_58 ?_
              refine kt_i (y := nI (i + z + 1)) (nI_add i (z + 1)) ?_
              refine kt_iald (j := i + z + 1) hx hb hK hP 3 0 rfl rfl (by omega) (by decide) d_Mo_run_59 ?_
              refine lv_aload_n hx hb d_Mo_run_60 rfl (lv_at hl 0 rfl) ?_
              refine va_get (D := (dC, dI)) (ci := 4) (v := .ref aT) (C := "DemoTapeModel") (T := F_Mo) (N := 22) hx hb hts i_Mo hown hK hP 0 rfl rfl 4 (by decide) (hts _ mw388) (fun _ h9 => h9) rfl d_Mo_run_61 ?_
              refine lv_iload_n hx hb d_Mo_run_64 rfl (lv_at hl 1 rfl) ?_
              refine kt_iald (j := i) hx hb hK hP 3 0 rfl rfl (by omega) (by decide) d_Mo_run_65 ?_
              refine lv_icmp_ne (tgt := 92) hx hb d_Mo_run_66 (by decide) (fun c_66 => ?_) (fun c_66 => ?_)
              · refine lv_iload_n hx hb d_Mo_run_92 rfl (lv_at hl 2 rfl) ?_
                exact kr_i (v := nI (z + 1)) (z + 1) hx hb hr rfl hK (hP.sub [0, 1, 2, 3, 4] (rfl)) (hD.sub [0, 1, 2, 3, 4] (by decide) (rfl)) hS ⟨by first | with_reducible rfl | with_reducible assumption | rfl | omega, by omega, by omega, by omega, by rw [hg, kGr_y hlt (kEnd_y2 (by rw [heq]; exact hR.neq n_15 hi (Or.inr (Or.inr (Or.inl c_66))))), heq]; first | done | rfl⟩ d_Mo_run_93 hlocks
              · refine lv_aload_n hx hb d_Mo_run_69 rfl (lv_at hl 0 rfl) ?_
                refine va_get (D := (dC, dI)) (ci := 4) (v := .ref aU) (C := "DemoTapeModel") (T := F_Mo) (N := 22) hx hb hts i_Mo hown hK hP 0 rfl rfl 5 (by decide) (hts _ mw389) (fun _ h9 => h9) rfl d_Mo_run_70 ?_
                refine lv_iload_n hx hb d_Mo_run_73 rfl (lv_at hl 1 rfl) ?_
                refine lv_iload_n hx hb d_Mo_run_74 rfl (lv_at hl 2 rfl) ?_
                refine lv_iadd hx hb d_Mo_run_75 ?_
                refine kt_i (y := nI (i + z + 1)) (nI_add i (z + 1)) ?_
                refine kt_zald (j := i + z + 1) hx hb hK hP 4 2 rfl rfl (by omega) (by decide) d_Mo_run_76 ?_
                refine lv_aload_n hx hb d_Mo_run_77 rfl (lv_at hl 0 rfl) ?_
                refine va_get (D := (dC, dI)) (ci := 4) (v := .ref aU) (C := "DemoTapeModel") (T := F_Mo) (N := 22) hx hb hts i_Mo hown hK hP 0 rfl rfl 5 (by decide) (hts _ mw389) (fun _ h9 => h9) rfl d_Mo_run_78 ?_
                refine lv_iload_n hx hb d_Mo_run_81 rfl (lv_at hl 1 rfl) ?_
                refine kt_zald (j := i) hx hb hK hP 4 2 rfl rfl (by omega) (by decide) d_Mo_run_82 ?_
                refine lv_icmp_ne (tgt := 92) hx hb d_Mo_run_83 (by decide) (fun c_83 => ?_) (fun c_83 => ?_)
                · refine lv_iload_n hx hb d_Mo_run_92 rfl (lv_at hl 2 rfl) ?_
                  exact kr_i (v := nI (z + 1)) (z + 1) hx hb hr rfl hK (hP.sub [0, 1, 2, 3, 4] (rfl)) (hD.sub [0, 1, 2, 3, 4] (by decide) (rfl)) hS ⟨by first | with_reducible rfl | with_reducible assumption | rfl | omega, by omega, by omega, by omega, by rw [hg, kGr_y hlt (kEnd_y2 (by rw [heq]; exact hR.neq n_15 hi (Or.inr (Or.inr (Or.inr c_83))))), heq]; first | done | rfl⟩ d_Mo_run_93 hlocks
                · refine lv_iinc (v := nI (z + 1 + 1)) (lv' := [(2, .int (nI (z + 1 + 1))), (0, .ref mo), (1, .int (nI i))]) hx hb d_Mo_run_86 hl (k := 2) rfl (by first | rfl | exact nI_1 _) (by decide) rfl (fun ls hl => ?_)
                  refine lv_goto (tgt := 2) hx hb d_Mo_run_89 (by decide) ?_
                  exact ih_2 (z + 1) (by omega) (by first | with_reducible assumption | omega) (by omega) (by rw [hg]; exact kGr_n hlt (kEnd_n0 (by omega) (by rw [heq]; exact hR.eq n_15 hi c_32 c_49 c_66 c_83))) (hR.eq n_15 hi c_32 c_49 c_66 c_83) _ _ (hP.sub [0, 1, 2, 3, 4] (rfl)) (hD.sub [0, 1, 2, 3, 4] (by decide) (rfl)) hS ls (lv_sub hl [1, 2, 0] rfl)
  refine lv_iconst (v := 1) hx hb d_Mo_run_0 (by decide) ?_
  refine lv_istore_n (lv' := [(2, .int 1), (0, .ref mo), (1, .int (nI i))]) hx hb d_Mo_run_1 rfl hl (by decide) rfl (fun ls hl => ?_)
  exact J_2 _ 0 (Nat.lt_succ_self _) (by first | with_reducible assumption | omega) (hi) (rfl) (rfl) _ _ (hP.sub [0, 1, 2, 3, 4] (rfl)) (hD.sub [0, 1, 2, 3, 4] (by decide) (rfl)) hS ls (lv_sub hl [1, 2, 0] rfl)
abbrev Qc_Mo_groups (dC : Nat → ClassId) (dI : Nat → Nat → Nat) (cI cB cZ : ClassId) (mo : Nat) (th : Int32) (aS : Nat) (aA : Nat) (aB : Nat) (aT : Nat) (aU : Nat) (M : List Int32) (aO : Nat) (O : List Nat) (aI : Nat) (I : List Nat) (bS : Nat) (bA : Nat) (bB : Nat) (bT : Nat) (bU : Nat) (nm : Int32) (pp : Int32) (ft : Int32) (pl : Int32) (va : Int32) (vb : Int32) (fa : Nat → Int32) (fs : Nat → Int32) (fr : Nat → Int32) (fu : Nat → Int32) (A : Nat → Prop) := va_Qi (fun (r9 : Int32) (_ : Unit) => (r9 = nI (kGr 0 M).length)) (ka (dC, dI) classes [(cI, .int), (cB, .byte), (cZ, .boolean)] (fun (_ : Unit) => [(mo, .inr (4, [.int th, .ref aS, .ref aA, .ref aB, .ref aT, .ref aU, .int (nI M.length), .ref aO, .int (nI O.length), .ref aI, .int (nI I.length), .ref bS, .ref bA, .ref bB, .ref bT, .ref bU, .int nm, .int pp, .int ft, .int pl, .int va, .int vb])), (aA, .inl (cI, 1024, .inl fa)), (aB, .inl (cI, 1024, .inl fs)), (aT, .inl (cI, 1024, .inl fr)), (aU, .inl (cZ, 1024, .inl fu))]) A) A
set_option maxHeartbeats 1000000 in
set_option maxRecDepth 100000 in
/-- Model.groups -/
theorem c_Mo_groups (l : Launch) (dC : Nat → ClassId) (dI : Nat → Nat → Nat) (cI cB cZ : ClassId) (sz : Nat) (mo : Nat) (th : Int32) (aS : Nat) (aA : Nat) (aB : Nat) (aT : Nat) (aU : Nat) (M : List Int32) (aO : Nat) (O : List Nat) (aI : Nat) (I : List Nat) (bS : Nat) (bA : Nat) (bB : Nat) (bT : Nat) (bU : Nat) (nm : Int32) (pp : Int32) (ft : Int32) (pl : Int32) (va : Int32) (vb : Int32) (fa : Nat → Int32) (fs : Nat → Int32) (fr : Nat → Int32) (fu : Nat → Int32) (hR : MRow fa fs fr fu M) : Met l y_Mo_groups w_Mo_groups ({ frames := 1, cells := 0, slots := 0, locals := 22 }) (va_Pc [.ref mo] (kp (dC, dI) classes [(cI, .int), (cB, .byte), (cZ, .boolean)] [(mo, .inr (4, [.int th, .ref aS, .ref aA, .ref aB, .ref aT, .ref aU, .int (nI M.length), .ref aO, .int (nI O.length), .ref aI, .int (nI I.length), .ref bS, .ref bA, .ref bB, .ref bT, .ref bU, .int nm, .int pp, .int ft, .int pl, .int va, .int vb])), (aA, .inl (cI, 1024, .inl fa)), (aB, .inl (cI, 1024, .inl fs)), (aT, .inl (cI, 1024, .inl fr)), (aU, .inl (cZ, 1024, .inl fu))] sz)) (Qc_Mo_groups dC dI cI cB cZ mo th aS aA aB aT aU M aO O aI I bS bA bB bT bU nm pp ft pl va vb fa fs fr fu (va_A [(mo, .inr (4, [.int th, .ref aS, .ref aA, .ref aB, .ref aT, .ref aU, .int (nI M.length), .ref aO, .int (nI O.length), .ref aI, .int (nI I.length), .ref bS, .ref bA, .ref bB, .ref bT, .ref bU, .int nm, .int pp, .int ft, .int pl, .int va, .int vb])), (aA, .inl (cI, 1024, .inl fa)), (aB, .inl (cI, 1024, .inl fs)), (aT, .inl (cI, 1024, .inl fr)), (aU, .inl (cZ, 1024, .inl fu))] sz)) 0 0 (va_A [(mo, .inr (4, [.int th, .ref aS, .ref aA, .ref aB, .ref aT, .ref aU, .int (nI M.length), .ref aO, .int (nI O.length), .ref aI, .int (nI I.length), .ref bS, .ref bA, .ref bB, .ref bT, .ref bU, .int nm, .int pp, .int ft, .int pl, .int va, .int vb])), (aA, .inl (cI, 1024, .inl fa)), (aB, .inl (cI, 1024, .inl fs)), (aT, .inl (cI, 1024, .inl fr)), (aU, .inl (cZ, 1024, .inl fu))] sz) := by
  refine Met.ofW (cc := prog_7_method_27_code) (maxL := 3) (ret := (some .int)) (by decide) rfl ?_
  intro p e s m args below meth c s₁ B hml hv
  obtain ⟨rfl, hsz, hP, hK, hD0⟩ := hv
  have hx := B.exec
  have hb := B.bytes
  have hr := B.returns
  have hts := fun w h => atoms_spec (ws := w_Mo_groups) B.pre w (List.mem_cons_of_mem _ h)
  have hown : s.vm.findClass "DemoTapeModel" = some m.cls := findClass_of_methodNamed B.named
  have hlocks := B.notSynchronized
  subst hsz
  have hD := hD0.self (sz := s.heap.size)
  generalize hAe : va_A ([(mo, .inr (4, [.int th, .ref aS, .ref aA, .ref aB, .ref aT, .ref aU, .int (nI M.length), .ref aO, .int (nI O.length), .ref aI, .int (nI I.length), .ref bS, .ref bA, .ref bB, .ref bT, .ref bU, .int nm, .int pp, .int ft, .int pl, .int va, .int vb])), (aA, .inl (cI, 1024, .inl fa)), (aB, .inl (cI, 1024, .inl fs)), (aT, .inl (cI, 1024, .inl fr)), (aU, .inl (cZ, 1024, .inl fu))] : va_W) s.heap.size = A at hD ⊢
  have hA : ∀ q : Nat, s.heap.size ≤ q → A q := fun q h => by rw [← hAe]; exact Or.inr h
  have hS : va_S A s.heap s.heap [] := va_S.rf
  have hP : va_P (dC, dI) classes [(mo, .inr (4, [.int th, .ref aS, .ref aA, .ref aB, .ref aT, .ref aU, .int (nI M.length), .ref aO, .int (nI O.length), .ref aI, .int (nI I.length), .ref bS, .ref bA, .ref bB, .ref bT, .ref bU, .int nm, .int pp, .int ft, .int pl, .int va, .int vb])), (aA, .inl (cI, 1024, .inl fa)), (aB, .inl (cI, 1024, .inl fs)), (aT, .inl (cI, 1024, .inl fr)), (aU, .inl (cZ, 1024, .inl fu))] s.heap := hP
  have hM := hR.2.2
  have hl := lv_entry ([.ref mo]) (n := 3) (Nat.le_of_ble_eq_true rfl)
  rw [lg_entry_eq]
  generalize (lg_sl ([.ref mo]) ++ List.replicate (3 - (lg_sl ([.ref mo])).length) Slot.unset).toArray = ls at hl ⊢
  have hl : lv_has ls 3 [(0, .ref mo)] := hl
  have J_4 : ∀ (fuel : Nat) (n9 : Nat) (j : Nat), (M.length - j < fuel) → (j ≤ M.length) → ((kGr 0 M).length = n9 + (kGr 0 (M.drop j)).length) → ∀ (H : Heap) (locs : List Loc), va_P (dC, dI) classes [(mo, .inr (4, [.int th, .ref aS, .ref aA, .ref aB, .ref aT, .ref aU, .int (nI M.length), .ref aO, .int (nI O.length), .ref aI, .int (nI I.length), .ref bS, .ref bA, .ref bB, .ref bT, .ref bU, .int nm, .int pp, .int ft, .int pl, .int va, .int vb])), (aA, .inl (cI, 1024, .inl fa)), (aB, .inl (cI, 1024, .inl fs)), (aT, .inl (cI, 1024, .inl fr)), (aU, .inl (cZ, 1024, .inl fu))] H → va_D A [(mo, .inr (4, [.int th, .ref aS, .ref aA, .ref aB, .ref aT, .ref aU, .int (nI M.length), .ref aO, .int (nI O.length), .ref aI, .int (nI I.length), .ref bS, .ref bA, .ref bB, .ref bT, .ref bU, .int nm, .int pp, .int ft, .int pl, .int va, .int vb])), (aA, .inl (cI, 1024, .inl fa)), (aB, .inl (cI, 1024, .inl fs)), (aT, .inl (cI, 1024, .inl fr)), (aU, .inl (cZ, 1024, .inl fu))] → va_S A s.heap H locs → ∀ (ls : Array Slot), lv_has ls 3 [(0, .ref mo), (1, .int (nI n9)), (2, .int (nI j))] → W p l e (headSpec w_Mo_groups ({ frames := 1, cells := 0, slots := 0, locals := 22 })).room s m [.ref mo].toArray below meth c H locs 0 0 (MQ below (Qc_Mo_groups dC dI cI cB cZ mo th aS aA aB aT aU M aO O aI I bS bA bB bT bU nm pp ft pl va vb fa fs fr fu A) [.ref mo].toArray s 0 0 A) (F0 m 4 ls []) := by
    intro fuel
    induction fuel with
    | zero => intro n9 j hm; exact absurd hm (Nat.not_lt_zero _)
    | succ fuel ih_4 =>
      intro n9 j hm hj hn H locs hP hD hS ls hl
      refine lv_iload_n hx hb d_Mo_groups_4 rfl (lv_at hl 2 rfl) ?_
      refine lv_aload_n hx hb d_Mo_groups_5 rfl (lv_at hl 0 rfl) ?_
      refine va_get (D := (dC, dI)) (ci := 4) (v := .int (nI M.length)) (C := "DemoTapeModel") (T := F_Mo) (N := 22) hx hb hts i_Mo hown hK hP 0 rfl rfl 6 (by decide) (hts _ mw390) (fun _ h9 => h9) rfl d_Mo_groups_6 ?_
      refine lv_icmp_ge (tgt := 26) hx hb d_Mo_groups_9 (by decide) (fun c_9 => ?_) (fun c_9 => ?_)
      · have n_9 := kn_le (a := M.length) (b := j) c_9 rfl rfl (by omega) (by omega)
        refine lv_iload_n hx hb d_Mo_groups_26 rfl (lv_at hl 1 rfl) ?_
        exact kr_i (v := nI n9) () hx hb hr rfl hK (hP.sub [0, 1, 2, 3, 4] (rfl)) (hD.sub [0, 1, 2, 3, 4] (by decide) (rfl)) hS (by rw [hn, List.drop_of_length_le (by omega)]; rfl) d_Mo_groups_27 hlocks
      · have n_9 := kn_nle (a := M.length) (b := j) c_9 rfl rfl (by omega) (by omega)
        refine lv_iinc (v := nI (n9 + 1)) (lv' := [(1, .int (nI (n9 + 1))), (0, .ref mo), (2, .int (nI j))]) hx hb d_Mo_groups_12 hl (k := 1) rfl (by first | rfl | exact nI_1 _) (by decide) rfl (fun ls hl => ?_)
        refine lv_iload_n hx hb d_Mo_groups_15 rfl (lv_at hl 2 rfl) ?_
        refine lv_aload_n hx hb d_Mo_groups_16 rfl (lv_at hl 1 rfl) ?_
        refine lv_iload_n hx hb d_Mo_groups_17 rfl (lv_at hl 2 rfl) ?_
        refine kc_i (wr := []) (w2 := fun (u9 : Nat) => [(mo, .inr (4, [.int th, .ref aS, .ref aA, .ref aB, .ref aT, .ref aU, .int (nI M.length), .ref aO, .int (nI O.length), .ref aI, .int (nI I.length), .ref bS, .ref bA, .ref bB, .ref bT, .ref bU, .int nm, .int pp, .int ft, .int pl, .int va, .int vb])), (aA, .inl (cI, 1024, .inl fa)), (aB, .inl (cI, 1024, .inl fs)), (aT, .inl (cI, 1024, .inl fr)), (aU, .inl (cZ, 1024, .inl fu))]) (va_runV (As := [.int (nI j)]) (rest := [.int (nI j)]) ⟨hx, hb, hml, hown, hts⟩ (c_Mo_run l dC dI cI cB cZ _ mo th aS aA aB aT aU M aO O aI I bS bA bB bT bU nm pp ft pl va vb fa fs fr fu j (by first | with_reducible assumption | omega | decide) (n_9)) (cwV 1 hts (gV mw479 mw481 mw13 mw30 mw482) rfl rfl rfl (by decide +kernel) ⟨Nat.le_of_ble_eq_true rfl, Nat.le_of_ble_eq_true rfl⟩) (kpV (wc := [(mo, .inr (4, [.int th, .ref aS, .ref aA, .ref aB, .ref aT, .ref aU, .int (nI M.length), .ref aO, .int (nI O.length), .ref aI, .int (nI I.length), .ref bS, .ref bA, .ref bB, .ref bT, .ref bU, .int nm, .int pp, .int ft, .int pl, .int va, .int vb])), (aA, .inl (cI, 1024, .inl fa)), (aB, .inl (cI, 1024, .inl fs)), (aT, .inl (cI, 1024, .inl fr)), (aU, .inl (cZ, 1024, .inl fu))]) (q0 := 0) (ci := 4) hK hP hD [0, 1, 2, 3, 4] rfl (by decide) rfl rfl rfl) rfl rfl hl.1 rfl (lv_room (Nat.le_of_ble_eq_true rfl)) d_Mo_groups_18 ⟨Nat.le_of_ble_eq_true rfl, Nat.le_of_ble_eq_true rfl⟩) hP hD hS hA [0, 1, 2, 3, 4] [] [0, 1, 2, 3, 4] rfl rfl (by decide) (by decide) (fun _ => rfl) (by decide) (fun _ => rfl) (fun r_18 u9 H locs hw hP hD hS => ?_)
        obtain ⟨n1_18, rfl⟩ : ∃ z, z = u9 := ⟨_, rfl⟩
        try dsimp only at hw
        have hP : va_P (dC, dI) classes [(mo, .inr (4, [.int th, .ref aS, .ref aA, .ref aB, .ref aT, .ref aU, .int (nI M.length), .ref aO, .int (nI O.length), .ref aI, .int (nI I.length), .ref bS, .ref bA, .ref bB, .ref bT, .ref bU, .int nm, .int pp, .int ft, .int pl, .int va, .int vb])), (aA, .inl (cI, 1024, .inl fa)), (aB, .inl (cI, 1024, .inl fs)), (aT, .inl (cI, 1024, .inl fr)), (aU, .inl (cZ, 1024, .inl fu))] H := hP
        have hD : va_D A [(mo, .inr (4, [.int th, .ref aS, .ref aA, .ref aB, .ref aT, .ref aU, .int (nI M.length), .ref aO, .int (nI O.length), .ref aI, .int (nI I.length), .ref bS, .ref bA, .ref bB, .ref bT, .ref bU, .int nm, .int pp, .int ft, .int pl, .int va, .int vb])), (aA, .inl (cI, 1024, .inl fa)), (aB, .inl (cI, 1024, .inl fs)), (aT, .inl (cI, 1024, .inl fr)), (aU, .inl (cZ, 1024, .inl fu))] := hD
        obtain ⟨e_18, h1_18, h2_18, h3_18, hg_18⟩ := hw
        refine kt_i e_18 ?_
        refine lv_iadd hx hb d_Mo_groups_21 ?_
        refine kt_i (y := nI (j + n1_18)) (nI_add _ _) ?_
        refine lv_istore_n (lv' := [(2, .int (nI (j + n1_18))), (1, .int (nI (n9 + 1))), (0, .ref mo)]) hx hb d_Mo_groups_22 rfl hl (by decide) rfl (fun ls hl => ?_)
        refine lv_goto (tgt := 4) hx hb d_Mo_groups_23 (by decide) ?_
        exact ih_4 (n9 + 1) (j + n1_18) (by omega) (by first | with_reducible assumption | omega) (by rw [hn, hg_18, List.length_cons]; omega) _ _ (hP.sub [0, 1, 2, 3, 4] (rfl)) (hD.sub [0, 1, 2, 3, 4] (by decide) (rfl)) hS ls (lv_sub hl [2, 1, 0] rfl)
  refine lv_iconst (v := 0) hx hb d_Mo_groups_0 (by decide) ?_
  refine lv_istore_n (lv' := [(1, .int 0), (0, .ref mo)]) hx hb d_Mo_groups_1 rfl hl (by decide) rfl (fun ls hl => ?_)
  refine lv_iconst (v := 0) hx hb d_Mo_groups_2 (by decide) ?_
  refine lv_istore_n (lv' := [(2, .int 0), (1, .int 0), (0, .ref mo)]) hx hb d_Mo_groups_3 rfl hl (by decide) rfl (fun ls hl => ?_)
  exact J_4 _ 0 0 (Nat.lt_succ_self _) (by first | with_reducible assumption | omega) ((Nat.zero_add _).symm) _ _ (hP.sub [0, 1, 2, 3, 4] (rfl)) (hD.sub [0, 1, 2, 3, 4] (by decide) (rfl)) hS ls (lv_sub hl [2, 1, 0] rfl)
abbrev Qc_Mo_look (dC : Nat → ClassId) (dI : Nat → Nat → Nat) (cI cB cZ : ClassId) (mo : Nat) (th : Int32) (aS : Nat) (aA : Nat) (aB : Nat) (aT : Nat) (aU : Nat) (M : List Int32) (aO : Nat) (O : List Nat) (aI : Nat) (I : List Nat) (bS : Nat) (bA : Nat) (bB : Nat) (bT : Nat) (bU : Nat) (nm : Int32) (pp : Int32) (ft : Int32) (pl : Int32) (va : Int32) (vb : Int32) (fa : Nat → Int32) (fs : Nat → Int32) (fr : Nat → Int32) (fu : Nat → Int32) (q : RS) (pw : Int32) (A : Nat → Prop) := va_Qi (fun (r9 : Int32) (_ : Unit) => (r9 = kLook M O I q pw)) (ka (dC, dI) classes [(cI, .int), (cB, .byte), (cZ, .boolean)] (fun (_ : Unit) => [(mo, .inr (4, [.int 0, .ref aS, .ref aA, .ref aB, .ref aT, .ref aU, .int (nI M.length), .ref aO, .int (nI O.length), .ref aI, .int (nI I.length), .ref bS, .ref bA, .ref bB, .ref bT, .ref bU, .int nm, .int pp, .int (rFt q), .int (rPl q), .int va, .int vb])), (aA, .inl (cI, 1024, .inl fa)), (aB, .inl (cI, 1024, .inl fs)), (aT, .inl (cI, 1024, .inl fr)), (aU, .inl (cZ, 1024, .inl fu))]) A) A
set_option maxHeartbeats 1000000 in
set_option maxRecDepth 100000 in
/-- Model.look -/
theorem c_Mo_look (l : Launch) (dC : Nat → ClassId) (dI : Nat → Nat → Nat) (cI cB cZ : ClassId) (sz : Nat) (mo : Nat) (th : Int32) (aS : Nat) (aA : Nat) (aB : Nat) (aT : Nat) (aU : Nat) (M : List Int32) (aO : Nat) (O : List Nat) (aI : Nat) (I : List Nat) (bS : Nat) (bA : Nat) (bB : Nat) (bT : Nat) (bU : Nat) (nm : Int32) (pp : Int32) (ft : Int32) (pl : Int32) (va : Int32) (vb : Int32) (fa : Nat → Int32) (fs : Nat → Int32) (fr : Nat → Int32) (fu : Nat → Int32) (q : RS) (pw : Int32) (hR : MRow fa fs fr fu M) : Met l y_Mo_look w_Mo_look ({ frames := 2, cells := 0, slots := 0, locals := 44 }) (va_Pc [.ref mo, .int pw] (kp (dC, dI) classes [(cI, .int), (cB, .byte), (cZ, .boolean)] [(mo, .inr (4, [.int th, .ref aS, .ref aA, .ref aB, .ref aT, .ref aU, .int (nI M.length), .ref aO, .int (nI O.length), .ref aI, .int (nI I.length), .ref bS, .ref bA, .ref bB, .ref bT, .ref bU, .int nm, .int pp, .int (rFt q), .int (rPl q), .int va, .int vb])), (aA, .inl (cI, 1024, .inl fa)), (aB, .inl (cI, 1024, .inl fs)), (aT, .inl (cI, 1024, .inl fr)), (aU, .inl (cZ, 1024, .inl fu))] sz)) (Qc_Mo_look dC dI cI cB cZ mo th aS aA aB aT aU M aO O aI I bS bA bB bT bU nm pp ft pl va vb fa fs fr fu q pw (va_A [(mo, .inr (4, [.int th, .ref aS, .ref aA, .ref aB, .ref aT, .ref aU, .int (nI M.length), .ref aO, .int (nI O.length), .ref aI, .int (nI I.length), .ref bS, .ref bA, .ref bB, .ref bT, .ref bU, .int nm, .int pp, .int (rFt q), .int (rPl q), .int va, .int vb])), (aA, .inl (cI, 1024, .inl fa)), (aB, .inl (cI, 1024, .inl fs)), (aT, .inl (cI, 1024, .inl fr)), (aU, .inl (cZ, 1024, .inl fu))] sz)) 0 0 (va_A [(mo, .inr (4, [.int th, .ref aS, .ref aA, .ref aB, .ref aT, .ref aU, .int (nI M.length), .ref aO, .int (nI O.length), .ref aI, .int (nI I.length), .ref bS, .ref bA, .ref bB, .ref bT, .ref bU, .int nm, .int pp, .int (rFt q), .int (rPl q), .int va, .int vb])), (aA, .inl (cI, 1024, .inl fa)), (aB, .inl (cI, 1024, .inl fs)), (aT, .inl (cI, 1024, .inl fr)), (aU, .inl (cZ, 1024, .inl fu))] sz) := by
  refine Met.ofW (cc := prog_7_method_29_code) (maxL := 2) (ret := (some .int)) (by decide) rfl ?_
  intro p e s m args below meth c s₁ B hml hv
  obtain ⟨rfl, hsz, hP, hK, hD0⟩ := hv
  have hx := B.exec
  have hb := B.bytes
  have hr := B.returns
  have hts := fun w h => atoms_spec (ws := w_Mo_look) B.pre w (List.mem_cons_of_mem _ h)
  have hown : s.vm.findClass "DemoTapeModel" = some m.cls := findClass_of_methodNamed B.named
  have hlocks := B.notSynchronized
  subst hsz
  have hD := hD0.self (sz := s.heap.size)
  generalize hAe : va_A ([(mo, .inr (4, [.int th, .ref aS, .ref aA, .ref aB, .ref aT, .ref aU, .int (nI M.length), .ref aO, .int (nI O.length), .ref aI, .int (nI I.length), .ref bS, .ref bA, .ref bB, .ref bT, .ref bU, .int nm, .int pp, .int (rFt q), .int (rPl q), .int va, .int vb])), (aA, .inl (cI, 1024, .inl fa)), (aB, .inl (cI, 1024, .inl fs)), (aT, .inl (cI, 1024, .inl fr)), (aU, .inl (cZ, 1024, .inl fu))] : va_W) s.heap.size = A at hD ⊢
  have hA : ∀ q : Nat, s.heap.size ≤ q → A q := fun q h => by rw [← hAe]; exact Or.inr h
  have hS : va_S A s.heap s.heap [] := va_S.rf
  have hP : va_P (dC, dI) classes [(mo, .inr (4, [.int th, .ref aS, .ref aA, .ref aB, .ref aT, .ref aU, .int (nI M.length), .ref aO, .int (nI O.length), .ref aI, .int (nI I.length), .ref bS, .ref bA, .ref bB, .ref bT, .ref bU, .int nm, .int pp, .int (rFt q), .int (rPl q), .int va, .int vb])), (aA, .inl (cI, 1024, .inl fa)), (aB, .inl (cI, 1024, .inl fs)), (aT, .inl (cI, 1024, .inl fr)), (aU, .inl (cZ, 1024, .inl fu))] s.heap := hP
  have hl := lv_entry ([.ref mo, .int pw]) (n := 2) (Nat.le_of_ble_eq_true rfl)
  rw [lg_entry_eq]
  generalize (lg_sl ([.ref mo, .int pw]) ++ List.replicate (2 - (lg_sl ([.ref mo, .int pw])).length) Slot.unset).toArray = ls at hl ⊢
  have hl : lv_has ls 2 [(0, .ref mo), (1, .int pw)] := hl
  refine lv_aload_n hx hb d_Mo_look_0 rfl (lv_at hl 0 rfl) ?_
  refine lv_iconst (v := 0) hx hb d_Mo_look_1 (by decide) ?_
  refine va_put (D := (dC, dI)) (ci := 4) (v := .int 0) (ty := .int) (C := "DemoTapeModel") (T := F_Mo) (N := 22) hx hb hts i_Mo t_Mo t_Mo_ok n_Mo hown hK hP hD hS 0 rfl rfl 0 (by decide) (hts _ mw384) (fun _ h9 => h9) rfl (by decide +kernel) rfl rfl (Nat.le_of_ble_eq_true rfl) d_Mo_look_2 (fun H locs hP hD hS => ?_)
  have hP : va_P (dC, dI) classes [(mo, .inr (4, [.int 0, .ref aS, .ref aA, .ref aB, .ref aT, .ref aU, .int (nI M.length), .ref aO, .int (nI O.length), .ref aI, .int (nI I.length), .ref bS, .ref bA, .ref bB, .ref bT, .ref bU, .int nm, .int pp, .int (rFt q), .int (rPl q), .int va, .int vb])), (aA, .inl (cI, 1024, .inl fa)), (aB, .inl (cI, 1024, .inl fs)), (aT, .inl (cI, 1024, .inl fr)), (aU, .inl (cZ, 1024, .inl fu))] H := hP
  have hD : va_D A [(mo, .inr (4, [.int 0, .ref aS, .ref aA, .ref aB, .ref aT, .ref aU, .int (nI M.length), .ref aO, .int (nI O.length), .ref aI, .int (nI I.length), .ref bS, .ref bA, .ref bB, .ref bT, .ref bU, .int nm, .int pp, .int (rFt q), .int (rPl q), .int va, .int vb])), (aA, .inl (cI, 1024, .inl fa)), (aB, .inl (cI, 1024, .inl fs)), (aT, .inl (cI, 1024, .inl fr)), (aU, .inl (cZ, 1024, .inl fu))] := hD
  refine lv_iload_n hx hb d_Mo_look_5 rfl (lv_at hl 1 rfl) ?_
  by_cases c_6 : pw.toInt < 0 ∨ 6 < pw.toInt
  · refine lv_tableOut (tgt := 83) hx hb d_Mo_look_6 c_6 (by decide) ?_
    refine lv_iconst (v := -1) hx hb d_Mo_look_83 (by decide) ?_
    exact kr_i (v := -1) () hx hb hr rfl hK (hP.sub [0, 1, 2, 3, 4] (rfl)) (hD.sub [0, 1, 2, 3, 4] (by decide) (rfl)) hS ((kLook_out c_6).symm) d_Mo_look_84 hlocks
  · by_cases c_6_0 : pw = 0
    · refine lv_tableIn (tgt := 48) (off := 42) hx hb d_Mo_look_6 (by rw [c_6_0]; decide) (by rw [c_6_0]; decide) (by rw [c_6_0]; rfl) (by decide) ?_
      refine lv_aload_n hx hb d_Mo_look_48 rfl (lv_at hl 0 rfl) ?_
      refine va_get (D := (dC, dI)) (ci := 4) (v := .int (nI M.length)) (C := "DemoTapeModel") (T := F_Mo) (N := 22) hx hb hts i_Mo hown hK hP 0 rfl rfl 6 (by decide) (hts _ mw390) (fun _ h9 => h9) rfl d_Mo_look_49 ?_
      exact kr_i (v := nI M.length) () hx hb hr rfl hK (hP.sub [0, 1, 2, 3, 4] (rfl)) (hD.sub [0, 1, 2, 3, 4] (by decide) (rfl)) hS (by rw [c_6_0]; rfl) d_Mo_look_52 hlocks
    · by_cases c_6_1 : pw = 1
      · refine lv_tableIn (tgt := 53) (off := 47) hx hb d_Mo_look_6 (by rw [c_6_1]; decide) (by rw [c_6_1]; decide) (by rw [c_6_1]; rfl) (by decide) ?_
        refine lv_aload_n hx hb d_Mo_look_53 rfl (lv_at hl 0 rfl) ?_
        refine kq_i (wr := []) (va_runV (As := []) (rest := []) ⟨hx, hb, hml, hown, hts⟩ (c_Mo_groups l dC dI cI cB cZ _ mo 0 aS aA aB aT aU M aO O aI I bS bA bB bT bU nm pp (rFt q) (rPl q) va vb fa fs fr fu (by first | with_reducible assumption | omega | decide)) (cwV 0 hts (gV mw555 mw557 mw22 mw30 mw558) rfl rfl rfl (by decide +kernel) ⟨Nat.le_of_ble_eq_true rfl, Nat.le_of_ble_eq_true rfl⟩) (kpV (wc := [(mo, .inr (4, [.int 0, .ref aS, .ref aA, .ref aB, .ref aT, .ref aU, .int (nI M.length), .ref aO, .int (nI O.length), .ref aI, .int (nI I.length), .ref bS, .ref bA, .ref bB, .ref bT, .ref bU, .int nm, .int pp, .int (rFt q), .int (rPl q), .int va, .int vb])), (aA, .inl (cI, 1024, .inl fa)), (aB, .inl (cI, 1024, .inl fs)), (aT, .inl (cI, 1024, .inl fr)), (aU, .inl (cZ, 1024, .inl fu))]) (q0 := 0) (ci := 4) hK hP hD [0, 1, 2, 3, 4] rfl (by decide) rfl rfl rfl) rfl rfl hl.1 rfl (lv_room (Nat.le_of_ble_eq_true rfl)) d_Mo_look_54 ⟨Nat.le_of_ble_eq_true rfl, Nat.le_of_ble_eq_true rfl⟩) hP hD hS hA [0, 1, 2, 3, 4] [] [0, 1, 2, 3, 4] rfl rfl (by decide) (by decide) rfl (fun r_54 H locs hw hP hS => ?_)
        have e_54 := hw
        refine kt_i e_54 ?_
        exact kr_i (v := nI (kGr 0 M).length) () hx hb hr rfl hK (hP.sub [0, 1, 2, 3, 4] (rfl)) (hD.sub [0, 1, 2, 3, 4] (by decide) (rfl)) hS (by rw [c_6_1]; rfl) d_Mo_look_57 hlocks
      · by_cases c_6_2 : pw = 2
        · refine lv_tableIn (tgt := 58) (off := 52) hx hb d_Mo_look_6 (by rw [c_6_2]; decide) (by rw [c_6_2]; decide) (by rw [c_6_2]; rfl) (by decide) ?_
          refine lv_aload_n hx hb d_Mo_look_58 rfl (lv_at hl 0 rfl) ?_
          refine va_get (D := (dC, dI)) (ci := 4) (v := .int (nI O.length)) (C := "DemoTapeModel") (T := F_Mo) (N := 22) hx hb hts i_Mo hown hK hP 0 rfl rfl 8 (by decide) (hts _ mw392) (fun _ h9 => h9) rfl d_Mo_look_59 ?_
          exact kr_i (v := nI O.length) () hx hb hr rfl hK (hP.sub [0, 1, 2, 3, 4] (rfl)) (hD.sub [0, 1, 2, 3, 4] (by decide) (rfl)) hS (by rw [c_6_2]; rfl) d_Mo_look_62 hlocks
        · by_cases c_6_3 : pw = 3
          · refine lv_tableIn (tgt := 63) (off := 57) hx hb d_Mo_look_6 (by rw [c_6_3]; decide) (by rw [c_6_3]; decide) (by rw [c_6_3]; rfl) (by decide) ?_
            refine lv_aload_n hx hb d_Mo_look_63 rfl (lv_at hl 0 rfl) ?_
            refine va_get (D := (dC, dI)) (ci := 4) (v := .int (nI I.length)) (C := "DemoTapeModel") (T := F_Mo) (N := 22) hx hb hts i_Mo hown hK hP 0 rfl rfl 10 (by decide) (hts _ mw394) (fun _ h9 => h9) rfl d_Mo_look_64 ?_
            exact kr_i (v := nI I.length) () hx hb hr rfl hK (hP.sub [0, 1, 2, 3, 4] (rfl)) (hD.sub [0, 1, 2, 3, 4] (by decide) (rfl)) hS (by rw [c_6_3]; rfl) d_Mo_look_67 hlocks
          · by_cases c_6_4 : pw = 4
            · refine lv_tableIn (tgt := 68) (off := 62) hx hb d_Mo_look_6 (by rw [c_6_4]; decide) (by rw [c_6_4]; decide) (by rw [c_6_4]; rfl) (by decide) ?_
              refine lv_aload_n hx hb d_Mo_look_68 rfl (lv_at hl 0 rfl) ?_
              refine va_get (D := (dC, dI)) (ci := 4) (v := .int (rFt q)) (C := "DemoTapeModel") (T := F_Mo) (N := 22) hx hb hts i_Mo hown hK hP 0 rfl rfl 18 (by decide) (hts _ mw402) (fun _ h9 => h9) rfl d_Mo_look_69 ?_
              exact kr_i (v := rFt q) () hx hb hr rfl hK (hP.sub [0, 1, 2, 3, 4] (rfl)) (hD.sub [0, 1, 2, 3, 4] (by decide) (rfl)) hS (by rw [c_6_4]; rfl) d_Mo_look_72 hlocks
            · by_cases c_6_5 : pw = 5
              · refine lv_tableIn (tgt := 73) (off := 67) hx hb d_Mo_look_6 (by rw [c_6_5]; decide) (by rw [c_6_5]; decide) (by rw [c_6_5]; rfl) (by decide) ?_
                refine lv_aload_n hx hb d_Mo_look_73 rfl (lv_at hl 0 rfl) ?_
                refine va_get (D := (dC, dI)) (ci := 4) (v := .int (rPl q)) (C := "DemoTapeModel") (T := F_Mo) (N := 22) hx hb hts i_Mo hown hK hP 0 rfl rfl 19 (by decide) (hts _ mw403) (fun _ h9 => h9) rfl d_Mo_look_74 ?_
                exact kr_i (v := rPl q) () hx hb hr rfl hK (hP.sub [0, 1, 2, 3, 4] (rfl)) (hD.sub [0, 1, 2, 3, 4] (by decide) (rfl)) hS (by rw [c_6_5]; rfl) d_Mo_look_77 hlocks
              · have c_6_6 : pw = 6 := by have h100 : pw.toInt ≠ 0 := fun h => c_6_0 (Int32.toInt_inj.mp (h.trans (by decide))); have h101 : pw.toInt ≠ 1 := fun h => c_6_1 (Int32.toInt_inj.mp (h.trans (by decide))); have h102 : pw.toInt ≠ 2 := fun h => c_6_2 (Int32.toInt_inj.mp (h.trans (by decide))); have h103 : pw.toInt ≠ 3 := fun h => c_6_3 (Int32.toInt_inj.mp (h.trans (by decide))); have h104 : pw.toInt ≠ 4 := fun h => c_6_4 (Int32.toInt_inj.mp (h.trans (by decide))); have h105 : pw.toInt ≠ 5 := fun h => c_6_5 (Int32.toInt_inj.mp (h.trans (by decide))); apply Int32.toInt_inj.mp; have h0 : (6 : Int32).toInt = 6 := (by decide); rw [h0]; omega
                refine lv_tableIn (tgt := 78) (off := 72) hx hb d_Mo_look_6 (by rw [c_6_6]; decide) (by rw [c_6_6]; decide) (by rw [c_6_6]; rfl) (by decide) ?_
                refine lv_aload_n hx hb d_Mo_look_78 rfl (lv_at hl 0 rfl) ?_
                refine kq_i (wr := []) (va_runV (As := []) (rest := []) ⟨hx, hb, hml, hown, hts⟩ (c_Mo_using l dC dI cI cB cZ _ mo 0 aS aA aB aT aU M aO O aI I bS bA bB bT bU nm pp (rFt q) (rPl q) va vb fa fs fr fu (by first | with_reducible assumption | omega | decide)) (cwV 0 hts (gV mw559 mw561 mw23 mw30 mw562) rfl rfl rfl (by decide +kernel) ⟨Nat.le_of_ble_eq_true rfl, Nat.le_of_ble_eq_true rfl⟩) (kpV (wc := [(mo, .inr (4, [.int 0, .ref aS, .ref aA, .ref aB, .ref aT, .ref aU, .int (nI M.length), .ref aO, .int (nI O.length), .ref aI, .int (nI I.length), .ref bS, .ref bA, .ref bB, .ref bT, .ref bU, .int nm, .int pp, .int (rFt q), .int (rPl q), .int va, .int vb])), (aA, .inl (cI, 1024, .inl fa)), (aB, .inl (cI, 1024, .inl fs)), (aT, .inl (cI, 1024, .inl fr)), (aU, .inl (cZ, 1024, .inl fu))]) (q0 := 0) (ci := 4) hK hP hD [0, 1, 2, 3, 4] rfl (by decide) rfl rfl rfl) rfl rfl hl.1 rfl (lv_room (Nat.le_of_ble_eq_true rfl)) d_Mo_look_79 ⟨Nat.le_of_ble_eq_true rfl, Nat.le_of_ble_eq_true rfl⟩) hP hD hS hA [0, 1, 2, 3, 4] [] [0, 1, 2, 3, 4] rfl rfl (by decide) (by decide) rfl (fun r_79 H locs hw hP hS => ?_)
                have e_79 := hw
                refine kt_i e_79 ?_
                exact kr_i (v := nI (kUses M)) () hx hb hr rfl hK (hP.sub [0, 1, 2, 3, 4] (rfl)) (hD.sub [0, 1, 2, 3, 4] (by decide) (rfl)) hS (by rw [c_6_6]; rfl) d_Mo_look_82 hlocks
abbrev Qc_Mo_put (dC : Nat → ClassId) (dI : Nat → Nat → Nat) (cI cB cZ : ClassId) (mo : Nat) (th : Int32) (aS : Nat) (aA : Nat) (aB : Nat) (aT : Nat) (aU : Nat) (M : List Int32) (aO : Nat) (O : List Nat) (aI : Nat) (I : List Nat) (bS : Nat) (bA : Nat) (bB : Nat) (bT : Nat) (bU : Nat) (nm : Int32) (pp : Int32) (ft : Int32) (pl : Int32) (va : Int32) (vb : Int32) (fo : Nat → Int32) (v : Int32) (A : Nat → Prop) := va_Qv (fun (u9 : (Nat → Int32)) => (NRow 4200 u9 (O ++ [iByte v]))) (ka (dC, dI) classes [(cI, .int), (cB, .byte), (cZ, .boolean)] (fun (u9 : (Nat → Int32)) => [(mo, .inr (4, [.int th, .ref aS, .ref aA, .ref aB, .ref aT, .ref aU, .int (nI M.length), .ref aO, .int (nI (O ++ [iByte v]).length), .ref aI, .int (nI I.length), .ref bS, .ref bA, .ref bB, .ref bT, .ref bU, .int nm, .int pp, .int ft, .int pl, .int va, .int vb])), (aO, .inl (cI, 4200, .inl u9))]) A) A
set_option maxHeartbeats 1000000 in
set_option maxRecDepth 100000 in
/-- Model.put -/
theorem c_Mo_put (l : Launch) (dC : Nat → ClassId) (dI : Nat → Nat → Nat) (cI cB cZ : ClassId) (sz : Nat) (mo : Nat) (th : Int32) (aS : Nat) (aA : Nat) (aB : Nat) (aT : Nat) (aU : Nat) (M : List Int32) (aO : Nat) (O : List Nat) (aI : Nat) (I : List Nat) (bS : Nat) (bA : Nat) (bB : Nat) (bT : Nat) (bU : Nat) (nm : Int32) (pp : Int32) (ft : Int32) (pl : Int32) (va : Int32) (vb : Int32) (fo : Nat → Int32) (v : Int32) (hO : NRow 4200 fo O) (hol : O.length < 4200) : Met l y_Mo_put w_Mo_put ({ frames := 0, cells := 0, slots := 0, locals := 0 }) (va_Pc [.ref mo, .int v] (kp (dC, dI) classes [(cI, .int), (cB, .byte), (cZ, .boolean)] [(mo, .inr (4, [.int th, .ref aS, .ref aA, .ref aB, .ref aT, .ref aU, .int (nI M.length), .ref aO, .int (nI O.length), .ref aI, .int (nI I.length), .ref bS, .ref bA, .ref bB, .ref bT, .ref bU, .int nm, .int pp, .int ft, .int pl, .int va, .int vb])), (aO, .inl (cI, 4200, .inl fo))] sz)) (Qc_Mo_put dC dI cI cB cZ mo th aS aA aB aT aU M aO O aI I bS bA bB bT bU nm pp ft pl va vb fo v (va_A [(mo, .inr (4, [.int th, .ref aS, .ref aA, .ref aB, .ref aT, .ref aU, .int (nI M.length), .ref aO, .int (nI O.length), .ref aI, .int (nI I.length), .ref bS, .ref bA, .ref bB, .ref bT, .ref bU, .int nm, .int pp, .int ft, .int pl, .int va, .int vb])), (aO, .inl (cI, 4200, .inl fo))] sz)) 0 0 (va_A [(mo, .inr (4, [.int th, .ref aS, .ref aA, .ref aB, .ref aT, .ref aU, .int (nI M.length), .ref aO, .int (nI O.length), .ref aI, .int (nI I.length), .ref bS, .ref bA, .ref bB, .ref bT, .ref bU, .int nm, .int pp, .int ft, .int pl, .int va, .int vb])), (aO, .inl (cI, 4200, .inl fo))] sz) := by
  refine Met.ofW (cc := prog_7_method_9_code) (maxL := 2) (ret := none) (by decide) rfl ?_
  intro p e s m args below meth c s₁ B hml hv
  obtain ⟨rfl, hsz, hP, hK, hD0⟩ := hv
  have hx := B.exec
  have hb := B.bytes
  have hr := B.returns
  have hts := fun w h => atoms_spec (ws := w_Mo_put) B.pre w (List.mem_cons_of_mem _ h)
  have hown : s.vm.findClass "DemoTapeModel" = some m.cls := findClass_of_methodNamed B.named
  have hlocks := B.notSynchronized
  subst hsz
  have hD := hD0.self (sz := s.heap.size)
  generalize hAe : va_A ([(mo, .inr (4, [.int th, .ref aS, .ref aA, .ref aB, .ref aT, .ref aU, .int (nI M.length), .ref aO, .int (nI O.length), .ref aI, .int (nI I.length), .ref bS, .ref bA, .ref bB, .ref bT, .ref bU, .int nm, .int pp, .int ft, .int pl, .int va, .int vb])), (aO, .inl (cI, 4200, .inl fo))] : va_W) s.heap.size = A at hD ⊢
  have hA : ∀ q : Nat, s.heap.size ≤ q → A q := fun q h => by rw [← hAe]; exact Or.inr h
  have hS : va_S A s.heap s.heap [] := va_S.rf
  have hP : va_P (dC, dI) classes [(mo, .inr (4, [.int th, .ref aS, .ref aA, .ref aB, .ref aT, .ref aU, .int (nI M.length), .ref aO, .int (nI O.length), .ref aI, .int (nI I.length), .ref bS, .ref bA, .ref bB, .ref bT, .ref bU, .int nm, .int pp, .int ft, .int pl, .int va, .int vb])), (aO, .inl (cI, 4200, .inl fo))] s.heap := hP
  have hl := lv_entry ([.ref mo, .int v]) (n := 2) (Nat.le_of_ble_eq_true rfl)
  rw [lg_entry_eq]
  generalize (lg_sl ([.ref mo, .int v]) ++ List.replicate (2 - (lg_sl ([.ref mo, .int v])).length) Slot.unset).toArray = ls at hl ⊢
  have hl : lv_has ls 2 [(0, .ref mo), (1, .int v)] := hl
  refine lv_aload_n hx hb d_Mo_put_0 rfl (lv_at hl 0 rfl) ?_
  refine va_get (D := (dC, dI)) (ci := 4) (v := .ref aO) (C := "DemoTapeModel") (T := F_Mo) (N := 22) hx hb hts i_Mo hown hK hP 0 rfl rfl 7 (by decide) (hts _ mw391) (fun _ h9 => h9) rfl d_Mo_put_1 ?_
  refine lv_aload_n hx hb d_Mo_put_4 rfl (lv_at hl 0 rfl) ?_
  refine va_get (D := (dC, dI)) (ci := 4) (v := .int (nI O.length)) (C := "DemoTapeModel") (T := F_Mo) (N := 22) hx hb hts i_Mo hown hK hP 0 rfl rfl 8 (by decide) (hts _ mw392) (fun _ h9 => h9) rfl d_Mo_put_5 ?_
  refine lv_iload_n hx hb d_Mo_put_8 rfl (lv_at hl 1 rfl) ?_
  refine lv_sipush (v := 255) hx hb d_Mo_put_9 (by decide) ?_
  refine lv_iand hx hb d_Mo_put_12 ?_
  refine kt_i (y := nI (iByte v)) (pk_and v 8 (by decide)) ?_
  refine kt_iast (j := O.length) hx hb hK hP hD hS 1 0 rfl rfl (hol) (by decide) d_Mo_put_13 (fun H locs hP hD hS => ?_)
  have hP : va_P (dC, dI) classes [(mo, .inr (4, [.int th, .ref aS, .ref aA, .ref aB, .ref aT, .ref aU, .int (nI M.length), .ref aO, .int (nI O.length), .ref aI, .int (nI I.length), .ref bS, .ref bA, .ref bB, .ref bT, .ref bU, .int nm, .int pp, .int ft, .int pl, .int va, .int vb])), (aO, .inl (cI, 4200, .inl (upd fo O.length (nI (iByte v)))))] H := hP
  have hD : va_D A [(mo, .inr (4, [.int th, .ref aS, .ref aA, .ref aB, .ref aT, .ref aU, .int (nI M.length), .ref aO, .int (nI O.length), .ref aI, .int (nI I.length), .ref bS, .ref bA, .ref bB, .ref bT, .ref bU, .int nm, .int pp, .int ft, .int pl, .int va, .int vb])), (aO, .inl (cI, 4200, .inl (upd fo O.length (nI (iByte v)))))] := hD
  refine lv_aload_n hx hb d_Mo_put_14 rfl (lv_at hl 0 rfl) ?_
  refine lv_dup hx hb d_Mo_put_15 rfl ?_
  refine va_get (D := (dC, dI)) (ci := 4) (v := .int (nI O.length)) (C := "DemoTapeModel") (T := F_Mo) (N := 22) hx hb hts i_Mo hown hK hP 0 rfl rfl 8 (by decide) (hts _ mw392) (fun _ h9 => h9) rfl d_Mo_put_16 ?_
  refine lv_iconst (v := 1) hx hb d_Mo_put_19 (by decide) ?_
  refine lv_iadd hx hb d_Mo_put_20 ?_
  refine kt_i (y := nI (O ++ [iByte v]).length) (by rw [List.length_append]; exact nI_1 _) ?_
  refine va_put (D := (dC, dI)) (ci := 4) (v := .int (nI (O ++ [iByte v]).length)) (ty := .int) (C := "DemoTapeModel") (T := F_Mo) (N := 22) hx hb hts i_Mo t_Mo t_Mo_ok n_Mo hown hK hP hD hS 0 rfl rfl 8 (by decide) (hts _ mw392) (fun _ h9 => h9) rfl (by decide +kernel) rfl rfl (Nat.le_of_ble_eq_true rfl) d_Mo_put_21 (fun H locs hP hD hS => ?_)
  have hP : va_P (dC, dI) classes [(mo, .inr (4, [.int th, .ref aS, .ref aA, .ref aB, .ref aT, .ref aU, .int (nI M.length), .ref aO, .int (nI (O ++ [iByte v]).length), .ref aI, .int (nI I.length), .ref bS, .ref bA, .ref bB, .ref bT, .ref bU, .int nm, .int pp, .int ft, .int pl, .int va, .int vb])), (aO, .inl (cI, 4200, .inl (upd fo O.length (nI (iByte v)))))] H := hP
  have hD : va_D A [(mo, .inr (4, [.int th, .ref aS, .ref aA, .ref aB, .ref aT, .ref aU, .int (nI M.length), .ref aO, .int (nI (O ++ [iByte v]).length), .ref aI, .int (nI I.length), .ref bS, .ref bA, .ref bB, .ref bT, .ref bU, .int nm, .int pp, .int ft, .int pl, .int va, .int vb])), (aO, .inl (cI, 4200, .inl (upd fo O.length (nI (iByte v)))))] := hD
  exact kr_v (upd fo O.length (nI (iByte v))) hx hb hr hK (hP.sub [0, 1] (rfl)) (hD.sub [0, 1] (by decide) (rfl)) hS (hO.push rfl (iByte_lt v) hol) d_Mo_put_24 hlocks
abbrev Qc_Mo_sum (dC : Nat → ClassId) (dI : Nat → Nat → Nat) (cI cB cZ : ClassId) (mo : Nat) (th : Int32) (aS : Nat) (aA : Nat) (aB : Nat) (aT : Nat) (aU : Nat) (M : List Int32) (aO : Nat) (O : List Nat) (aI : Nat) (I : List Nat) (bS : Nat) (bA : Nat) (bB : Nat) (bT : Nat) (bU : Nat) (nm : Int32) (pp : Int32) (ft : Int32) (pl : Int32) (a9 : Nat) (b9 : Nat) (k : Nat) (A : Nat → Prop) := va_Qv (fun (_ : Unit) => True) (ka (dC, dI) classes [(cI, .int), (cB, .byte), (cZ, .boolean)] (fun (_ : Unit) => [(mo, .inr (4, [.int th, .ref aS, .ref aA, .ref aB, .ref aT, .ref aU, .int (nI M.length), .ref aO, .int (nI O.length), .ref aI, .int (nI I.length), .ref bS, .ref bA, .ref bB, .ref bT, .ref bU, .int nm, .int pp, .int ft, .int pl, .int (nI ((a9 + k) % 65521)), .int (nI ((b9 + (a9 + k) % 65521) % 65521))]))]) A) A
set_option maxHeartbeats 1000000 in
set_option maxRecDepth 100000 in
/-- Model.sum -/
theorem c_Mo_sum (l : Launch) (dC : Nat → ClassId) (dI : Nat → Nat → Nat) (cI cB cZ : ClassId) (sz : Nat) (mo : Nat) (th : Int32) (aS : Nat) (aA : Nat) (aB : Nat) (aT : Nat) (aU : Nat) (M : List Int32) (aO : Nat) (O : List Nat) (aI : Nat) (I : List Nat) (bS : Nat) (bA : Nat) (bB : Nat) (bT : Nat) (bU : Nat) (nm : Int32) (pp : Int32) (ft : Int32) (pl : Int32) (a9 : Nat) (b9 : Nat) (k : Nat) (ha9 : a9 < 65521) (hb9 : b9 < 65521) (hk : k < 256) : Met l y_Mo_sum w_Mo_sum ({ frames := 0, cells := 0, slots := 0, locals := 0 }) (va_Pc [.ref mo, .int (nI k)] (kp (dC, dI) classes [(cI, .int), (cB, .byte), (cZ, .boolean)] [(mo, .inr (4, [.int th, .ref aS, .ref aA, .ref aB, .ref aT, .ref aU, .int (nI M.length), .ref aO, .int (nI O.length), .ref aI, .int (nI I.length), .ref bS, .ref bA, .ref bB, .ref bT, .ref bU, .int nm, .int pp, .int ft, .int pl, .int (nI a9), .int (nI b9)]))] sz)) (Qc_Mo_sum dC dI cI cB cZ mo th aS aA aB aT aU M aO O aI I bS bA bB bT bU nm pp ft pl a9 b9 k (va_A [(mo, .inr (4, [.int th, .ref aS, .ref aA, .ref aB, .ref aT, .ref aU, .int (nI M.length), .ref aO, .int (nI O.length), .ref aI, .int (nI I.length), .ref bS, .ref bA, .ref bB, .ref bT, .ref bU, .int nm, .int pp, .int ft, .int pl, .int (nI a9), .int (nI b9)]))] sz)) 0 0 (va_A [(mo, .inr (4, [.int th, .ref aS, .ref aA, .ref aB, .ref aT, .ref aU, .int (nI M.length), .ref aO, .int (nI O.length), .ref aI, .int (nI I.length), .ref bS, .ref bA, .ref bB, .ref bT, .ref bU, .int nm, .int pp, .int ft, .int pl, .int (nI a9), .int (nI b9)]))] sz) := by
  refine Met.ofW (cc := prog_7_method_10_code) (maxL := 2) (ret := none) (by decide) rfl ?_
  intro p e s m args below meth c s₁ B hml hv
  obtain ⟨rfl, hsz, hP, hK, hD0⟩ := hv
  have hx := B.exec
  have hb := B.bytes
  have hr := B.returns
  have hts := fun w h => atoms_spec (ws := w_Mo_sum) B.pre w (List.mem_cons_of_mem _ h)
  have hown : s.vm.findClass "DemoTapeModel" = some m.cls := findClass_of_methodNamed B.named
  have hlocks := B.notSynchronized
  subst hsz
  have hD := hD0.self (sz := s.heap.size)
  generalize hAe : va_A ([(mo, .inr (4, [.int th, .ref aS, .ref aA, .ref aB, .ref aT, .ref aU, .int (nI M.length), .ref aO, .int (nI O.length), .ref aI, .int (nI I.length), .ref bS, .ref bA, .ref bB, .ref bT, .ref bU, .int nm, .int pp, .int ft, .int pl, .int (nI a9), .int (nI b9)]))] : va_W) s.heap.size = A at hD ⊢
  have hA : ∀ q : Nat, s.heap.size ≤ q → A q := fun q h => by rw [← hAe]; exact Or.inr h
  have hS : va_S A s.heap s.heap [] := va_S.rf
  have hP : va_P (dC, dI) classes [(mo, .inr (4, [.int th, .ref aS, .ref aA, .ref aB, .ref aT, .ref aU, .int (nI M.length), .ref aO, .int (nI O.length), .ref aI, .int (nI I.length), .ref bS, .ref bA, .ref bB, .ref bT, .ref bU, .int nm, .int pp, .int ft, .int pl, .int (nI a9), .int (nI b9)]))] s.heap := hP
  have hl := lv_entry ([.ref mo, .int (nI k)]) (n := 2) (Nat.le_of_ble_eq_true rfl)
  rw [lg_entry_eq]
  generalize (lg_sl ([.ref mo, .int (nI k)]) ++ List.replicate (2 - (lg_sl ([.ref mo, .int (nI k)])).length) Slot.unset).toArray = ls at hl ⊢
  have hl : lv_has ls 2 [(0, .ref mo), (1, .int (nI k))] := hl
  refine lv_aload_n hx hb d_Mo_sum_0 rfl (lv_at hl 0 rfl) ?_
  refine lv_aload_n hx hb d_Mo_sum_1 rfl (lv_at hl 0 rfl) ?_
  refine va_get (D := (dC, dI)) (ci := 4) (v := .int (nI a9)) (C := "DemoTapeModel") (T := F_Mo) (N := 22) hx hb hts i_Mo hown hK hP 0 rfl rfl 20 (by decide) (hts _ mw404) (fun _ h9 => h9) rfl d_Mo_sum_2 ?_
  refine lv_iload_n hx hb d_Mo_sum_5 rfl (lv_at hl 1 rfl) ?_
  refine lv_iadd hx hb d_Mo_sum_6 ?_
  refine kt_i (y := nI (a9 + k)) (nI_add _ _) ?_
  refine lv_ldc (v := 65521) hx hb hown (hts _ mw487) d_Mo_sum_7 ?_
  refine lv_irem hx hb d_Mo_sum_9 (by decide) ?_
  refine kt_i (y := nI ((a9 + k) % 65521)) (pk_rem (by omega) (by decide) (by decide)) ?_
  refine va_put (D := (dC, dI)) (ci := 4) (v := .int (nI ((a9 + k) % 65521))) (ty := .int) (C := "DemoTapeModel") (T := F_Mo) (N := 22) hx hb hts i_Mo t_Mo t_Mo_ok n_Mo hown hK hP hD hS 0 rfl rfl 20 (by decide) (hts _ mw404) (fun _ h9 => h9) rfl (by decide +kernel) rfl rfl (Nat.le_of_ble_eq_true rfl) d_Mo_sum_10 (fun H locs hP hD hS => ?_)
  have hP : va_P (dC, dI) classes [(mo, .inr (4, [.int th, .ref aS, .ref aA, .ref aB, .ref aT, .ref aU, .int (nI M.length), .ref aO, .int (nI O.length), .ref aI, .int (nI I.length), .ref bS, .ref bA, .ref bB, .ref bT, .ref bU, .int nm, .int pp, .int ft, .int pl, .int (nI ((a9 + k) % 65521)), .int (nI b9)]))] H := hP
  have hD : va_D A [(mo, .inr (4, [.int th, .ref aS, .ref aA, .ref aB, .ref aT, .ref aU, .int (nI M.length), .ref aO, .int (nI O.length), .ref aI, .int (nI I.length), .ref bS, .ref bA, .ref bB, .ref bT, .ref bU, .int nm, .int pp, .int ft, .int pl, .int (nI ((a9 + k) % 65521)), .int (nI b9)]))] := hD
  refine lv_aload_n hx hb d_Mo_sum_13 rfl (lv_at hl 0 rfl) ?_
  refine lv_aload_n hx hb d_Mo_sum_14 rfl (lv_at hl 0 rfl) ?_
  refine va_get (D := (dC, dI)) (ci := 4) (v := .int (nI b9)) (C := "DemoTapeModel") (T := F_Mo) (N := 22) hx hb hts i_Mo hown hK hP 0 rfl rfl 21 (by decide) (hts _ mw405) (fun _ h9 => h9) rfl d_Mo_sum_15 ?_
  refine lv_aload_n hx hb d_Mo_sum_18 rfl (lv_at hl 0 rfl) ?_
  refine va_get (D := (dC, dI)) (ci := 4) (v := .int (nI ((a9 + k) % 65521))) (C := "DemoTapeModel") (T := F_Mo) (N := 22) hx hb hts i_Mo hown hK hP 0 rfl rfl 20 (by decide) (hts _ mw404) (fun _ h9 => h9) rfl d_Mo_sum_19 ?_
  refine lv_iadd hx hb d_Mo_sum_22 ?_
  refine kt_i (y := nI (b9 + (a9 + k) % 65521)) (nI_add _ _) ?_
  refine lv_ldc (v := 65521) hx hb hown (hts _ mw487) d_Mo_sum_23 ?_
  refine lv_irem hx hb d_Mo_sum_25 (by decide) ?_
  refine kt_i (y := nI ((b9 + (a9 + k) % 65521) % 65521)) (pk_rem (by omega) (by decide) (by decide)) ?_
  refine va_put (D := (dC, dI)) (ci := 4) (v := .int (nI ((b9 + (a9 + k) % 65521) % 65521))) (ty := .int) (C := "DemoTapeModel") (T := F_Mo) (N := 22) hx hb hts i_Mo t_Mo t_Mo_ok n_Mo hown hK hP hD hS 0 rfl rfl 21 (by decide) (hts _ mw405) (fun _ h9 => h9) rfl (by decide +kernel) rfl rfl (Nat.le_of_ble_eq_true rfl) d_Mo_sum_26 (fun H locs hP hD hS => ?_)
  have hP : va_P (dC, dI) classes [(mo, .inr (4, [.int th, .ref aS, .ref aA, .ref aB, .ref aT, .ref aU, .int (nI M.length), .ref aO, .int (nI O.length), .ref aI, .int (nI I.length), .ref bS, .ref bA, .ref bB, .ref bT, .ref bU, .int nm, .int pp, .int ft, .int pl, .int (nI ((a9 + k) % 65521)), .int (nI ((b9 + (a9 + k) % 65521) % 65521))]))] H := hP
  have hD : va_D A [(mo, .inr (4, [.int th, .ref aS, .ref aA, .ref aB, .ref aT, .ref aU, .int (nI M.length), .ref aO, .int (nI O.length), .ref aI, .int (nI I.length), .ref bS, .ref bA, .ref bB, .ref bT, .ref bU, .int nm, .int pp, .int ft, .int pl, .int (nI ((a9 + k) % 65521)), .int (nI ((b9 + (a9 + k) % 65521) % 65521))]))] := hD
  exact kr_v () hx hb hr hK (hP.sub [0] (rfl)) (hD.sub [0] (by decide) (rfl)) hS trivial d_Mo_sum_29 hlocks
abbrev Qc_Mo_checkByte (dC : Nat → ClassId) (dI : Nat → Nat → Nat) (cI cB cZ : ClassId) (mo : Nat) (th : Int32) (aS : Nat) (aA : Nat) (aB : Nat) (aT : Nat) (aU : Nat) (M : List Int32) (aO : Nat) (O : List Nat) (aI : Nat) (I : List Nat) (bS : Nat) (bA : Nat) (bB : Nat) (bT : Nat) (bU : Nat) (nm : Int32) (pp : Int32) (ft : Int32) (pl : Int32) (a9 : Nat) (b9 : Nat) (k : Nat) (A : Nat → Prop) := va_Qi (fun (r9 : Int32) (_ : Unit) => (r9 = nI (kCB a9 b9 k))) (ka (dC, dI) classes [(cI, .int), (cB, .byte), (cZ, .boolean)] (fun (_ : Unit) => [(mo, .inr (4, [.int th, .ref aS, .ref aA, .ref aB, .ref aT, .ref aU, .int (nI M.length), .ref aO, .int (nI O.length), .ref aI, .int (nI I.length), .ref bS, .ref bA, .ref bB, .ref bT, .ref bU, .int nm, .int pp, .int ft, .int pl, .int (nI a9), .int (nI b9)]))]) A) A
set_option maxHeartbeats 1000000 in
set_option maxRecDepth 100000 in
/-- Model.checkByte -/
theorem c_Mo_checkByte (l : Launch) (dC : Nat → ClassId) (dI : Nat → Nat → Nat) (cI cB cZ : ClassId) (sz : Nat) (mo : Nat) (th : Int32) (aS : Nat) (aA : Nat) (aB : Nat) (aT : Nat) (aU : Nat) (M : List Int32) (aO : Nat) (O : List Nat) (aI : Nat) (I : List Nat) (bS : Nat) (bA : Nat) (bB : Nat) (bT : Nat) (bU : Nat) (nm : Int32) (pp : Int32) (ft : Int32) (pl : Int32) (a9 : Nat) (b9 : Nat) (k : Nat) (ha9 : a9 < 65521) (hb9 : b9 < 65521) (hk : k < 4) : Met l y_Mo_checkByte w_Mo_checkByte ({ frames := 0, cells := 0, slots := 0, locals := 0 }) (va_Pc [.ref mo, .int (nI k)] (kp (dC, dI) classes [(cI, .int), (cB, .byte), (cZ, .boolean)] [(mo, .inr (4, [.int th, .ref aS, .ref aA, .ref aB, .ref aT, .ref aU, .int (nI M.length), .ref aO, .int (nI O.length), .ref aI, .int (nI I.length), .ref bS, .ref bA, .ref bB, .ref bT, .ref bU, .int nm, .int pp, .int ft, .int pl, .int (nI a9), .int (nI b9)]))] sz)) (Qc_Mo_checkByte dC dI cI cB cZ mo th aS aA aB aT aU M aO O aI I bS bA bB bT bU nm pp ft pl a9 b9 k (va_A [(mo, .inr (4, [.int th, .ref aS, .ref aA, .ref aB, .ref aT, .ref aU, .int (nI M.length), .ref aO, .int (nI O.length), .ref aI, .int (nI I.length), .ref bS, .ref bA, .ref bB, .ref bT, .ref bU, .int nm, .int pp, .int ft, .int pl, .int (nI a9), .int (nI b9)]))] sz)) 0 0 (va_A [(mo, .inr (4, [.int th, .ref aS, .ref aA, .ref aB, .ref aT, .ref aU, .int (nI M.length), .ref aO, .int (nI O.length), .ref aI, .int (nI I.length), .ref bS, .ref bA, .ref bB, .ref bT, .ref bU, .int nm, .int pp, .int ft, .int pl, .int (nI a9), .int (nI b9)]))] sz) := by
  refine Met.ofW (cc := prog_7_method_11_code) (maxL := 3) (ret := (some .int)) (by decide) rfl ?_
  intro p e s m args below meth c s₁ B hml hv
  obtain ⟨rfl, hsz, hP, hK, hD0⟩ := hv
  have hx := B.exec
  have hb := B.bytes
  have hr := B.returns
  have hts := fun w h => atoms_spec (ws := w_Mo_checkByte) B.pre w (List.mem_cons_of_mem _ h)
  have hown : s.vm.findClass "DemoTapeModel" = some m.cls := findClass_of_methodNamed B.named
  have hlocks := B.notSynchronized
  subst hsz
  have hD := hD0.self (sz := s.heap.size)
  generalize hAe : va_A ([(mo, .inr (4, [.int th, .ref aS, .ref aA, .ref aB, .ref aT, .ref aU, .int (nI M.length), .ref aO, .int (nI O.length), .ref aI, .int (nI I.length), .ref bS, .ref bA, .ref bB, .ref bT, .ref bU, .int nm, .int pp, .int ft, .int pl, .int (nI a9), .int (nI b9)]))] : va_W) s.heap.size = A at hD ⊢
  have hA : ∀ q : Nat, s.heap.size ≤ q → A q := fun q h => by rw [← hAe]; exact Or.inr h
  have hS : va_S A s.heap s.heap [] := va_S.rf
  have hP : va_P (dC, dI) classes [(mo, .inr (4, [.int th, .ref aS, .ref aA, .ref aB, .ref aT, .ref aU, .int (nI M.length), .ref aO, .int (nI O.length), .ref aI, .int (nI I.length), .ref bS, .ref bA, .ref bB, .ref bT, .ref bU, .int nm, .int pp, .int ft, .int pl, .int (nI a9), .int (nI b9)]))] s.heap := hP
  have hl := lv_entry ([.ref mo, .int (nI k)]) (n := 3) (Nat.le_of_ble_eq_true rfl)
  rw [lg_entry_eq]
  generalize (lg_sl ([.ref mo, .int (nI k)]) ++ List.replicate (3 - (lg_sl ([.ref mo, .int (nI k)])).length) Slot.unset).toArray = ls at hl ⊢
  have hl : lv_has ls 3 [(0, .ref mo), (1, .int (nI k))] := hl
  refine lv_iload_n hx hb d_Mo_checkByte_0 rfl (lv_at hl 1 rfl) ?_
  refine lv_iconst (v := 2) hx hb d_Mo_checkByte_1 (by decide) ?_
  refine lv_icmp_ge (tgt := 12) hx hb d_Mo_checkByte_2 (by decide) (fun c_2 => ?_) (fun c_2 => ?_)
  · have n_2 := kn_le (a := 2) (b := k) c_2 rfl rfl (by omega) (by omega)
    refine lv_aload_n hx hb d_Mo_checkByte_12 rfl (lv_at hl 0 rfl) ?_
    refine va_get (D := (dC, dI)) (ci := 4) (v := .int (nI a9)) (C := "DemoTapeModel") (T := F_Mo) (N := 22) hx hb hts i_Mo hown hK hP 0 rfl rfl 20 (by decide) (hts _ mw404) (fun _ h9 => h9) rfl d_Mo_checkByte_13 ?_
    refine lv_istore_n (lv' := [(2, .int (nI a9)), (0, .ref mo), (1, .int (nI k))]) hx hb d_Mo_checkByte_16 rfl hl (by decide) rfl (fun ls hl => ?_)
    refine lv_iload_n hx hb d_Mo_checkByte_17 rfl (lv_at hl 2 rfl) ?_
    refine lv_iconst (v := 2) hx hb d_Mo_checkByte_18 (by decide) ?_
    refine lv_irem hx hb d_Mo_checkByte_19 (by decide) ?_
    refine kt_i (y := nI (k % 2)) (pk_rem (d := 2) (by omega) (by decide) (by decide)) ?_
    refine lv_if_ne (tgt := 31) hx hb d_Mo_checkByte_20 (by decide) (fun c_20 => ?_) (fun c_20 => ?_)
    · have n_20 := kn_ne (a := k % 2) (b := 0) c_20 rfl rfl (by omega) (by omega)
      refine lv_iload_n hx hb d_Mo_checkByte_31 rfl (lv_at hl 0 rfl) ?_
      refine lv_sipush (v := 256) hx hb d_Mo_checkByte_32 (by decide) ?_
      refine lv_irem hx hb d_Mo_checkByte_35 (by decide) ?_
      refine kt_i (y := nI (a9 % 256)) (pk_rem (d := 256) (by omega) (by decide) (by decide)) ?_
      exact kr_i (v := nI (a9 % 256)) () hx hb hr rfl hK (hP.sub [0] (rfl)) (hD.sub [0] (by decide) (rfl)) hS (by unfold kCB; rw [if_neg (by omega), if_neg (by omega)]) d_Mo_checkByte_36 hlocks
    · have n_20 := kn_eq (a := k % 2) (b := 0) (by first | exact c_20 | exact Decidable.not_not.mp c_20) rfl rfl (by omega) (by omega)
      refine lv_iload_n hx hb d_Mo_checkByte_23 rfl (lv_at hl 0 rfl) ?_
      refine lv_sipush (v := 256) hx hb d_Mo_checkByte_24 (by decide) ?_
      refine lv_idiv hx hb d_Mo_checkByte_27 (by decide) ?_
      refine kt_i (y := nI (a9 / 256)) (pk_div (d := 256) (by omega) (by decide) (by decide)) ?_
      refine lv_goto (tgt := 36) hx hb d_Mo_checkByte_28 (by decide) ?_
      exact kr_i (v := nI (a9 / 256)) () hx hb hr rfl hK (hP.sub [0] (rfl)) (hD.sub [0] (by decide) (rfl)) hS (by unfold kCB; rw [if_neg (by omega), if_pos (by omega)]) d_Mo_checkByte_36 hlocks
  · have n_2 := kn_nle (a := 2) (b := k) c_2 rfl rfl (by omega) (by omega)
    refine lv_aload_n hx hb d_Mo_checkByte_5 rfl (lv_at hl 0 rfl) ?_
    refine va_get (D := (dC, dI)) (ci := 4) (v := .int (nI b9)) (C := "DemoTapeModel") (T := F_Mo) (N := 22) hx hb hts i_Mo hown hK hP 0 rfl rfl 21 (by decide) (hts _ mw405) (fun _ h9 => h9) rfl d_Mo_checkByte_6 ?_
    refine lv_goto (tgt := 16) hx hb d_Mo_checkByte_9 (by decide) ?_
    refine lv_istore_n (lv' := [(2, .int (nI b9)), (0, .ref mo), (1, .int (nI k))]) hx hb d_Mo_checkByte_16 rfl hl (by decide) rfl (fun ls hl => ?_)
    refine lv_iload_n hx hb d_Mo_checkByte_17 rfl (lv_at hl 2 rfl) ?_
    refine lv_iconst (v := 2) hx hb d_Mo_checkByte_18 (by decide) ?_
    refine lv_irem hx hb d_Mo_checkByte_19 (by decide) ?_
    refine kt_i (y := nI (k % 2)) (pk_rem (d := 2) (by omega) (by decide) (by decide)) ?_
    refine lv_if_ne (tgt := 31) hx hb d_Mo_checkByte_20 (by decide) (fun c_20 => ?_) (fun c_20 => ?_)
    · have n_20 := kn_ne (a := k % 2) (b := 0) c_20 rfl rfl (by omega) (by omega)
      refine lv_iload_n hx hb d_Mo_checkByte_31 rfl (lv_at hl 0 rfl) ?_
      refine lv_sipush (v := 256) hx hb d_Mo_checkByte_32 (by decide) ?_
      refine lv_irem hx hb d_Mo_checkByte_35 (by decide) ?_
      refine kt_i (y := nI (b9 % 256)) (pk_rem (d := 256) (by omega) (by decide) (by decide)) ?_
      exact kr_i (v := nI (b9 % 256)) () hx hb hr rfl hK (hP.sub [0] (rfl)) (hD.sub [0] (by decide) (rfl)) hS (by unfold kCB; rw [if_pos (by omega), if_neg (by omega)]) d_Mo_checkByte_36 hlocks
    · have n_20 := kn_eq (a := k % 2) (b := 0) (by first | exact c_20 | exact Decidable.not_not.mp c_20) rfl rfl (by omega) (by omega)
      refine lv_iload_n hx hb d_Mo_checkByte_23 rfl (lv_at hl 0 rfl) ?_
      refine lv_sipush (v := 256) hx hb d_Mo_checkByte_24 (by decide) ?_
      refine lv_idiv hx hb d_Mo_checkByte_27 (by decide) ?_
      refine kt_i (y := nI (b9 / 256)) (pk_div (d := 256) (by omega) (by decide) (by decide)) ?_
      refine lv_goto (tgt := 36) hx hb d_Mo_checkByte_28 (by decide) ?_
      exact kr_i (v := nI (b9 / 256)) () hx hb hr rfl hK (hP.sub [0] (rfl)) (hD.sub [0] (by decide) (rfl)) hS (by unfold kCB; rw [if_pos (by omega), if_pos (by omega)]) d_Mo_checkByte_36 hlocks
