/-! Tools: the shapes of all contracts, calls joined with the frame, ends, numbers. -/
section KT
variable {p : Program} {l : Launch} {e : Env} {R : Room} {s : State} {m : MethodId} {args : Array Value} {below : List Frame} {meth : Method} {c : Code} {H H0 : Heap} {locs : List Loc} {cells slots pc : Nat} {Q : State → Prop} {ls : Array Slot} {rest st0 : List Value} {cc : ByteArray} {D : va_G} {cl : List vw_C} {tys : List (ClassId × FieldType)} {ws wc wr : va_W} {A : Nat → Prop} {mc ms : Nat} {a : Array Value}
/-- a contract's start: the cells ws, apart, the heap's size -/
def kp (D : va_G) (cl : List vw_C) (tys : List (ClassId × FieldType)) (ws : va_W) (sz : Nat) : State → Prop := fun U => U.heap.size = sz ∧ va_P D cl ws U.heap ∧ va_K D cl tys U ∧ va_D (fun _ => True) ws
/-- a contract's end: the cells w1 u -/
def ka {S : Type} (D : va_G) (cl : List vw_C) (tys : List (ClassId × FieldType)) (w1 : S → va_W) (A : Nat → Prop) : S → State → Prop := fun u t => va_P D cl (w1 u) t.heap ∧ va_K D cl tys t ∧ va_D A (w1 u)
theorem kp_blind {As : List Value} {sz : Nat} : FrameBlind (va_Pc As (kp D cl tys ws sz)) := by
  intro a U g mk q
  obtain ⟨q0, q1, qP, qK, qD⟩ := q
  exact ⟨q0, q1, qP, va_K.moved (u := U) (U := U.calling g mk a) (Vm.Alike.refl U.vm) qK, qD⟩
theorem kp_of {As : List Value} (hK : va_K D cl tys s) (hP : va_P D cl ws H) (hD : va_D A ws) : ∀ U : State, U.heap = H → s.WarmedH U.vm → va_Pc As (kp D cl tys ws H.size) As.toArray U := by
  intro U hU hW
  exact ⟨rfl, by rw [hU], by rw [hU]; exact hP, va_K.moved hW.alike hK, hD.weaken (fun _ _ _ _ => trivial)⟩
theorem kpS {As : List Value} (hK : va_K D cl tys s) (hP : va_P D cl ws H) (hD : va_D A ws) (isC : List Nat) (h1 : isC.filterMap (fun i => ws[i]?) = wc) (hn : va_nd isC = true) (h2 : isC.map (fun i => ws[i]?) = wc.map some) : PreS s H (va_Pc As (kp D cl tys wc H.size)) As :=
  ⟨kp_blind, kp_of hK (hP.sub isC h1) (hD.sub isC hn h2)⟩
theorem kpV {As : List Value} {b q0 ci : Nat} {q : vw_C} {fs : List Value} (hK : va_K D cl tys s) (hP : va_P D cl ws H) (hD : va_D A ws) (isC : List Nat) (h1 : isC.filterMap (fun i => ws[i]?) = wc) (hn : va_nd isC = true) (h2 : isC.map (fun i => ws[i]?) = wc.map some) (hc : cl[ci]? = some q) (he : ws[q0]? = some (b, .inr (ci, fs))) : PreV s H q.1 b (va_Pc (.ref b :: As) (kp D cl tys wc H.size)) As :=
  ⟨kp_blind, va_recv hK hP hc he, kp_of hK (hP.sub isC h1) (hD.sub isC hn h2)⟩
/-- behind a call that answers an int -/
theorem kc_i {S : Type} {post : Int32 → S → Prop} {w1 w2 : S → va_W} (hr : va_Run p l e R s m args below meth c H locs cells slots mc ms (F0 m pc ls st0) rest (va_Qi post (ka D cl tys w1 (va_A wc H.size)) (va_A wc H.size) a) (va_A wc H.size)) (hP : va_P D cl ws H) (hD : va_D A ws) (hS : va_S A H0 H locs) (hA : ∀ q, H0.size ≤ q → A q) (isC isR perm : List Nat) (hC : isC.map (fun i => ws[i]?) = wc.map some) (hR : isR.map (fun i => ws[i]?) = wr.map some) (hn : va_nd isR = true) (hdis : ∀ i ∈ isR, i ∉ isC) (hp1 : ∀ u, perm.filterMap (fun i => (wr ++ w1 u)[i]?) = w2 u) (hp2 : va_nd perm = true) (hp3 : ∀ u, perm.map (fun i => (wr ++ w1 u)[i]?) = (w2 u).map some)
    (kk : ∀ (r : Int32) (u : S) (H1 : Heap) (locs1 : List Loc), post r u → va_P D cl (w2 u) H1 → va_D A (w2 u) → va_S A H0 H1 locs1 → W p l e R s m args below meth c H1 locs1 (cells + mc) (slots + ms) Q (F0 m (pc + 3) ls (.int r :: rest))) : W p l e R s m args below meth c H locs cells slots Q (F0 m pc ls st0) := by
  have hFc := va_free hD hS hA isC hC
  refine va_calli hr hS (fun q _ h => hFc q h) hFc (fun r u t H1 locs1 ht hvm hw hB hz1 hk1 hS1 => ?_)
  obtain ⟨hP1, -, hD1⟩ := hB
  rw [ht] at hP1
  obtain ⟨hP2, hD2⟩ := va_join hP hD isC isR hC hR hn hdis hk1 hFc hP1 hD1
  exact kk r u H1 locs1 hw (hP2.sub perm (hp1 u)) (hD2.sub perm hp2 (hp3 u)) hS1
theorem kc_v {S : Type} {post : S → Prop} {w1 w2 : S → va_W} (hr : va_Run p l e R s m args below meth c H locs cells slots mc ms (F0 m pc ls st0) rest (va_Qv post (ka D cl tys w1 (va_A wc H.size)) (va_A wc H.size) a) (va_A wc H.size)) (hP : va_P D cl ws H) (hD : va_D A ws) (hS : va_S A H0 H locs) (hA : ∀ q, H0.size ≤ q → A q) (isC isR perm : List Nat) (hC : isC.map (fun i => ws[i]?) = wc.map some) (hR : isR.map (fun i => ws[i]?) = wr.map some) (hn : va_nd isR = true) (hdis : ∀ i ∈ isR, i ∉ isC) (hp1 : ∀ u, perm.filterMap (fun i => (wr ++ w1 u)[i]?) = w2 u) (hp2 : va_nd perm = true) (hp3 : ∀ u, perm.map (fun i => (wr ++ w1 u)[i]?) = (w2 u).map some)
    (kk : ∀ (u : S) (H1 : Heap) (locs1 : List Loc), post u → va_P D cl (w2 u) H1 → va_D A (w2 u) → va_S A H0 H1 locs1 → W p l e R s m args below meth c H1 locs1 (cells + mc) (slots + ms) Q (F0 m (pc + 3) ls rest)) : W p l e R s m args below meth c H locs cells slots Q (F0 m pc ls st0) := by
  have hFc := va_free hD hS hA isC hC
  refine va_callv hr hS (fun q _ h => hFc q h) hFc (fun u t H1 locs1 ht hvm hw hB hz1 hk1 hS1 => ?_)
  obtain ⟨hP1, -, hD1⟩ := hB
  rw [ht] at hP1
  obtain ⟨hP2, hD2⟩ := va_join hP hD isC isR hC hR hn hdis hk1 hFc hP1 hD1
  exact kk u H1 locs1 hw (hP2.sub perm (hp1 u)) (hD2.sub perm hp2 (hp3 u)) hS1
/-- a call that answers an int and changes nothing that the caller sees: its cells come back as they were -/
theorem kq_i {post : Int32 → Unit → Prop} (hr : va_Run p l e R s m args below meth c H locs cells slots 0 0 (F0 m pc ls st0) rest (va_Qi post (ka D cl tys (fun _ => wc) (va_A wc H.size)) (va_A wc H.size) a) (va_A wc H.size)) (hP : va_P D cl ws H) (hD : va_D A ws) (hS : va_S A H0 H locs) (hA : ∀ q, H0.size ≤ q → A q) (isC isR perm : List Nat) (hC : isC.map (fun i => ws[i]?) = wc.map some) (hR : isR.map (fun i => ws[i]?) = wr.map some) (hn : va_nd isR = true) (hdis : ∀ i ∈ isR, i ∉ isC) (hp1 : perm.filterMap (fun i => (wr ++ wc)[i]?) = ws)
    (kk : ∀ (r : Int32) (H1 : Heap) (locs1 : List Loc), post r () → va_P D cl ws H1 → va_S A H0 H1 locs1 → W p l e R s m args below meth c H1 locs1 cells slots Q (F0 m (pc + 3) ls (.int r :: rest))) : W p l e R s m args below meth c H locs cells slots Q (F0 m pc ls st0) := by
  have hFc := va_free hD hS hA isC hC
  refine va_calli hr hS (fun q _ h => hFc q h) hFc (fun r u t H1 locs1 ht hvm hw hB hz1 hk1 hS1 => ?_)
  obtain ⟨hP1, -, hD1⟩ := hB
  rw [ht] at hP1
  obtain ⟨hP2, hD2⟩ := va_join hP hD isC isR hC hR hn hdis hk1 hFc hP1 hD1
  exact kk r H1 locs1 hw (hP2.sub perm hp1) hS1
/-- ends -/
theorem kr_i {S : Type} {post : Int32 → S → Prop} {w1 : S → va_W} {v : Int32} {rt : FieldType} (u : S) (hexec : p.tables.exec = Jvm.exec) (hb : c.code = cc) (hr : meth.sig.returnType = some rt) (hn : narrow rt (.int v) = .int v) (hK : va_K D cl tys s) (hP : va_P D cl (w1 u) H) (hD : va_D A (w1 u)) (hS : va_S A s.heap H locs) (hpost : post v u) (hdg : decode cc pc = .ok (.ireturn, 1)) (hlocks : meth.locks = false) : W p l e R s m args below meth c H locs cells slots (MQ below (va_Qi post (ka D cl tys w1 A) A) args s cells slots A) (F0 m pc ls [.int v]) :=
  W.zret hexec hb hr hn (fun t ht hW => ⟨⟨v, u, rfl, hpost, by rw [ht]; exact hP, va_K.moved hW.alike hK, hD⟩, hS.F ht⟩) hS.2.2 hdg hlocks
theorem kr_v {S : Type} {post : S → Prop} {w1 : S → va_W} (u : S) (hexec : p.tables.exec = Jvm.exec) (hb : c.code = cc) (hr : meth.sig.returnType = none) (hK : va_K D cl tys s) (hP : va_P D cl (w1 u) H) (hD : va_D A (w1 u)) (hS : va_S A s.heap H locs) (hpost : post u) (hdg : decode cc pc = .ok (.return_, 1)) (hlocks : meth.locks = false) : W p l e R s m args below meth c H locs cells slots (MQ below (va_Qv post (ka D cl tys w1 A) A) args s cells slots A) (F0 m pc ls []) :=
  W.vret hexec hb hr (fun t ht hW => ⟨⟨u, rfl, hpost, by rw [ht]; exact hP, va_K.moved hW.alike hK, hD⟩, hS.F ht⟩) hS.2.2 hdg hlocks
theorem kt_i {x y : Int32} (h : x = y) (k : W p l e R s m args below meth c H locs cells slots Q (F0 m pc ls (.int y :: rest))) : W p l e R s m args below meth c H locs cells slots Q (F0 m pc ls (.int x :: rest)) := by rw [h]; exact k
theorem kt_l {x y : Int64} (h : x = y) (k : W p l e R s m args below meth c H locs cells slots Q (F0 m pc ls (.long y :: rest))) : W p l e R s m args below meth c H locs cells slots Q (F0 m pc ls (.long x :: rest)) := by rw [h]; exact k
/-- arrays at a place that is known as a number -/
theorem kt_iald {ad : Nat} (hexec : p.tables.exec = Jvm.exec) (hb : c.code = cc) (hK : va_K D cl tys s) (hP : va_P D cl ws H) (q0 t0 : Nat) {cA : ClassId} {n : Nat} {f : Nat → Int32} (ha : ws[q0]? = some (ad, .inl (cA, n, .inl f))) (ht : tys[t0]? = some (cA, .int)) {j : Nat} (hj : j < n) (hn : n < 2 ^ 31) (hdg : decode cc pc = .ok (.iaload, 1))
    (kk : W p l e R s m args below meth c H locs cells slots Q (F0 m (pc + 1) ls (.int (f j) :: rest))) : W p l e R s m args below meth c H locs cells slots Q (F0 m pc ls (.int (nI j) :: .ref ad :: rest)) :=
  va_iald hexec hb hK hP q0 t0 ha ht (vp_in_nI hj hn) hdg (by rw [nI_clamp (by omega)]; exact kk)
theorem kt_bald {ad : Nat} (hexec : p.tables.exec = Jvm.exec) (hb : c.code = cc) (hK : va_K D cl tys s) (hP : va_P D cl ws H) (q0 t0 : Nat) {cA : ClassId} {n : Nat} {f : Nat → Int32} (ha : ws[q0]? = some (ad, .inl (cA, n, .inl f))) (ht : tys[t0]? = some (cA, .byte)) {j : Nat} (hj : j < n) (hn : n < 2 ^ 31) (hdg : decode cc pc = .ok (.baload, 1))
    (kk : W p l e R s m args below meth c H locs cells slots Q (F0 m (pc + 1) ls (.int (f j) :: rest))) : W p l e R s m args below meth c H locs cells slots Q (F0 m pc ls (.int (nI j) :: .ref ad :: rest)) :=
  va_bald hexec hb hK hP q0 t0 ha ht (vp_in_nI hj hn) hdg (by rw [nI_clamp (by omega)]; exact kk)
theorem kt_iast {ad : Nat} (hexec : p.tables.exec = Jvm.exec) (hb : c.code = cc) (hK : va_K D cl tys s) (hP : va_P D cl ws H) (hD : va_D A ws) (hS : va_S A H0 H locs) (q0 t0 : Nat) {cA : ClassId} {n : Nat} {f : Nat → Int32} (ha : ws[q0]? = some (ad, .inl (cA, n, .inl f))) (ht : tys[t0]? = some (cA, .int)) {j : Nat} {x : Int32} (hj : j < n) (hn : n < 2 ^ 31) (hdg : decode cc pc = .ok (.iastore, 1))
    (kk : ∀ (H1 : Heap) (locs1 : List Loc), va_P D cl (ws.set q0 (ad, .inl (cA, n, .inl (upd f j x)))) H1 → va_D A (ws.set q0 (ad, .inl (cA, n, .inl (upd f j x)))) → va_S A H0 H1 locs1 → W p l e R s m args below meth c H1 locs1 cells slots Q (F0 m (pc + 1) ls rest)) : W p l e R s m args below meth c H locs cells slots Q (F0 m pc ls (.int x :: .int (nI j) :: .ref ad :: rest)) :=
  va_iast hexec hb hK hP hD hS q0 t0 ha ht (vp_in_nI hj hn) hdg (by rw [nI_clamp (by omega)]; exact kk)
theorem kt_bast {ad : Nat} (hexec : p.tables.exec = Jvm.exec) (hb : c.code = cc) (hK : va_K D cl tys s) (hP : va_P D cl ws H) (hD : va_D A ws) (hS : va_S A H0 H locs) (q0 t0 : Nat) {cA : ClassId} {n : Nat} {f : Nat → Int32} (ha : ws[q0]? = some (ad, .inl (cA, n, .inl f))) (ht : tys[t0]? = some (cA, .byte)) {j : Nat} {x : Int32} (hj : j < n) (hn : n < 2 ^ 31) (hdg : decode cc pc = .ok (.bastore, 1))
    (kk : ∀ (H1 : Heap) (locs1 : List Loc), va_P D cl (ws.set q0 (ad, .inl (cA, n, .inl (upd f j x.toInt8.toInt32)))) H1 → va_D A (ws.set q0 (ad, .inl (cA, n, .inl (upd f j x.toInt8.toInt32)))) → va_S A H0 H1 locs1 → W p l e R s m args below meth c H1 locs1 cells slots Q (F0 m (pc + 1) ls rest)) : W p l e R s m args below meth c H locs cells slots Q (F0 m pc ls (.int x :: .int (nI j) :: .ref ad :: rest)) :=
  va_bast hexec hb hK hP hD hS q0 t0 ha ht (vp_in_nI hj hn) hdg (by rw [nI_clamp (by omega), vp_nar_byte]; exact kk)
end KT
/-! compares of numbers -/
theorem kn_le {a b : Nat} {x y : Int32} (h : x ≤ y) (hx : x = nI a) (hy : y = nI b) (ha : a < 2 ^ 31) (hb : b < 2 ^ 31) : a ≤ b := by subst hx hy; exact (nI_leI ha hb).mp h
theorem kn_nle {a b : Nat} {x y : Int32} (h : ¬ x ≤ y) (hx : x = nI a) (hy : y = nI b) (ha : a < 2 ^ 31) (hb : b < 2 ^ 31) : b < a := by subst hx hy; exact Nat.lt_of_not_le (fun q => h ((nI_leI ha hb).mpr q))
theorem kn_lt {a b : Nat} {x y : Int32} (h : x < y) (hx : x = nI a) (hy : y = nI b) (ha : a < 2 ^ 31) (hb : b < 2 ^ 31) : a < b := by subst hx hy; exact (nI_ltI ha hb).mp h
theorem kn_nlt {a b : Nat} {x y : Int32} (h : ¬ x < y) (hx : x = nI a) (hy : y = nI b) (ha : a < 2 ^ 31) (hb : b < 2 ^ 31) : b ≤ a := by subst hx hy; exact Nat.le_of_not_lt (fun q => h ((nI_ltI ha hb).mpr q))
theorem kn_eq {a b : Nat} {x y : Int32} (h : x = y) (hx : x = nI a) (hy : y = nI b) (ha : a < 2 ^ 31) (hb : b < 2 ^ 31) : a = b := by subst hx hy; exact (nI_eq ha hb).mp h
theorem kn_ne {a b : Nat} {x y : Int32} (h : ¬ x = y) (hx : x = nI a) (hy : y = nI b) (ha : a < 2 ^ 31) (hb : b < 2 ^ 31) : a ≠ b := by subst hx hy; exact fun q => h ((nI_eq ha hb).mpr q)
theorem k32_le (x y : Int32) : x ≤ y ↔ x.toInt ≤ y.toInt := Int32.le_iff_toInt_le
theorem k32_lt (x y : Int32) : x < y ↔ x.toInt < y.toInt := Int32.lt_iff_toInt_lt
theorem ks_int {D : va_G} {cl : List vw_C} {cI cB cZ cA : ClassId} {s : State} (h : va_K D cl ([(cI, .int), (cB, .byte), (cZ, .boolean)] ++ [(cA, .int)]) s) : cI = cA := by
  have h0 := (h.2 0 _ rfl).2
  have h2 := (h.2 3 _ rfl).2
  exact Option.some.inj (h0.symm.trans h2)
theorem ks_byte {D : va_G} {cl : List vw_C} {cI cB cZ cA : ClassId} {s : State} (h : va_K D cl ([(cI, .int), (cB, .byte), (cZ, .boolean)] ++ [(cA, .byte)]) s) : cB = cA := by
  have h0 := (h.2 1 _ rfl).2
  have h2 := (h.2 3 _ rfl).2
  exact Option.some.inj (h0.symm.trans h2)
theorem ks_bool {D : va_G} {cl : List vw_C} {cI cB cZ cA : ClassId} {s : State} (h : va_K D cl ([(cI, .int), (cB, .byte), (cZ, .boolean)] ++ [(cA, .boolean)]) s) : cZ = cA := by
  have h0 := (h.2 2 _ rfl).2
  have h2 := (h.2 3 _ rfl).2
  exact Option.some.inj (h0.symm.trans h2)
/-! the static row MARK -/
def kMk : Nat → Value := fun j => match j with
  | 0 => .int 77
  | 1 => .int 68
  | _ => .int 1
def kM (tM : Nat) (A : Nat → Prop) (U : State) (H : Heap) : Prop := va_Z "DemoTape" "MARK" "[I" (.ref tM) A U H ∧ va_T .int tM 3 kMk A U H ∧ va_Nw nwW U ∧ va_Nw nwR U ∧ va_Nw nwI U
def kps (D : va_G) (cl : List vw_C) (tys : List (ClassId × FieldType)) (ws : va_W) (sz tM : Nat) : State → Prop := fun U => kp D cl tys ws sz U ∧ kM tM (va_A ws sz) U U.heap
section KS
variable {s : State} {H : Heap} {locs : List Loc} {D : va_G} {cl : List vw_C} {tys : List (ClassId × FieldType)} {ws wc : va_W} {A : Nat → Prop} {tM : Nat}
theorem kps_blind {As : List Value} {sz : Nat} : FrameBlind (va_Pc As (kps D cl tys ws sz tM)) := by
  intro a U g mk q
  obtain ⟨q0, ⟨q1, qP, qK, qD⟩, qZ, qT, q1n, q2n, q3n⟩ := q
  exact ⟨q0, ⟨q1, qP, va_K.moved (u := U) (U := U.calling g mk a) (Vm.Alike.refl U.vm) qK, qD⟩, va_Z.moved (u := U) (U := U.calling g mk a) (Vm.Alike.refl U.vm) qZ, va_T.moved (u := U) (U := U.calling g mk a) (Vm.Alike.refl U.vm) qT, va_Nw.same rfl (U := U.calling g mk a) rfl q1n, va_Nw.same rfl (U := U.calling g mk a) rfl q2n, va_Nw.same rfl (U := U.calling g mk a) rfl q3n⟩
theorem kM.pass {U : State} (h : kM tM A s s.heap) (hS : va_S A s.heap H locs) (hF : ∀ q, va_A wc H.size q → A q) (hW : s.WarmedH U.vm) (hU : U.heap = H) : kM tM (va_A wc H.size) U U.heap := by
  rw [hU]
  exact ⟨((h.1.kept (fun a ha hn => hS.2.1 a ha hn)).narrow hF).moved hW.alike, ((h.2.1.kept (fun a ha hn => hS.2.1 a ha hn)).narrow hF).moved hW.alike, va_Nw.warmF hW h.2.2.1, va_Nw.warmF hW h.2.2.2.1, va_Nw.warmM hW h.2.2.2.2⟩
theorem kps_of {As : List Value} (hK : va_K D cl tys s) (hP : va_P D cl wc H) (hD : va_D A wc) (hMk : kM tM A s s.heap) (hS : va_S A s.heap H locs) (hF : ∀ q, va_A wc H.size q → A q) : ∀ U : State, U.heap = H → s.WarmedH U.vm → va_Pc As (kps D cl tys wc H.size tM) As.toArray U := by
  intro U hU hW
  exact ⟨rfl, (kp_of (As := As) hK hP hD U hU hW).2, hMk.pass hS hF hW hU⟩
theorem kpsS {As : List Value} (hK : va_K D cl tys s) (hP : va_P D cl ws H) (hD : va_D A ws) (hMk : kM tM A s s.heap) (hS : va_S A s.heap H locs) (hA : ∀ q, s.heap.size ≤ q → A q) (isC : List Nat) (h1 : isC.filterMap (fun i => ws[i]?) = wc) (hn : va_nd isC = true) (h2 : isC.map (fun i => ws[i]?) = wc.map some) : PreS s H (va_Pc As (kps D cl tys wc H.size tM)) As :=
  ⟨kps_blind, kps_of hK (hP.sub isC h1) (hD.sub isC hn h2) hMk hS (va_free hD hS hA isC h2)⟩
theorem kpsV {As : List Value} {b q0 ci : Nat} {q : vw_C} {fs : List Value} (hK : va_K D cl tys s) (hP : va_P D cl ws H) (hD : va_D A ws) (hMk : kM tM A s s.heap) (hS : va_S A s.heap H locs) (hA : ∀ q, s.heap.size ≤ q → A q) (isC : List Nat) (h1 : isC.filterMap (fun i => ws[i]?) = wc) (hn : va_nd isC = true) (h2 : isC.map (fun i => ws[i]?) = wc.map some) (hc : cl[ci]? = some q) (he : ws[q0]? = some (b, .inr (ci, fs))) : PreV s H q.1 b (va_Pc (.ref b :: As) (kps D cl tys wc H.size tM)) As :=
  ⟨kps_blind, va_recv hK hP hc he, kps_of hK (hP.sub isC h1) (hD.sub isC hn h2) hMk hS (va_free hD hS hA isC h2)⟩
end KS
