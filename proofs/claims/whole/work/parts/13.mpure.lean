/-! Pure words of the reference's side, tied to the class's: codes as numbers, rows that hold what codes say -/
theorem nx_or (a b : Nat) : nI a ||| nI b = nI (a ||| b) := by
  apply Int32.toBitVec_inj.mp
  rw [Int32.toBitVec_or]
  show BitVec.ofNat 32 a ||| BitVec.ofNat 32 b = BitVec.ofNat 32 (a ||| b)
  apply BitVec.eq_of_getLsbD_eq
  intro i hi
  rw [BitVec.getLsbD_or, BitVec.getLsbD_ofNat, BitVec.getLsbD_ofNat, BitVec.getLsbD_ofNat, Nat.testBit_or]
  simp [hi]
theorem nx_add {a b k : Nat} (hb : b < 2 ^ k) : nI (a * 2 ^ k) ||| nI b = nI (a * 2 ^ k + b) := by
  rw [nx_or, Nat.mul_comm, ← Nat.two_pow_add_eq_or_of_lt hb]
def cNum (u a s t : Nat) : Nat := u * 16777216 + a * 65536 + s * 256 + t
theorem kCode_num {u a s t : Nat} (hu : u ≤ 1) (ha : a < 256) (hs : s < 256) (ht : t < 256) : kCode (nI u) (nI a) (nI s) (nI t) = nI (cNum u a s t) := by
  unfold kCode cNum
  have e1 : nI a <<< ((16 : Int32) &&& 31) = nI (a * 2 ^ 16) := pk_shlN _ 16 (by decide) (by omega)
  have e2 : nI s <<< ((8 : Int32) &&& 31) = nI (s * 2 ^ 8) := pk_shlN _ 8 (by decide) (by omega)
  have e0 : (if nI u = 0 then (0 : Int32) else 16777216) = nI (u * 2 ^ 24) := by
    rcases (show u = 0 ∨ u = 1 by omega) with rfl | rfl
    · rfl
    · rfl
  rw [e0, e1, e2, nx_add (by omega : a * 2 ^ 16 < 2 ^ 24)]
  rw [show u * 2 ^ 24 + a * 2 ^ 16 = (u * 2 ^ 8 + a) * 2 ^ 16 by omega, nx_add (by omega : s * 2 ^ 8 < 2 ^ 16)]
  rw [show (u * 2 ^ 8 + a) * 2 ^ 16 + s * 2 ^ 8 = ((u * 2 ^ 8 + a) * 2 ^ 8 + s) * 2 ^ 8 by omega, nx_add (by omega : t < 2 ^ 8)]
theorem kAhead_num {n : Nat} (h : n < 2 ^ 31) : kAhead (nI n) = nI (n / 65536 % 256) := by
  unfold kAhead
  rw [pk_shrN h _ 16 (by decide)]
  exact pk_andN (by omega) 8 (by decide)
theorem kAside_num {n : Nat} (h : n < 2 ^ 31) : kAside (nI n) = nI (n / 256 % 256) := by
  unfold kAside
  rw [pk_shrN h _ 8 (by decide)]
  exact pk_andN (by omega) 8 (by decide)
theorem kTurn_num {n : Nat} (h : n < 2 ^ 31) : kTurn (nI n) = nI (n % 256) := pk_andN (by omega) 8 (by decide)
/-- a code that can be -/
def cOk (c : Int32) : Prop := ∃ u a s t : Nat, u ≤ 1 ∧ a ≤ 128 ∧ s ≤ 128 ∧ t ≤ 32 ∧ c = nI (cNum u a s t)
theorem kUse_num {u a s t : Nat} (hu : u ≤ 1) (ha : a < 256) (hs : s < 256) (ht : t < 256) : kUse (nI (cNum u a s t)) = nI u := by
  have h : nI (cNum u a s t) &&& 16777216 = nI (u * 16777216) := by
    apply b_ext
    intro i hi
    rw [b_and]
    have e : ∀ i, i < 32 → bt 16777216 i = decide (i = 24) := by decide +kernel
    rw [e i hi]
    have hn : ∀ n : Nat, n < 2 ^ 32 → bt (nI n) i = n.testBit i := fun n _ => by
      unfold bt
      show (BitVec.ofNat 32 n).getLsbD i = _
      rw [BitVec.getLsbD_ofNat]; simp [hi]
    unfold cNum
    rw [hn _ (by omega), hn _ (by omega)]
    by_cases h24 : i = 24
    · subst h24
      simp only [decide_true, Bool.and_true, Nat.testBit_eq_decide_div_mod_eq]
      rw [show (u * 16777216 + a * 65536 + s * 256 + t) / 2 ^ 24 = u by omega, show u * 16777216 / 2 ^ 24 = u by omega]
    · rcases (show u = 0 ∨ u = 1 by omega) with rfl | rfl
      · simp [h24]
      · simp only [h24, decide_false, Bool.and_false]
        rw [show 1 * 16777216 = 2 ^ 24 by decide, Nat.testBit_two_pow]
        simp; omega
  unfold kUse
  rw [h]
  rcases (show u = 0 ∨ u = 1 by omega) with rfl | rfl
  · rfl
  · rfl
theorem cN_parts {u a s t : Nat} (hu : u ≤ 1) (ha : a ≤ 128) (hs : s ≤ 128) (ht : t ≤ 32) : kUse (nI (cNum u a s t)) = nI u ∧ kAhead (nI (cNum u a s t)) = nI a ∧ kAside (nI (cNum u a s t)) = nI s ∧ kTurn (nI (cNum u a s t)) = nI t := by
  have hl : cNum u a s t < 2 ^ 31 := by unfold cNum; omega
  refine ⟨kUse_num hu (by omega) (by omega) (by omega), ?_, ?_, ?_⟩
  · rw [kAhead_num hl]; congr 1; unfold cNum; omega
  · rw [kAside_num hl]; congr 1; unfold cNum; omega
  · rw [kTurn_num hl]; congr 1; unfold cNum; omega
/-- four rows that hold the codes' parts -/
def MRow (fa fs ft fu : Nat → Int32) (M : List Int32) : Prop := (∀ (i : Nat) (h : i < M.length), fa i = kAhead M[i] - 64 ∧ fs i = kAside M[i] - 64 ∧ ft i = kTurn M[i] - 16 ∧ fu i = kUse M[i]) ∧ (∀ c ∈ M, cOk c) ∧ M.length ≤ 1024
theorem MRow.nil {fa fs ft fu : Nat → Int32} : MRow fa fs ft fu [] := ⟨fun i h => absurd h (Nat.not_lt_zero i), fun c h => absurd h List.not_mem_nil, Nat.zero_le _⟩
theorem MRow.push {fa fs ft fu : Nat → Int32} {M : List Int32} (h : MRow fa fs ft fu M) {c xa xs xt xu : Int32} (hc : cOk c) (hl : M.length + 1 ≤ 1024) (ea : xa = kAhead c - 64) (es : xs = kAside c - 64) (et : xt = kTurn c - 16) (eu : xu = kUse c) : MRow (upd fa M.length xa) (upd fs M.length xs) (upd ft M.length xt) (upd fu M.length xu) (M ++ [c]) := by
  refine ⟨fun i hi => ?_, fun z hz => ?_, by rw [List.length_append]; exact hl⟩
  · simp only [List.length_append, List.length_cons, List.length_nil] at hi
    by_cases hq : i = M.length
    · subst hq; simp [upd, ea, es, et, eu]
    · have h2 : i < M.length := by omega
      rw [List.getElem_append_left h2]
      simp only [upd, if_neg hq]
      exact h.1 i h2
  · rcases List.mem_append.mp hz with q | q
    · exact h.2.1 z q
    · rw [List.mem_singleton.mp q]; exact hc
theorem MRow.take {fa fs ft fu : Nat → Int32} {M : List Int32} (h : MRow fa fs ft fu M) (n : Nat) : MRow fa fs ft fu (M.take n) := by
  refine ⟨fun i hi => ?_, fun z hz => h.2.1 z (List.mem_of_mem_take hz), by rw [List.length_take]; have := h.2.2; omega⟩
  rw [List.getElem_take]; exact h.1 i _
theorem MRow.at {fa fs ft fu : Nat → Int32} {M : List Int32} (h : MRow fa fs ft fu M) {j : Nat} (hj : j < M.length) : fa j = kAhead ((M[j]?).getD (-1)) - 64 ∧ fs j = kAside ((M[j]?).getD (-1)) - 64 ∧ ft j = kTurn ((M[j]?).getD (-1)) - 16 ∧ fu j = kUse ((M[j]?).getD (-1)) := by
  rw [List.getElem?_eq_getElem hj]; exact h.1 j hj
theorem MRow.ok {fa fs ft fu : Nat → Int32} {M : List Int32} (h : MRow fa fs ft fu M) {j : Nat} (hj : j < M.length) : cOk ((M[j]?).getD (-1)) := by
  rw [List.getElem?_eq_getElem hj]; exact h.2.1 _ (List.getElem_mem hj)
def HoldN (f : Nat → Int32) (L : List Nat) : Prop := ∀ (i : Nat) (h : i < L.length), f i = nI L[i]
def NRow (cap : Nat) (f : Nat → Int32) (L : List Nat) : Prop := HoldN f L ∧ Byt L ∧ L.length ≤ cap
theorem NRow.nil {cap : Nat} {f : Nat → Int32} : NRow cap f [] := ⟨fun i h => absurd h (Nat.not_lt_zero i), Byt.nil, Nat.zero_le _⟩
theorem NRow.push {cap : Nat} {f : Nat → Int32} {L : List Nat} (h : NRow cap f L) {b : Nat} {x : Int32} (hx : x = nI b) (hb : b < 256) (hl : L.length + 1 ≤ cap) : NRow cap (upd f L.length x) (L ++ [b]) := by
  refine ⟨fun i hi => ?_, h.2.1.app (fun z hz => by rw [List.mem_singleton.mp hz]; exact hb), by rw [List.length_append]; exact hl⟩
  simp only [List.length_append, List.length_cons, List.length_nil] at hi
  by_cases hc : i = L.length
  · subst hc; simp [upd, hx]
  · have h2 : i < L.length := by omega
    rw [List.getElem_append_left h2]
    simp only [upd, if_neg hc]
    exact h.1 i h2
theorem NRow.take {cap : Nat} {f : Nat → Int32} {L : List Nat} (h : NRow cap f L) (n : Nat) : NRow cap f (L.take n) :=
  ⟨fun i hi => by rw [List.getElem_take]; exact h.1 i _, h.2.1.take n, by rw [List.length_take]; have := h.2.2; omega⟩
theorem NRow.set {cap : Nat} {f : Nat → Int32} {L : List Nat} (h : NRow cap f L) {k b : Nat} {x : Int32} (hx : x = nI b) (hb : b < 256) : NRow cap (upd f k x) (L.set k b) := by
  refine ⟨fun i hi => ?_, h.2.1.set hb, by rw [List.length_set]; exact h.2.2⟩
  simp only [List.length_set] at hi
  rw [List.getElem_set]
  by_cases hc : i = k
  · subst hc; simp [upd, hx]
  · rw [if_neg (fun q => hc q.symm)]
    simp only [upd, if_neg hc]
    exact h.1 i hi
theorem NRow.at {cap : Nat} {f : Nat → Int32} {L : List Nat} (h : NRow cap f L) {j : Nat} (hj : j < L.length) : f j = nI (L.getD j 0) := by
  rw [h.1 j hj, List.getD_eq_getElem?_getD, List.getElem?_eq_getElem hj]; rfl
theorem NRow.get {cap : Nat} {f : Nat → Int32} {L : List Nat} (h : NRow cap f L) {j : Nat} (hj : j < L.length) : f j = ((L[j]?).map nI).getD (-1) := by
  rw [h.1 j hj, List.getElem?_eq_getElem hj]; rfl
/-- the start's row -/
def HoldQ (f : Nat → Int32) (v : Int32 × Int32 × Int32 × Int32) : Prop := f 0 = v.1 ∧ f 1 = v.2.1 ∧ f 2 = v.2.2.1 ∧ f 3 = v.2.2.2
theorem kIn_ok {k n : Nat} (h1 : 1 ≤ k) (h2 : k ≤ n) (hn : n < 2 ^ 31) : ¬ kIn (nI k) 1 (nI n) = 0 := (kIn_01 _ _ _).mpr ⟨nI_le (a := 1) h1 (by omega), nI_le h2 hn⟩
theorem kIn_lo {v lo hi : Int32} (h : v < lo) : kIn v lo hi = 0 := by unfold kIn; rw [if_neg (fun q => absurd q.1 (Int32.not_le.mpr h))]
theorem kIn_hi {v lo hi : Int32} (h : hi < v) : kIn v lo hi = 0 := by unfold kIn; rw [if_neg (fun q => absurd q.2 (Int32.not_le.mpr h))]
theorem kIn_y {v lo hi : Int32} (h : ¬ v < lo) (h2 : ¬ hi < v) : ¬ kIn v lo hi = 0 := (kIn_01 _ _ _).mpr ⟨Int32.not_lt.mp h, Int32.not_lt.mp h2⟩
theorem kPn {v : Int32} {n : Nat} (h : ¬ v < 1) (h2 : ¬ nI n < v) (hn : n < 2 ^ 31) : ∃ k, 1 ≤ k ∧ k ≤ n ∧ v = nI k := by
  have h0 : ¬ v < 0 := by
    rw [k32_lt] at h ⊢
    have e1 : (1 : Int32).toInt = 1 := by decide
    have e0 : (0 : Int32).toInt = 0 := by decide
    omega
  obtain ⟨k, hk, rfl⟩ := nI_of h0
  refine ⟨k, ?_, ?_, rfl⟩
  · rcases Nat.lt_or_ge k 1 with q | q
    · exact absurd (nI_lt (a := k) (b := 1) q (by decide)) h
    · exact q
  · rcases Nat.lt_or_ge n k with q | q
    · exact absurd (nI_lt q hk) h2
    · exact q
theorem pm_nI {v : Int32} {m : Nat} (hm : m ≤ 64) (h : ¬ kIn v (-nI m) (nI m) = 0) : ∃ k, k ≤ 2 * m ∧ v + nI m = nI k ∧ v = nI k - nI m := by
  obtain ⟨h1, h2⟩ := (kIn_01 _ _ _).mp h
  rw [k32_le] at h1 h2
  have e1 : (nI m).toInt = m := nI_toInt (by omega)
  have e2 : (-nI m).toInt = -(m : Int) := sb_negT (by omega)
  rw [e2] at h1; rw [e1] at h2
  have e3 : (v + nI m).toInt = v.toInt + m := by
    rw [Int32.toInt_add, e1]
    exact Int.bmod_eq_of_le (by omega) (by omega)
  have h0 : ¬ (v + nI m) < 0 := by
    rw [k32_lt, e3]; have e0 : (0 : Int32).toInt = 0 := by decide
    omega
  obtain ⟨k, hk, e⟩ := nI_of h0
  have e4 : (nI k).toInt = k := nI_toInt hk
  rw [← e, e3] at e4
  exact ⟨k, by omega, e, by rw [← e]; simp⟩
/-- what record lays down -/
theorem cd_ok {pa ps pt pu : Int32} (h1 : ¬ kIn pa (-64) 64 = 0) (h2 : ¬ kIn ps (-64) 64 = 0) (h3 : ¬ kIn pt (-16) 16 = 0) (hu : pu = 0 ∨ pu = 1) : cOk (kCode pu (pa + 64) (ps + 64) (pt + 16)) ∧ pa = kAhead (kCode pu (pa + 64) (ps + 64) (pt + 16)) - 64 ∧ ps = kAside (kCode pu (pa + 64) (ps + 64) (pt + 16)) - 64 ∧ pt = kTurn (kCode pu (pa + 64) (ps + 64) (pt + 16)) - 16 ∧ pu = kUse (kCode pu (pa + 64) (ps + 64) (pt + 16)) := by
  obtain ⟨a, ha, ea, ea2⟩ := pm_nI (m := 64) (by decide) h1
  obtain ⟨b, hb, eb, eb2⟩ := pm_nI (m := 64) (by decide) h2
  obtain ⟨t, ht, et, et2⟩ := pm_nI (m := 16) (by decide) h3
  obtain ⟨u, hu1, eu⟩ : ∃ u : Nat, u ≤ 1 ∧ pu = nI u := by
    rcases hu with q | q
    · exact ⟨0, by decide, q⟩
    · exact ⟨1, by decide, q⟩
  have e : kCode pu (pa + 64) (ps + 64) (pt + 16) = nI (cNum u a b t) := by
    rw [show pa + 64 = nI a from ea, show ps + 64 = nI b from eb, show pt + 16 = nI t from et, eu]
    exact kCode_num hu1 (by omega) (by omega) (by omega)
  obtain ⟨p1, p2, p3, p4⟩ := cN_parts (u := u) (a := a) (s := b) (t := t) hu1 (by omega) (by omega) (by omega)
  rw [e, p1, p2, p3, p4]
  exact ⟨⟨u, a, b, t, hu1, by omega, by omega, by omega, rfl⟩, ea2, eb2, et2, eu⟩
theorem nar_b01 {x : Int32} (h : x = 0 ∨ x = 1) : vp_nar .boolean x = x := by
  rcases h with rfl | rfl <;> rfl
theorem kUse_01 (c : Int32) : kUse c = 0 ∨ kUse c = 1 := by
  unfold kUse; split
  · exact Or.inl rfl
  · exact Or.inr rfl
theorem kIx_no {k n : Nat} (h : n ≤ k) (hk : k < 2 ^ 31) : kIn (nI k) 0 (nI n - 1) = 0 := by
  rcases Nat.eq_zero_or_pos n with h0 | h0
  · subst h0
    refine kIn_hi ?_
    have e : nI 0 - 1 = -1 := by decide
    rw [e, k32_lt, nI_toInt hk]
    have e1 : (-1 : Int32).toInt = -1 := by decide
    omega
  · obtain ⟨z, rfl⟩ : ∃ z, n = z + 1 := ⟨n - 1, by omega⟩
    rw [nI_pred]
    exact kIn_hi (nI_lt (by omega) hk)
theorem kIx_y {k n : Nat} (h : k < n) (hn : n < 2 ^ 31) : ¬ kIn (nI k) 0 (nI n - 1) = 0 := by
  obtain ⟨z, rfl⟩ : ∃ z, n = z + 1 := ⟨n - 1, by omega⟩
  rw [nI_pred]
  exact kIn_y (nI_pos (by omega)) (nI_nlt (by omega) (by omega))
theorem subI {n : Nat} {v : Int32} (hn : n ≤ 1024) (hv : ¬ v < 1) : (nI n - v).toInt = (n : Int) - v.toInt := by
  rw [k32_lt] at hv
  have e1 : (1 : Int32).toInt = 1 := by decide
  have h2 := v.toInt_lt
  rw [Int32.toInt_sub, nI_toInt (by omega)]
  exact Int.bmod_eq_of_le (by omega) (by omega)
theorem kAg_ok {M : List Int32} {i k : Nat} (h : i + k ≤ M.length) (h1 : 1 ≤ k) (h2 : M.length + k ≤ 1024) (hM : M.length ≤ 1024) : kAgOk M (nI i) (nI k) :=
  ⟨kIx_y (by omega) (by omega), by rw [pk_sub (by omega)]; exact kIn_ok h1 (by omega) (by omega), nI_le (by omega) (by omega)⟩
theorem kAg_in {M : List Int32} {pi pn : Int32} (hM : M.length ≤ 1024) (h1 : ¬ pi < 0) (h2 : ¬ pn < 1) (h3 : ¬ nI M.length - pn < pi) : ∃ i k, 1 ≤ k ∧ i + k ≤ M.length ∧ pi = nI i ∧ pn = nI k := by
  obtain ⟨i, hi, rfl⟩ := nI_of h1
  have hs := subI hM h2
  have h4 : ¬ nI M.length < pn := by
    intro q
    rw [k32_lt, nI_toInt (by omega)] at q
    apply h3
    rw [k32_lt, hs, nI_toInt hi]
    omega
  obtain ⟨k, hk1, hk2, rfl⟩ := kPn h2 h4 (by omega)
  refine ⟨i, k, hk1, ?_, rfl, rfl⟩
  rw [k32_lt, hs, nI_toInt hi, nI_toInt (by omega)] at h3
  omega
theorem kAg_no1 {M : List Int32} {pi pn : Int32} (hM : M.length ≤ 1024) (_ : ¬ pi < 0) (h2 : ¬ pn < 1) (h3 : nI M.length - pn < pi) : ¬ kAgOk M pi pn := by
  intro z
  obtain ⟨i, hi, rfl⟩ := kIn_ix z.1 (by omega)
  have z2 := z.2.1
  rw [pk_sub (by omega)] at z2
  obtain ⟨k, hk, rfl⟩ := kIn_nI z2 (by omega)
  rw [k32_lt, subI hM h2, nI_toInt (by omega), nI_toInt (by omega)] at h3
  omega
section KZ
variable {p : Program} {l : Launch} {e : Env} {R : Room} {s : State} {m : MethodId} {args : Array Value} {below : List Frame} {meth : Method} {c : Code} {H H0 : Heap} {locs : List Loc} {cells slots pc : Nat} {Q : State → Prop} {ls : Array Slot} {rest : List Value} {cc : ByteArray} {D : va_G} {cl : List vw_C} {tys : List (ClassId × FieldType)} {ws : va_W} {A : Nat → Prop}
theorem kt_zald {ad : Nat} (hexec : p.tables.exec = Jvm.exec) (hb : c.code = cc) (hK : va_K D cl tys s) (hP : va_P D cl ws H) (q0 t0 : Nat) {cA : ClassId} {n : Nat} {f : Nat → Int32} (ha : ws[q0]? = some (ad, .inl (cA, n, .inl f))) (ht : tys[t0]? = some (cA, .boolean)) {j : Nat} (hj : j < n) (hn : n < 2 ^ 31) (hdg : decode cc pc = .ok (.baload, 1))
    (kk : W p l e R s m args below meth c H locs cells slots Q (F0 m (pc + 1) ls (.int (f j) :: rest))) : W p l e R s m args below meth c H locs cells slots Q (F0 m pc ls (.int (nI j) :: .ref ad :: rest)) :=
  va_zald hexec hb hK hP q0 t0 ha ht (vp_in_nI hj hn) hdg (by rw [nI_clamp (by omega)]; exact kk)
theorem kt_zast {ad : Nat} (hexec : p.tables.exec = Jvm.exec) (hb : c.code = cc) (hK : va_K D cl tys s) (hP : va_P D cl ws H) (hD : va_D A ws) (hS : va_S A H0 H locs) (q0 t0 : Nat) {cA : ClassId} {n : Nat} {f : Nat → Int32} (ha : ws[q0]? = some (ad, .inl (cA, n, .inl f))) (ht : tys[t0]? = some (cA, .boolean)) {j : Nat} {x : Int32} (hj : j < n) (hn : n < 2 ^ 31) (hdg : decode cc pc = .ok (.bastore, 1))
    (kk : ∀ (H1 : Heap) (locs1 : List Loc), va_P D cl (ws.set q0 (ad, .inl (cA, n, .inl (upd f j (vp_nar .boolean x))))) H1 → va_D A (ws.set q0 (ad, .inl (cA, n, .inl (upd f j (vp_nar .boolean x))))) → va_S A H0 H1 locs1 → W p l e R s m args below meth c H1 locs1 cells slots Q (F0 m (pc + 1) ls rest)) : W p l e R s m args below meth c H locs cells slots Q (F0 m pc ls (.int x :: .int (nI j) :: .ref ad :: rest)) :=
  va_zast hexec hb hK hP hD hS q0 t0 ha ht (vp_in_nI hj hn) hdg (by rw [nI_clamp (by omega)]; exact kk)
end KZ
theorem lsb_s : ∀ k, k < 8 → (((nI (8 * k)).toInt64 &&& 63).toBitVec.smod 64).toNat = 8 * k := by decide +kernel
theorem lNat_sbyte (v : Int64) (k : Nat) (hk : k < 8) : ((v >>> ((nI (8 * k)).toInt64 &&& 63)) &&& 255).toInt32 = nI (lNat v / 2 ^ (8 * k) % 256) := by
  have h1 : (v >>> ((nI (8 * k)).toInt64 &&& 63)) &&& 255 = (v.toUInt64 >>> ((nI (8 * k)).toInt64.toUInt64 &&& Int64.toUInt64 63)).toInt64 &&& 255 := by
    apply Int64.toBitVec_inj.mp
    rw [Int64.toBitVec_and, Int64.toBitVec_and, Int64.toBitVec_shiftRight]
    apply BitVec.eq_of_getLsbD_eq
    intro i hi
    rw [BitVec.getLsbD_and, BitVec.getLsbD_and]
    have hm : ∀ i < 64, 8 ≤ i → (255 : Int64).toBitVec.getLsbD i = false := by decide
    rcases Nat.lt_or_ge i 8 with z | z
    · congr 1
      show (v.toBitVec.sshiftRight (((nI (8 * k)).toInt64 &&& 63).toBitVec.smod 64).toNat).getLsbD i = (v.toUInt64 >>> ((nI (8 * k)).toInt64.toUInt64 &&& Int64.toUInt64 63)).toBitVec.getLsbD i
      rw [lsb_s k hk, BitVec.getLsbD_sshiftRight, UInt64.toBitVec_shiftRight]
      have hu : ∀ k, k < 8 → (((nI (8 * k)).toInt64.toUInt64 &&& Int64.toUInt64 63).toBitVec % 64).toNat = 8 * k := by decide +kernel
      show _ = (v.toUInt64.toBitVec >>> (((nI (8 * k)).toInt64.toUInt64 &&& Int64.toUInt64 63).toBitVec % 64).toNat).getLsbD i
      rw [hu k hk, BitVec.getLsbD_ushiftRight]
      have h6 : 8 * k + i < 64 := by omega
      simp [hi, h6]
    · rw [hm i hi z]; simp
  rw [h1]
  apply Int32.toBitVec_inj.mp
  apply BitVec.eq_of_toNat_eq
  rw [l2i_mod]
  have h2 : uN ((v.toUInt64 >>> ((nI (8 * k)).toInt64.toUInt64 &&& Int64.toUInt64 63)).toInt64 &&& 255) = lNat v / 2 ^ (8 * k) % 256 := by
    show ((v.toUInt64 >>> ((nI (8 * k)).toInt64.toUInt64 &&& Int64.toUInt64 63)) &&& 255).toNat = _
    rw [UInt64.toNat_and, show (255 : UInt64).toNat = 2 ^ 8 - 1 by decide, Nat.and_two_pow_sub_one_eq_mod]
    have h3 := uN_sk v (k := 8 * k) (by omega)
    unfold uN at h3
    unfold lNat uN
    rw [← h3]; rfl
  rw [h2, pk_tn (by omega)]
  omega
theorem kCpy_step {f g : Nat → Int32} {j : Nat} (h : ∀ i, i < j → f i = g i) : ∀ i, i < j + 1 → upd f j (g j) i = g i := by
  intro i hi
  by_cases hc : i = j
  · subst hc; simp [upd]
  · simp only [upd, if_neg hc]; exact h i (by omega)
theorem kCpy_row {f g : Nat → Int32} {O : List Nat} {j : Nat} (hO : NRow 4200 g O) (hj : O.length ≤ j) (h : ∀ i, i < j → f i = g i) : NRow 8192 f O :=
  ⟨fun i hi => by rw [h i (by omega)]; exact hO.1 i hi, hO.2.1, by have := hO.2.2; omega⟩
theorem kStart_in {f : Nat → Int32} {v : Int32 × Int32 × Int32 × Int32} (h : HoldQ f v) {k : Nat} (hk : k ≤ 3) : kStart v.1 v.2.1 v.2.2.1 v.2.2.2 (nI k) = f k := by
  rcases (show k = 0 ∨ k = 1 ∨ k = 2 ∨ k = 3 by omega) with rfl | rfl | rfl | rfl
  · exact h.1.symm
  · exact h.2.1.symm
  · exact h.2.2.1.symm
  · exact h.2.2.2.symm
theorem cOk_ne {c : Int32} (h : cOk c) : ¬ c = -1 := by
  obtain ⟨u, a, s, t, hu, ha, hs, ht, rfl⟩ := h
  intro q
  have h1 : (nI (cNum u a s t)).toInt = (cNum u a s t : Nat) := nI_toInt (by unfold cNum; omega)
  rw [q] at h1
  have e : (-1 : Int32).toInt = -1 := by decide
  rw [e] at h1
  omega
