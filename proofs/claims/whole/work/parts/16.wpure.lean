/-! Pure words of writing, on the reference's side -/
theorem i32_sub_inj {x y c : Int32} (h : x - c = y - c) : x = y := by rw [← Int32.sub_add_cancel x c, h, Int32.sub_add_cancel]
theorem cEq {c d : Int32} (hc : cOk c) (hd : cOk d) (h1 : kAhead c - 64 = kAhead d - 64) (h2 : kAside c - 64 = kAside d - 64) (h3 : kTurn c - 16 = kTurn d - 16) (h4 : kUse c = kUse d) : c = d := by
  obtain ⟨u, a, s, t, hu, ha, hs, ht, rfl⟩ := hc
  obtain ⟨u', a', s', t', hu', ha', hs', ht', rfl⟩ := hd
  obtain ⟨p1, p2, p3, p4⟩ := cN_parts hu ha hs ht
  obtain ⟨q1, q2, q3, q4⟩ := cN_parts hu' ha' hs' ht'
  rw [p2, q2] at h1; rw [p3, q3] at h2; rw [p4, q4] at h3; rw [p1, q1] at h4
  have e1 := (nI_eq (by omega) (by omega)).mp (i32_sub_inj h1)
  have e2 := (nI_eq (by omega) (by omega)).mp (i32_sub_inj h2)
  have e3 := (nI_eq (by omega) (by omega)).mp (i32_sub_inj h3)
  have e4 := (nI_eq (by omega) (by omega)).mp h4
  subst e1 e2 e3 e4; rfl
theorem MRow.eq {fa fs ft fu : Nat → Int32} {M : List Int32} (h : MRow fa fs ft fu M) {i j : Nat} (hi : i < M.length) (hj : j < M.length) (h1 : fa i = fa j) (h2 : fs i = fs j) (h3 : ft i = ft j) (h4 : fu i = fu j) : (M[i]?).getD (-1) = (M[j]?).getD (-1) := by
  have a := h.at hi
  have b := h.at hj
  exact cEq (h.ok hi) (h.ok hj) (by rw [← a.1, ← b.1]; exact h1) (by rw [← a.2.1, ← b.2.1]; exact h2) (by rw [← a.2.2.1, ← b.2.2.1]; exact h3) (by rw [← a.2.2.2, ← b.2.2.2]; exact h4)
theorem MRow.neq {fa fs ft fu : Nat → Int32} {M : List Int32} (h : MRow fa fs ft fu M) {i j : Nat} (hi : i < M.length) (hj : j < M.length) (hn : ¬ fa i = fa j ∨ ¬ fs i = fs j ∨ ¬ ft i = ft j ∨ ¬ fu i = fu j) : (M[i]?).getD (-1) ≠ (M[j]?).getD (-1) := by
  intro e
  have a := h.at hi
  have b := h.at hj
  rw [e] at a
  rcases hn with q | q | q | q
  · exact q (a.1.trans b.1.symm)
  · exact q (a.2.1.trans b.2.1.symm)
  · exact q (a.2.2.1.trans b.2.2.1.symm)
  · exact q (a.2.2.2.trans b.2.2.2.symm)
theorem kEnd_y1 {M : List Int32} {j n : Nat} (h : n = 63) : ¬ kEnd M j n = 0 := by unfold kEnd; rw [if_pos (Or.inl h)]; decide
theorem kEnd_y2 {M : List Int32} {j n : Nat} (h : (M[j + 1]?).getD (-1) ≠ (M[j]?).getD (-1)) : ¬ kEnd M j n = 0 := by unfold kEnd; rw [if_pos (Or.inr h)]; decide
theorem kEnd_n0 {M : List Int32} {j n : Nat} (h1 : n ≠ 63) (h2 : (M[j + 1]?).getD (-1) = (M[j]?).getD (-1)) : kEnd M j n = 0 := by unfold kEnd; rw [if_neg (fun q => q.elim h1 (fun z => z h2))]
theorem low1 (x : Int32) : lowB (lNat x.toInt64) 1 = [iByte x] := by
  show [lNat x.toInt64 / 2 ^ (8 * 0) % 256] = [iByte x]
  congr 1
  unfold iByte lNat
  have h : uN x.toInt64 % 2 ^ 32 = x.toBitVec.toNat := by
    rw [← l2i_mod]; congr 2; simp
  omega
theorem low2 (x : Int32) : lowB (lNat x.toInt64) 2 = [iByte (x >>> ((8 : Int32) &&& 31)), iByte x] := by
  have h1 := low1 x
  show (lNat x.toInt64 / 2 ^ (8 * 1) % 256) :: lowB (lNat x.toInt64) 1 = _
  rw [h1]
  congr 1
  have h := lNat_sbyte x.toInt64 1 (by decide)
  have h8 : iByte (x >>> ((8 : Int32) &&& 31)) = lNat x.toInt64 / 2 ^ (8 * 1) % 256 := by
    unfold iByte
    have hb : ∀ i, i < 8 → (x >>> ((8 : Int32) &&& 31)).toBitVec.toNat.testBit i = (lNat x.toInt64 / 2 ^ (8 * 1)).testBit i := by
      intro i hi
      have e1 := b_sshr8 x (i := i) (by omega)
      unfold bt at e1
      rw [if_pos (by omega)] at e1
      rw [← BitVec.getLsbD, e1, ← Nat.shiftRight_eq_div_pow, Nat.testBit_shiftRight]
      show x.toBitVec.toNat.testBit (8 + i) = (uN x.toInt64).testBit (8 * 1 + i)
      have h32 : uN x.toInt64 % 2 ^ 32 = x.toBitVec.toNat := by rw [← l2i_mod]; congr 2; simp
      rw [← h32, Nat.testBit_mod_two_pow]
      have : 8 + i < 32 := by omega
      simp [this]
    apply Nat.eq_of_testBit_eq
    intro i
    have e : (256 : Nat) = 2 ^ 8 := by decide
    rw [e, Nat.testBit_mod_two_pow, Nat.testBit_mod_two_pow]
    by_cases hi : i < 8
    · rw [hb i hi]
    · simp [hi]
  exact h8.symm
theorem kGBi_n {L : List Nat} {cd : Int32} {k : Nat} (h : kSide cd = 0) : L ++ kGB (cd, k) = (L ++ [iByte (nI k + (if kUse cd = 0 then 0 else 64) + (if kSide cd = 0 then 0 else 128))]) ++ [iByte (kAhead cd)] := by
  rw [kGB_n h, low1, low1]
theorem kGBi_y {L : List Nat} {cd : Int32} {k : Nat} (h : ¬ kSide cd = 0) : L ++ kGB (cd, k) = (((L ++ [iByte (nI k + (if kUse cd = 0 then 0 else 64) + (if kSide cd = 0 then 0 else 128))]) ++ [iByte (kAhead cd)]) ++ [iByte (kAside cd)]) ++ [iByte (kTurn cd)] := by
  rw [kGB_y h, low1, low1, low1, low1]
theorem iByte_lt (x : Int32) : iByte x < 256 := Nat.mod_lt _ (by decide)
theorem iByte_nI {n : Nat} (h : n < 256) : iByte (nI n) = n := by unfold iByte; rw [pk_tn (by omega)]; omega
def kCB (a b k : Nat) : Nat := if k < 2 then (if k % 2 = 0 then b / 256 else b % 256) else (if k % 2 = 0 then a / 256 else a % 256)
/-- the header -/
def kHd (v : Int32 × Int32 × Int32 × Int32) : List Nat := (((((((([] ++ [iByte 77]) ++ [iByte 68]) ++ [iByte 1]) ++ [iByte (v.1 >>> ((8 : Int32) &&& 31))]) ++ [iByte v.1]) ++ [iByte (v.2.1 >>> ((8 : Int32) &&& 31))]) ++ [iByte v.2.1]) ++ [iByte v.2.2.1]) ++ [iByte v.2.2.2]
theorem kPre_eq (M : List Int32) (v : Int32 × Int32 × Int32 × Int32) : kPre M v.1 v.2.1 v.2.2.1 v.2.2.2 = (kHd v ++ (kGr 0 M).flatMap kGB) ++ [iByte 0] := by
  unfold kPre kHd
  rw [low1, low1, low1, low2, low2, low1, low1, show lowB (lNat 0) 1 = [iByte 0] from rfl]
  simp only [List.append_assoc, List.nil_append, List.cons_append]
theorem kChk_low {a b : Nat} (ha : a < 65536) (hb : b < 65536) : lowB (lNat (nI b <<< ((16 : Int32) &&& 31) ||| nI a).toInt64) 4 = [b / 256, b % 256, a / 256, a % 256] := by
  have e : nI b <<< ((16 : Int32) &&& 31) ||| nI a = nI (b * 2 ^ 16 + a) := by
    have e1 : nI b <<< ((16 : Int32) &&& 31) = nI (b * 2 ^ 16) := pk_shlN _ 16 (by decide) (by omega)
    rw [e1, nx_add (by omega)]
  rw [e]
  have h : uN (nI (b * 2 ^ 16 + a)).toInt64 % 2 ^ 32 = b * 2 ^ 16 + a := by
    rw [← l2i_mod, show (nI (b * 2 ^ 16 + a)).toInt64.toInt32 = nI (b * 2 ^ 16 + a) by simp, pk_tn (by omega)]
  show [lNat _ / 2 ^ (8 * 3) % 256, lNat _ / 2 ^ (8 * 2) % 256, lNat _ / 2 ^ (8 * 1) % 256, lNat _ / 2 ^ (8 * 0) % 256] = _
  unfold lNat
  generalize uN (nI (b * 2 ^ 16 + a)).toInt64 = n at h ⊢
  congr 1
  · omega
  congr 1
  · omega
  congr 1
  · omega
  congr 1
  omega
theorem kOut_eq {M : List Int32} {v : Int32 × Int32 × Int32 × Int32} {Z : List Nat} {a b : Nat} (hZ : Z = (kHd v ++ (kGr 0 M).flatMap kGB) ++ [iByte 0]) (hc : kCk Z (1, 0) = (a, b)) : kOut M v.1 v.2.1 v.2.2.1 v.2.2.2 = (((Z ++ [iByte (nI (kCB a b 0))]) ++ [iByte (nI (kCB a b 1))]) ++ [iByte (nI (kCB a b 2))]) ++ [iByte (nI (kCB a b 3))] := by
  have hl := kCk_lt Z (1, 0) (by decide) (by decide)
  rw [hc] at hl
  have h1 : a < 65521 := hl.1
  have h2 : b < 65521 := hl.2
  unfold kOut
  rw [kPre_eq, ← hZ, List.take_length]
  unfold kChk
  rw [hc]
  dsimp only
  rw [kChk_low (by omega) (by omega)]
  unfold kCB
  simp only [List.append_assoc, List.cons_append, List.nil_append]
  rw [if_pos (by decide), if_pos (by decide), if_pos (by decide), if_neg (by decide), if_neg (by decide), if_pos (by decide), if_neg (by decide), if_neg (by decide)]
  rw [iByte_nI (by omega), iByte_nI (by omega), iByte_nI (by omega), iByte_nI (by omega)]
theorem kSide_m {c f g : Int32} (h1 : f = kAside c - 64) (h2 : g = kTurn c - 16) : (f = 0 ∧ g = 0 → kSide c = 0) ∧ (¬ (f = 0 ∧ g = 0) → kSide c = 1) := by
  have e1 : f = 0 ↔ kAside c = 64 := by rw [h1]; exact ⟨fun q => by rw [← Int32.sub_add_cancel (kAside c) 64, q]; rfl, fun q => by rw [q]; rfl⟩
  have e2 : g = 0 ↔ kTurn c = 16 := by rw [h2]; exact ⟨fun q => by rw [← Int32.sub_add_cancel (kTurn c) 16, q]; rfl, fun q => by rw [q]; rfl⟩
  constructor
  · intro q; unfold kSide; rw [if_pos ⟨e1.mp q.1, e2.mp q.2⟩]
  · intro q; unfold kSide; rw [if_neg (fun z => q ⟨e1.mpr z.1, e2.mpr z.2⟩)]

theorem kGBi_n2 {L : List Nat} {cd u : Int32} {k : Nat} (h : kSide cd = 0) (hu : (if kUse cd = 0 then (0 : Int32) else 64) = u) : L ++ kGB (cd, k) = (L ++ [iByte (nI k + u + 0)]) ++ [iByte (kAhead cd)] := by
  rw [kGBi_n h, hu, if_pos h]
theorem kGBi_y2 {L : List Nat} {cd u : Int32} {k : Nat} (h : ¬ kSide cd = 0) (hu : (if kUse cd = 0 then (0 : Int32) else 64) = u) : L ++ kGB (cd, k) = (((L ++ [iByte (nI k + u + 128)]) ++ [iByte (kAhead cd)]) ++ [iByte (kAside cd)]) ++ [iByte (kTurn cd)] := by
  rw [kGBi_y h, hu, if_neg h]
