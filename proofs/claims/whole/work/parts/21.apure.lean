/-! Pure words of the reference's readAll -/
def duAt (j : Nat) : Int32 := if j = 0 then 77 else if j = 1 then 68 else 1
def tMk (I : List Nat) : Nat → RS
  | 0 => q00
  | j + 1 => tOnly I (duAt j) 2 (tMk I j)
theorem tMk_3 (I : List Nat) : tMk I 3 = tQ1 I := by
  rw [← tQ1_def]; unfold tMark; rw [tMk, tMk, tMk, tMk]; rfl
theorem on_f {I : List Nat} {du nf : Int32} {q : RS} (h : ¬ rFt (tTake I 255 q).2 = 0) : tOnly I du nf q = (tTake I 255 q).2 := by
  unfold tOnly; split
  · rfl
  · exact rFail_n h
theorem on_y {I : List Nat} {du nf : Int32} {q : RS} {k : Nat} (n : NV I 255 q k) (h : rFt (tTake I 255 q).2 = 0) (e : nI k = du) : tOnly I du nf q = (tTake I 255 q).2 := tOnly_y (by rw [← n.2 h]; exact e)
theorem on_n {I : List Nat} {du nf : Int32} {q : RS} {k : Nat} (n : NV I 255 q k) (h : rFt (tTake I 255 q).2 = 0) (e : ¬ nI k = du) : tOnly I du nf q = rFail nf (nI (rNx q)) (tTake I 255 q).2 := tOnly_n (by rw [← n.2 h]; exact e)
theorem on_nx {I : List Nat} {du nf : Int32} {q : RS} (hn : nf ≠ 0) (h : rFt (tOnly I du nf q) = 0) : rFt q = 0 ∧ rNx (tOnly I du nf q) = rNx q + 1 := by
  unfold tOnly at h ⊢
  split at h
  · rename_i e
    rw [if_pos e]
    exact ⟨tk_ft0 h, tk_nx h⟩
  · exact absurd h (rFail_ft hn)
theorem on_ok {I : List Nat} {du nf : Int32} {q : RS} (h : FtOk q) (hn : ¬ nf < 0) : FtOk (tOnly I du nf q) := by
  unfold tOnly; split
  · exact tTake_ok h
  · exact rFail_ok (tTake_ok h) hn
theorem tMk_nx {I : List Nat} : ∀ j, rFt (tMk I j) = 0 → rNx (tMk I j) = j := by
  intro j
  induction j with
  | zero => intro _; rfl
  | succ j ih =>
    intro h
    have h2 := on_nx (by decide) h
    show rNx (tOnly I (duAt j) 2 (tMk I j)) = j + 1
    rw [h2.2, ih h2.1]
theorem tMk_ok {I : List Nat} : ∀ j, FtOk (tMk I j) := by
  intro j
  induction j with
  | zero => exact ok0 rfl
  | succ j ih => exact on_ok ih (by decide)
theorem tPlace_ok {I : List Nat} {q : RS} (h : FtOk q) : FtOk (tPlace I q).2 := by rw [← tPlace_2]; exact tTake_ok (tTake_ok h)
theorem tk_m1 {I : List Nat} {mo : Int32} {q : RS} (h : ¬ rFt (tTake I mo q).2 = 0) : (tTake I mo q).1 = -1 := by
  by_cases h0 : rFt q = 0
  · by_cases h1 : kGetB I (nI (rNx q)) = -1
    · rw [tTake_e h0 h1]
    · by_cases h2 : kGetB I (nI (rNx q)) ≤ mo
      · rw [tTake_k h0 h1 h2] at h; exact absurd h0 h
      · rw [tTake_b h0 h1 h2]
  · rw [tTake_f h0]
/-- between the groups -/
def LI (I : List Nat) (n : Nat) (N : List Int32) (q : RS) (bf : Nat) : Prop := (rFt q = 0 → (tGroups I n N q = tQ3 I ∧ bf = rAn q ∧ (rAn q = 0 → N = []) ∧ (0 < rAn q → 0 < N.length) ∧ rAn q ≤ 63 ∧ 1025 ≤ n + N.length)) ∧ (¬ rFt q = 0 → tQ3 I = (N, q))
theorem LI_00 {I : List Nat} {q : RS} {T : List Int32 × RS} (hT : T = tQ3 I) (he : tGroups I 1025 [] q = T) (han : rAn q = 0) : LI I 1025 [] q 0 := by
  refine ⟨fun _ => ?_, fun h => ?_⟩
  · rw [← hT]
    exact ⟨he, han.symm, fun _ => rfl, fun h => by rw [han] at h; exact absurd h (by decide), by rw [han]; decide, Nat.le_refl _⟩
  · rw [← hT, ← he]
    have e := tTake_f (L := I) (mo := 255) h
    have hb : (tTake I 255 q).1 = -1 ∨ (tTake I 255 q).1 = 0 := Or.inl (by rw [e])
    have e2 := tGroups_step (L := I) (M := ([] : List Int32)) (q := q) (n := 0) (by decide)
    rw [Nat.sub_zero] at e2
    rw [e2, tGroup_0 hb, e]
    dsimp only
    rw [if_pos rfl]
theorem LI_0 (I : List Nat) : LI I 1025 [] (tQ2 I) 0 := by
  have h1 := tQ3_def I
  have h2 := tQ2_an I
  generalize hq : tQ2 I = q at h1 h2 ⊢
  generalize hT : tQ3 I = T at h1
  exact LI_00 hT.symm h1 h2
theorem LI_use {I : List Nat} {n : Nat} {N : List Int32} {q : RS} {bf : Nat} (h : LI I n N q bf) (h0 : rFt q = 0) : tGroups I n N q = tQ3 I ∧ bf = rAn q ∧ (rAn q = 0 → N = []) ∧ (0 < rAn q → 0 < N.length) ∧ rAn q ≤ 63 ∧ 1025 ≤ n + N.length := h.1 h0
theorem LI_end {I : List Nat} {n : Nat} {N : List Int32} {q : RS} {bf : Nat} (h : LI I n N q bf) (hl : N.length ≤ 1024) (hb : (tTake I 255 q).1 = -1 ∨ (tTake I 255 q).1 = 0) : tQ3 I = (N, (tTake I 255 q).2) := by
  by_cases h0 : rFt q = 0
  · have u := LI_use h h0
    obtain ⟨m, rfl⟩ : ∃ m, n = m + 1 := ⟨n - 1, by omega⟩
    rw [← u.1, tGroups, tGroup_0 hb, if_pos rfl]
  · rw [tTake_f h0]; exact h.2 h0
theorem tG_kN {I : List Nat} {N : List Int32} {q : RS} (h5 : rFt (tG5 I N q) = 0) : kN (tTake I 255 q).1 ≠ 0 := by
  intro z
  refine tG5_ft (M := N) ?_ h5
  rw [tG3_y (by rw [z]; exact Nat.zero_le _), tG2_y z]
  exact rFail_ft (by decide)
theorem LI_step {I : List Nat} {n : Nat} {N : List Int32} {q : RS} {bf : Nat} (h : LI I n N q bf) (hl : N.length ≤ 1024) (h0 : rFt (tTake I 255 q).2 = 0) (hb : ¬ ((tTake I 255 q).1 = -1 ∨ (tTake I 255 q).1 = 0)) : LI I (n - 1) (tGroup I N q).2.1 (tGroup I N q).2.2 (kN (tTake I 255 q).1) := by
  have u := LI_use h (tk_ft0 h0)
  obtain ⟨m, rfl⟩ : ∃ m, n = m + 1 := ⟨n - 1, by omega⟩
  have e := u.1
  rw [tGroups] at e
  by_cases h5 : rFt (tG5 I N q) = 0
  · have hk := tG_kN h5
    have h63 := kN_le (tTake I 255 q).1
    rw [tGroup_k hb h5] at e ⊢
    dsimp only at e ⊢
    rw [if_neg (by decide)] at e
    refine ⟨fun _ => ⟨e, rfl, fun z => absurd z hk, fun _ => ?_, h63, ?_⟩, fun z => absurd h5 z⟩
    · rw [List.length_append, List.length_replicate]; omega
    · have := u.2.2.2.2.2
      rw [List.length_append, List.length_replicate]; omega
  · rw [tGroup_f hb h5] at e ⊢
    dsimp only at e ⊢
    rw [if_pos rfl] at e
    exact ⟨fun z => absurd z h5, fun _ => e.symm⟩
theorem tG5_ok {I : List Nat} {N : List Int32} {q : RS} (h0 : rFt (tTake I 255 q).2 = 0) : FtOk (tG5 I N q) := by
  have h3 := tG3_ok (N := N) h0
  have h4 : FtOk (tG4 I N q).2 := by
    unfold tG4
    by_cases h8 : (tTake I 255 q).1 &&& 128 = 0
    · rw [tCode_s h8]; exact tTake_ok h3
    · rw [tCode_w h8]; split
      · exact rFail_ok (tTake_ok (tTake_ok (tTake_ok h3))) (by decide)
      · exact tTake_ok (tTake_ok (tTake_ok h3))
  unfold tG5; split
  · exact rFail_ok h4 (by decide)
  · exact h4
theorem tGroup_ok {I : List Nat} {N : List Int32} {q : RS} (h0 : rFt (tTake I 255 q).2 = 0) (hb : ¬ ((tTake I 255 q).1 = -1 ∨ (tTake I 255 q).1 = 0)) : FtOk (tGroup I N q).2.2 := by
  by_cases h5 : rFt (tG5 I N q) = 0
  · rw [tGroup_k hb h5]; exact ok0 h5
  · rw [tGroup_f hb h5]; exact tG5_ok h0
def tCj (I : List Nat) (x : Int32) (q : RS) : Nat → RS
  | 0 => q
  | j + 1 => tOnly I (kByteOf x (3 - j)) 6 (tCj I x q j)
theorem tCj_4 (I : List Nat) : tCj I (kChk (I.take (rNx (tQ3 I).2))) (tQ3 I).2 4 = tQ4 I := by
  rw [← tQ4_def]; unfold tCheck; rw [tCj, tCj, tCj, tCj, tCj]
theorem tCj_nx {I : List Nat} {x : Int32} {q : RS} : ∀ j, rFt (tCj I x q j) = 0 → rFt q = 0 ∧ rNx (tCj I x q j) = rNx q + j := by
  intro j
  induction j with
  | zero => intro h; exact ⟨h, rfl⟩
  | succ j ih =>
    intro h
    have h2 := on_nx (by decide) h
    have h3 := ih h2.1
    refine ⟨h3.1, ?_⟩
    show rNx (tOnly I (kByteOf x (3 - j)) 6 (tCj I x q j)) = rNx q + (j + 1)
    rw [h2.2, h3.2]; omega
theorem tCj_ok {I : List Nat} {x : Int32} {q : RS} (h : FtOk q) : ∀ j, FtOk (tCj I x q j) := by
  intro j
  induction j with
  | zero => exact h
  | succ j ih => exact on_ok ih (by decide)
theorem kByte_cb {a b : Nat} (ha : a < 65536) (hb : b < 65536) {j : Nat} (hj : j < 4) : kByteOf (nI b <<< ((16 : Int32) &&& 31) ||| nI a) (3 - j) = nI (kCB a b j) := by
  have e : nI b <<< ((16 : Int32) &&& 31) ||| nI a = nI (b * 2 ^ 16 + a) := by
    have e1 : nI b <<< ((16 : Int32) &&& 31) = nI (b * 2 ^ 16) := pk_shlN _ 16 (by decide) (by omega)
    rw [e1, nx_add (by omega)]
  rw [e]
  unfold kByteOf
  have hs : ∀ k, k < 4 → (((nI (8 * k)).toUInt32 &&& Int32.toUInt32 31).toBitVec % 32).toNat = 8 * k := by decide +kernel
  rw [pk_ushrN (by omega) _ (8 * (3 - j)) (hs _ (by omega))]
  have h2 : ∀ n, n < 2 ^ 32 → nI n &&& 255 = nI (n % 256) := fun n hn => pk_andN hn 8 (by decide)
  rw [h2 _ (by have := Nat.div_le_self (b * 2 ^ 16 + a) (2 ^ (8 * (3 - j))); omega)]
  congr 1
  unfold kCB
  rcases (show j = 0 ∨ j = 1 ∨ j = 2 ∨ j = 3 by omega) with rfl | rfl | rfl | rfl
  · rw [if_pos (by decide), if_pos (by decide)]; omega
  · rw [if_pos (by decide), if_neg (by decide)]; omega
  · rw [if_neg (by decide), if_pos (by decide)]; omega
  · rw [if_neg (by decide), if_neg (by decide)]; omega
/-- the byte that is due, where there is no fault yet -/
theorem due_eq {I : List Nat} {z : RS} {p a b j : Nat} (h : RM I z p a b) (h0 : rFt z = 0) (hj : j < 4) : kByteOf (kChk (I.take (rNx z))) (3 - j) = nI (kCB a b j) := by
  have u := h.2.2.2 h0
  rw [← u.1]
  unfold kChk
  rw [u.2]
  have h1 := h.2.1
  have h2 := h.2.2.1
  exact kByte_cb (by omega) (by omega) hj
theorem end_f {I : List Nat} {q : RS} (h : ¬ rFt q = 0) : tEnd I q = q := by
  unfold tEnd; split
  · exact rFail_n h
  · rfl
theorem tRead_2 (I : List Nat) : (tRead I).2 = tEnd I (tQ4 I) := by unfold tRead; dsimp only
theorem end_ft {I : List Nat} {q : RS} (h : rFt (tEnd I q) = 0) : rFt q = 0 := by
  apply Decidable.byContradiction
  intro z
  rw [end_f z] at h; exact z h
theorem on_ft0 {I : List Nat} {du nf : Int32} {q : RS} (h : rFt (tOnly I du nf q) = 0) : rFt q = 0 := by
  apply Decidable.byContradiction
  intro z
  have h2 := tTake_ft (L := I) (mo := 255) z
  rw [on_f h2] at h; exact h2 h
theorem tGs_ft {I : List Nat} : ∀ n N q, rFt (tGroups I n N q).2 = 0 → rFt q = 0 := by
  intro n
  induction n with
  | zero => intro N q h; exact h
  | succ n ih =>
    intro N q h
    apply Decidable.byContradiction
    intro z
    have e := tTake_f (L := I) (mo := 255) z
    have hb : (tTake I 255 q).1 = -1 ∨ (tTake I 255 q).1 = 0 := Or.inl (by rw [e])
    rw [tGroups, tGroup_0 hb, if_pos rfl, e] at h
    exact z h
/-- without a fault at the end there was none behind the start -/
theorem read_ft {I : List Nat} (h : rFt (tRead I).2 = 0) : rFt (tQ2 I) = 0 := by
  rw [tRead_2] at h
  have h4 := end_ft h
  rw [← tCj_4] at h4
  have h3 := (tCj_nx 4 h4).1
  rw [← tQ3_def] at h3
  exact tGs_ft _ _ _ h3
theorem okG3 {I : List Nat} {N : List Int32} {q : RS} (h : FtOk q) : FtOk (tG3 I N q) := by
  have h2 : FtOk (tG2 I q) := by
    unfold tG2; split
    · exact rFail_ok (tTake_ok h) (by decide)
    · exact tTake_ok h
  unfold tG3; split
  · exact h2
  · exact rFail_ok h2 (by decide)
theorem okG5 {I : List Nat} {N : List Int32} {q : RS} (h : FtOk q) : FtOk (tG5 I N q) := by
  have h3 := okG3 (I := I) (N := N) h
  have h4 : FtOk (tG4 I N q).2 := by
    unfold tG4
    by_cases h8 : (tTake I 255 q).1 &&& 128 = 0
    · rw [tCode_s h8]; exact tTake_ok h3
    · rw [tCode_w h8]; split
      · exact rFail_ok (tTake_ok (tTake_ok (tTake_ok h3))) (by decide)
      · exact tTake_ok (tTake_ok (tTake_ok h3))
  unfold tG5; split
  · exact rFail_ok h4 (by decide)
  · exact h4
theorem okG {I : List Nat} {N : List Int32} {q : RS} (h : FtOk q) : FtOk (tGroup I N q).2.2 := by
  by_cases hb : (tTake I 255 q).1 = -1 ∨ (tTake I 255 q).1 = 0
  · rw [tGroup_0 hb]; exact tTake_ok h
  · by_cases h5 : rFt (tG5 I N q) = 0
    · rw [tGroup_k hb h5]; exact ok0 h5
    · rw [tGroup_f hb h5]; exact okG5 h
theorem okGs {I : List Nat} : ∀ n N q, FtOk q → FtOk (tGroups I n N q).2 := by
  intro n
  induction n with
  | zero => intro N q h; exact h
  | succ n ih =>
    intro N q h
    rw [tGroups]; split
    · exact okG h
    · exact ih _ _ (okG h)
theorem okQ2 (I : List Nat) : FtOk (tQ2 I) := by
  have h1 : FtOk (tQ1 I) := by rw [← tMk_3]; exact tMk_ok 3
  rw [← tQ2_def, ← tS4_def]
  refine tTake_ok ?_
  rw [← tS3_def]
  refine tTake_ok ?_
  rw [← tS2_def]
  refine tPlace_ok ?_
  rw [← tS1_def]
  exact tPlace_ok h1
theorem okQ3 (I : List Nat) : FtOk (tQ3 I).2 := by rw [← tQ3_def]; exact okGs _ _ _ (okQ2 I)
theorem HoldQ_upd {f : Nat → Int32} {a b c d x y g t : Int32} (h1 : a = x) (h2 : b = y) (h3 : c = g) (h4 : d = t) : HoldQ (upd (upd (upd (upd f 0 a) 1 b) 2 c) 3 d) (x, y, g, t) := by
  subst h1 h2 h3 h4; exact ⟨rfl, rfl, rfl, rfl⟩
