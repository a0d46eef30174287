/-! Pure words of READING on the reference's side: its state beside the class's q -/
/-- p, fault, place, a, b of the reference against the class's q: the faults are one; without one the places and the sums agree -/
def RM (I : List Nat) (q : RS) (pp a b : Nat) : Prop := pp ≤ I.length ∧ a < 65521 ∧ b < 65521 ∧ (rFt q = 0 → pp = rNx q ∧ kCk (I.take pp) (1, 0) = (a, b))
/-- a fault is a number from 0 to 7 -/
def FtOk (q : RS) : Prop := ¬ rFt q < 0
theorem rFail_ok {nf p0 : Int32} {q : RS} (h : FtOk q) (hn : ¬ nf < 0) : FtOk (rFail nf p0 q) := by
  unfold FtOk at *
  by_cases h0 : rFt q = 0
  · rw [rFail_y h0]; exact hn
  · rw [rFail_n h0]; exact h
theorem tTake_ok {L : List Nat} {mo : Int32} {q : RS} (h : FtOk q) : FtOk (tTake L mo q).2 := by
  by_cases h0 : rFt q = 0
  · by_cases h1 : kGetB L (nI (rNx q)) = -1
    · rw [tTake_e h0 h1]; exact rFail_ok h (by decide)
    · by_cases h2 : kGetB L (nI (rNx q)) ≤ mo
      · rw [tTake_k h0 h1 h2]; exact h
      · rw [tTake_b h0 h1 h2]; exact rFail_ok h (by decide)
  · rw [tTake_f h0]; exact h
theorem ft_pos {q : RS} (h : FtOk q) (h0 : ¬ rFt q = 0) : ¬ rFt q ≤ 0 := by
  unfold FtOk at h
  intro hle
  apply h0
  apply Int32.toInt_inj.mp
  rw [k32_le] at hle; rw [k32_lt] at h
  have e0 : (0 : Int32).toInt = 0 := by decide
  omega
theorem kGetB_end {I : List Nat} {n : Nat} (h : I.length ≤ n) (hn : n < 2 ^ 31) : kGetB I (nI n) = -1 := by rw [kGetB_nI hn, List.getElem?_eq_none h]; rfl
theorem kGetB_b {I : List Nat} {n : Nat} (h : n < I.length) (hn : n < 2 ^ 31) : kGetB I (nI n) = nI (I.getD n 0) := kGetB_at h hn
theorem nI_ne_m1 {n : Nat} (h : n < 2 ^ 31) : ¬ nI n = -1 := by
  intro q
  have h1 := nI_toInt h
  rw [q] at h1
  have e : (-1 : Int32).toInt = -1 := by decide
  rw [e] at h1; omega
/-- next() in the words of the class's take(255) -/
theorem tk_end {I : List Nat} {q : RS} (h0 : rFt q = 0) (h : I.length ≤ rNx q) (hn : rNx q < 2 ^ 31) : tTake I 255 q = (-1, rFail 1 (nI (rNx q)) q) := tTake_e h0 (kGetB_end h hn)
theorem tk_ok {I : List Nat} {q : RS} {mo : Int32} (hb : Byt I) (h0 : rFt q = 0) (h : rNx q < I.length) (hn : I.length ≤ 8192) (hm : nI (I.getD (rNx q) 0) ≤ mo) : tTake I mo q = (nI (I.getD (rNx q) 0), (rNx q + 1, rAn q, rFt q, rPl q)) := by
  have e := kGetB_b h (by omega)
  have hl := Byt.getD hb (rNx q)
  have := tTake_k (L := I) (mo := mo) h0 (by rw [e]; exact nI_ne_m1 (by omega)) (by rw [e]; exact hm)
  rw [e] at this; exact this
theorem tk_big {I : List Nat} {q : RS} {mo : Int32} (hb : Byt I) (h0 : rFt q = 0) (h : rNx q < I.length) (hn : I.length ≤ 8192) (hm : ¬ nI (I.getD (rNx q) 0) ≤ mo) : tTake I mo q = (-1, rFail 3 (nI (rNx q)) q) := by
  have e := kGetB_b h (by omega)
  have hl := Byt.getD hb (rNx q)
  exact tTake_b h0 (by rw [e]; exact nI_ne_m1 (by omega)) (by rw [e]; exact hm)
theorem byte255 {n : Nat} (h : n < 256) : nI n ≤ 255 := nI_le (b := 255) (by omega) (by decide)
theorem RM.fail {I : List Nat} {q : RS} {pp a b : Nat} {nf p0 : Int32} (h : RM I q pp a b) (hn : nf ≠ 0) : RM I (rFail nf p0 q) pp a b :=
  ⟨h.1, h.2.1, h.2.2.1, fun z => absurd z (rFail_ft hn)⟩
/-- the answer v of next(): 0 to 255, the class's where there is no fault -/
def NV (I : List Nat) (mo : Int32) (q : RS) (k : Nat) : Prop := k < 256 ∧ (rFt (tTake I mo q).2 = 0 → nI k = (tTake I mo q).1)
theorem tk_ft0 {I : List Nat} {mo : Int32} {q : RS} (h : rFt (tTake I mo q).2 = 0) : rFt q = 0 := Decidable.byContradiction (fun z => tTake_ft z h)

theorem up_A {I : List Nat} {mo : Int32} {q : RS} (hb : Byt I) (hn : I.length ≤ 8192) (hq : rFt q = 0 → rNx q ≤ I.length) (h : ¬ rFt (tTake I 255 q).2 = 0) : (tTake I mo q).2 = (tTake I 255 q).2 := by
  by_cases h0 : rFt q = 0
  · rcases Nat.lt_or_ge (rNx q) I.length with h1 | h1
    · exfalso
      rw [tk_ok hb h0 h1 hn (byte255 (Byt.getD hb _))] at h
      exact h h0
    · have hl := hq h0
      rw [tTake_e h0 (kGetB_end h1 (by omega)), tTake_e h0 (kGetB_end h1 (by omega))]
  · rw [tTake_f h0, tTake_f h0]
theorem up_B {I : List Nat} {mo : Int32} {q : RS} (hb : Byt I) (hn : I.length ≤ 8192) (hq : rFt q = 0 → rNx q ≤ I.length) (h : rFt (tTake I 255 q).2 = 0) (hm : (tTake I 255 q).1 ≤ mo) : tTake I mo q = tTake I 255 q := by
  have h0 := tk_ft0 h
  rcases Nat.lt_or_ge (rNx q) I.length with h1 | h1
  · have e := tk_ok (mo := 255) hb h0 h1 hn (byte255 (Byt.getD hb _))
    rw [e] at hm ⊢
    exact tk_ok hb h0 h1 hn hm
  · exfalso
    have hl := hq h0
    rw [tTake_e h0 (kGetB_end h1 (by omega))] at h
    exact rFail_ft (by decide) h
theorem up_C {I : List Nat} {mo : Int32} {q : RS} (hb : Byt I) (hn : I.length ≤ 8192) (hq : rFt q = 0 → rNx q ≤ I.length) (h : rFt (tTake I 255 q).2 = 0) (hm : ¬ (tTake I 255 q).1 ≤ mo) : tTake I mo q = (-1, rFail 3 (nI (rNx q)) q) := by
  have h0 := tk_ft0 h
  rcases Nat.lt_or_ge (rNx q) I.length with h1 | h1
  · have e := tk_ok (mo := 255) hb h0 h1 hn (byte255 (Byt.getD hb _))
    rw [e] at hm
    exact tk_big hb h0 h1 hn hm
  · exfalso
    have hl := hq h0
    rw [tTake_e h0 (kGetB_end h1 (by omega))] at h
    exact rFail_ft (by decide) h
theorem tk_nx {I : List Nat} {mo : Int32} {q : RS} (h : rFt (tTake I mo q).2 = 0) : rNx (tTake I mo q).2 = rNx q + 1 := by
  have h0 := tk_ft0 h
  by_cases h1 : kGetB I (nI (rNx q)) = -1
  · rw [tTake_e h0 h1] at h; exact absurd h (rFail_ft (by decide))
  · by_cases h2 : kGetB I (nI (rNx q)) ≤ mo
    · rw [tTake_k h0 h1 h2]; rfl
    · rw [tTake_b h0 h1 h2] at h; exact absurd h (rFail_ft (by decide))
theorem RM.nx {I : List Nat} {q : RS} {pp a b : Nat} (h : RM I q pp a b) : rFt q = 0 → rNx q ≤ I.length := fun z => by rw [← (h.2.2.2 z).1]; exact h.1
theorem tPlace_2 (I : List Nat) (q : RS) : (tTake I 255 (tTake I 255 q).2).2 = (tPlace I q).2 := by unfold tPlace; dsimp only
theorem tPlace_1 (I : List Nat) (q : RS) : (tPlace I q).1 = kPlace (tTake I 255 q).1 (tTake I 255 (tTake I 255 q).2).1 := by unfold tPlace; dsimp only
theorem RM.to {I : List Nat} {q q2 : RS} {pp a b : Nat} (h : RM I q pp a b) (he : rFt q2 = 0 → q2 = q) : RM I q2 pp a b :=
  ⟨h.1, h.2.1, h.2.2.1, fun z => by have e := he z; rw [e] at z ⊢; exact h.2.2.2 z⟩
