/-! Pure words: rows of ints and of bytes as lists, an INPUT's code, groups, check. -/
def Hold (f : Nat → Int32) (L : List Int32) : Prop := ∀ (i : Nat) (h : i < L.length), f i = L[i]
theorem Hold.nil {f : Nat → Int32} : Hold f [] := fun i h => absurd h (Nat.not_lt_zero i)
theorem Hold.push {f : Nat → Int32} {L : List Int32} (h : Hold f L) (c : Int32) : Hold (upd f L.length c) (L ++ [c]) := by
  intro i hi
  simp only [List.length_append, List.length_cons, List.length_nil] at hi
  by_cases hc : i = L.length
  · subst hc; simp [upd]
  · have h2 : i < L.length := by omega
    rw [List.getElem_append_left h2]
    simp only [upd, if_neg hc]
    exact h i h2
theorem Hold.take {f : Nat → Int32} {L : List Int32} (h : Hold f L) (n : Nat) : Hold f (L.take n) := by
  intro i hi
  rw [List.getElem_take]
  exact h i _
theorem Hold.at {f : Nat → Int32} {L : List Int32} (h : Hold f L) {j : Nat} (hj : j < L.length) : f j = (L[j]?).getD (-1) := by
  rw [List.getElem?_eq_getElem hj]; exact h j hj
/-- the row's place i, -1 where there is none -/
def kGet (L : List Int32) (i : Int32) : Int32 := if i < 0 then -1 else (L[i.toNatClampNeg]?).getD (-1)
theorem kGet_nI {L : List Int32} {j : Nat} (hj : j < 2 ^ 31) : kGet L (nI j) = (L[j]?).getD (-1) := by
  unfold kGet; rw [if_neg (nI_pos hj), nI_clamp hj]
theorem kGet_neg {L : List Int32} {i : Int32} (h : i < 0) : kGet L i = -1 := by unfold kGet; rw [if_pos h]
/-- bytes -/
def HoldB (f : Nat → Int32) (L : List Nat) : Prop := ∀ (i : Nat) (h : i < L.length), f i = sb_b L[i]
def Byt (L : List Nat) : Prop := ∀ b ∈ L, b < 256
theorem HoldB.nil {f : Nat → Int32} : HoldB f [] := fun i h => absurd h (Nat.not_lt_zero i)
theorem HoldB.push {f : Nat → Int32} {L : List Nat} (h : HoldB f L) {b : Nat} {x : Int32} (hx : x = sb_b b) : HoldB (upd f L.length x) (L ++ [b]) := by
  intro i hi
  simp only [List.length_append, List.length_cons, List.length_nil] at hi
  by_cases hc : i = L.length
  · subst hc; simp [upd, hx]
  · have h2 : i < L.length := by omega
    rw [List.getElem_append_left h2]
    simp only [upd, if_neg hc]
    exact h i h2
theorem HoldB.take {f : Nat → Int32} {L : List Nat} (h : HoldB f L) (n : Nat) : HoldB f (L.take n) := by
  intro i hi
  rw [List.getElem_take]
  exact h i _
theorem HoldB.set {f : Nat → Int32} {L : List Nat} (h : HoldB f L) {k b : Nat} {x : Int32} (hx : x = sb_b b) : HoldB (upd f k x) (L.set k b) := by
  intro i hi
  simp only [List.length_set] at hi
  rw [List.getElem_set]
  by_cases hc : i = k
  · subst hc; simp [upd, hx]
  · rw [if_neg (fun q => hc q.symm)]
    simp only [upd, if_neg hc]
    exact h i hi
theorem HoldB.cpy {f g : Nat → Int32} {L : List Nat} (h : HoldB f L) : HoldB (va_cpy f g 0 0 L.length) L := by
  intro i hi
  rw [sb_cpy0 hi]
  exact h i hi
theorem Byt.nil : Byt [] := fun b h => absurd h List.not_mem_nil
theorem Byt.app {L M : List Nat} (h : Byt L) (h2 : Byt M) : Byt (L ++ M) := by
  intro b hb
  rcases List.mem_append.mp hb with q | q
  · exact h b q
  · exact h2 b q
theorem Byt.take {L : List Nat} (h : Byt L) (n : Nat) : Byt (L.take n) := fun b hb => h b (List.mem_of_mem_take hb)
theorem Byt.set {L : List Nat} (h : Byt L) {k b : Nat} (hb : b < 256) : Byt (L.set k b) := by
  intro x hx
  rcases List.mem_or_eq_of_mem_set hx with q | q
  · exact h x q
  · rw [q]; exact hb
def kGetB (L : List Nat) (i : Int32) : Int32 := if i < 0 then -1 else ((L[i.toNatClampNeg]?).map nI).getD (-1)
theorem kGetB_nI {L : List Nat} {j : Nat} (hj : j < 2 ^ 31) : kGetB L (nI j) = ((L[j]?).map nI).getD (-1) := by
  unfold kGetB; rw [if_neg (nI_pos hj), nI_clamp hj]
theorem kGetB_neg {L : List Nat} {i : Int32} (h : i < 0) : kGetB L i = -1 := by unfold kGetB; rw [if_pos h]
theorem HoldB.at {f : Nat → Int32} {L : List Nat} (h : HoldB f L) (hb : Byt L) {j : Nat} (hj : j < L.length) : f j &&& 255 = ((L[j]?).map nI).getD (-1) := by
  rw [List.getElem?_eq_getElem hj, h j hj]
  exact (sb_byte _ (hb _ (List.getElem_mem hj))).1
/-- the lowest n bytes of V, the highest of them first -/
def lowB (V : Nat) : Nat → List Nat
  | 0 => []
  | k + 1 => (V / 2 ^ (8 * k) % 256) :: lowB V k
theorem lowB_len (V n : Nat) : (lowB V n).length = n := by
  induction n with
  | zero => rfl
  | succ n ih => simp [lowB, ih]
theorem lowB_byt (V n : Nat) : Byt (lowB V n) := by
  induction n with
  | zero => exact Byt.nil
  | succ n ih =>
    intro b hb
    rcases List.mem_cons.mp hb with q | q
    · rw [q]; exact Nat.mod_lt _ (by decide)
    · exact ih b q
def lNat (v : Int64) : Nat := uN v
/-- codes -/
def kCode (u a b t : Int32) : Int32 := (((if u = 0 then 0 else 16777216) ||| a <<< ((16 : Int32) &&& 31)) ||| b <<< ((8 : Int32) &&& 31)) ||| t
def kUse (c : Int32) : Int32 := if c &&& 16777216 = 0 then 0 else 1
def kAhead (c : Int32) : Int32 := c >>> ((16 : Int32) &&& 31) &&& 255
def kAside (c : Int32) : Int32 := c >>> ((8 : Int32) &&& 31) &&& 255
def kTurn (c : Int32) : Int32 := c &&& 255
def kSide (c : Int32) : Int32 := if kAside c = 64 ∧ kTurn c = 16 then 0 else 1
def kStart (x y g t w : Int32) : Int32 := if w = 0 then x else if w = 1 then y else if w = 2 then g else if w = 3 then t else 100000
/-- how many of them use -/
def kUses (L : List Int32) : Nat := L.countP (fun c => decide (kUse c ≠ 0))
/-- the groups, from a run of n of the first one's like on -/
def kGr : Nat → List Int32 → List (Int32 × Nat)
  | _, [] => []
  | n, c :: cs => if n + 1 = 63 ∨ (cs[0]?).getD (-1) ≠ c then (c, n + 1) :: kGr 0 cs else kGr (n + 1) cs
/-- a group's bytes -/
def kGB (q : Int32 × Nat) : List Nat := lowB (lNat ((nI q.2 + (if kUse q.1 = 0 then 0 else 64)) + (if kSide q.1 = 0 then 0 else 128)).toInt64) 1 ++ lowB (lNat (kAhead q.1).toInt64) 1 ++ (if kSide q.1 = 0 then [] else lowB (lNat (kAside q.1).toInt64) 1 ++ lowB (lNat (kTurn q.1).toInt64) 1)
/-- the check's two numbers -/
def kCk : List Nat → Nat × Nat → Nat × Nat
  | [], q => q
  | b :: bs, q => kCk bs ((q.1 + b) % 65521, (q.2 + (q.1 + b) % 65521) % 65521)
def kChk (L : List Nat) : Int32 := nI (kCk L (1, 0)).2 <<< ((16 : Int32) &&& 31) ||| nI (kCk L (1, 0)).1
theorem kCk_snoc (L : List Nat) (b : Nat) : ∀ q, kCk (L ++ [b]) q = (((kCk L q).1 + b) % 65521, ((kCk L q).2 + ((kCk L q).1 + b) % 65521) % 65521) := by
  induction L with
  | nil => intro q; rfl
  | cons x xs ih => intro q; simp only [List.cons_append, kCk]; exact ih _
theorem kCk_lt (L : List Nat) : ∀ q : Nat × Nat, q.1 < 65521 → q.2 < 65521 → (kCk L q).1 < 65521 ∧ (kCk L q).2 < 65521 := by
  induction L with
  | nil => intro q h1 h2; exact ⟨h1, h2⟩
  | cons x xs ih => intro q h1 h2; exact ih _ (Nat.mod_lt _ (by decide)) (Nat.mod_lt _ (by decide))
def kIn (v lo hi : Int32) : Int32 := if lo ≤ v ∧ v ≤ hi then 1 else 0
def WRow (f : Nat → Int32) (L : List Int32) : Prop := Hold f L ∧ L.length ≤ 1024
def BRow (cap : Nat) (f : Nat → Int32) (L : List Nat) : Prop := HoldB f L ∧ Byt L ∧ L.length ≤ cap ∧ cap ≤ 8192
theorem BRow.push {cap : Nat} {f : Nat → Int32} {L : List Nat} (h : BRow cap f L) {b : Nat} {x : Int32} (hx : x = sb_b b) (hb : b < 256) (hl : L.length + 1 ≤ cap) : BRow cap (upd f L.length x) (L ++ [b]) :=
  ⟨h.1.push hx, h.2.1.app (fun z hz => by rw [List.mem_singleton.mp hz]; exact hb), by rw [List.length_append]; exact hl, h.2.2.2⟩
theorem kStart_out {x y g t w : Int32} (h : w.toInt < 0 ∨ 3 < w.toInt) : kStart x y g t w = 100000 := by
  unfold kStart
  have k : ∀ n : Int32, 0 ≤ n.toInt → n.toInt ≤ 3 → w ≠ n := fun n h1 h2 q => by rw [q] at h; omega
  rw [if_neg (k 0 (by decide) (by decide)), if_neg (k 1 (by decide) (by decide)), if_neg (k 2 (by decide) (by decide)), if_neg (k 3 (by decide) (by decide))]
theorem kTake_0 {L : List Int32} {ia : Nat} : L ++ (L.drop ia).take 0 = L := by rw [List.take_zero, List.append_nil]
theorem kTake_succ {L : List Int32} {ia j : Nat} (h : ia + j < L.length) : (L ++ (L.drop ia).take j) ++ List.replicate 1 ((L[ia + j]?).getD (-1)) = (L ++ (L.drop ia).take (j + 1)) := by
  rw [List.append_assoc]
  congr 1
  have h2 : j < (L.drop ia).length := by rw [List.length_drop]; omega
  rw [List.take_succ_eq_append_getElem h2, List.getElem?_eq_getElem h]
  simp
theorem drop_cons {L : List Int32} {j : Nat} (h : j < L.length) : L.drop j = (L[j]?).getD (-1) :: L.drop (j + 1) := by
  rw [List.getElem?_eq_getElem h]; exact List.drop_eq_getElem_cons h
theorem take_snoc {L : List Int32} {j : Nat} (h : j < L.length) : L.take (j + 1) = L.take j ++ [(L[j]?).getD (-1)] := by
  rw [List.getElem?_eq_getElem h]; exact List.take_succ_eq_append_getElem h
theorem kUses_n {L : List Int32} {j : Nat} (h : j < L.length) (h0 : kUse ((L[j]?).getD (-1)) = 0) : kUses (L.take (j + 1)) = kUses (L.take j) := by
  rw [take_snoc h]; unfold kUses; rw [List.countP_append]; simp [List.countP_cons, h0]
theorem kUses_y {L : List Int32} {j : Nat} (h : j < L.length) (h0 : ¬ kUse ((L[j]?).getD (-1)) = 0) : kUses (L.take (j + 1)) = kUses (L.take j) + 1 := by
  rw [take_snoc h]; unfold kUses; rw [List.countP_append]; simp [List.countP_cons, h0]
def kEnd (L : List Int32) (j k : Nat) : Int32 := if k = 63 ∨ (L[j + 1]?).getD (-1) ≠ (L[j]?).getD (-1) then 1 else 0
theorem kGr_n {L : List Int32} {j n : Nat} (h : j < L.length) (h0 : kEnd L j (n + 1) = 0) : kGr n (L.drop j) = kGr (n + 1) (L.drop (j + 1)) := by
  rw [drop_cons h]
  unfold kEnd at h0
  have hc : ¬ (n + 1 = 63 ∨ (L[j + 1]?).getD (-1) ≠ (L[j]?).getD (-1)) := fun q => by rw [if_pos q] at h0; exact absurd h0 (by decide)
  rw [kGr]
  rw [if_neg]
  rw [List.getElem?_drop]
  exact hc
theorem kGr_y {L : List Int32} {j n : Nat} (h : j < L.length) (h0 : ¬ kEnd L j (n + 1) = 0) : kGr n (L.drop j) = ((L[j]?).getD (-1), n + 1) :: kGr 0 (L.drop (j + 1)) := by
  rw [drop_cons h]
  unfold kEnd at h0
  have hc : (n + 1 = 63 ∨ (L[j + 1]?).getD (-1) ≠ (L[j]?).getD (-1)) := Decidable.byContradiction (fun q => h0 (if_neg q))
  rw [kGr]
  rw [if_pos]
  rw [List.getElem?_drop]
  exact hc
def iByte (b : Int32) : Nat := b.toBitVec.toNat % 256
theorem sb8 (n : Nat) : (sb_b n).toInt8.toInt32 = sb_b n := by
  have := pk_vb (nI n); rw [vp_nar_byte] at this; exact this
theorem i8_mod (x : Int32) : x.toInt8.toInt32 = sb_b (iByte x) :=
  (sc_eq (by have := pk_vb x; rwa [vp_nar_byte] at this) (Nat.mod_lt _ (by decide))).mpr ((bp_b x).trans (pk_and x 8 (by decide)))
theorem l2i_mod (y : Int64) : y.toInt32.toBitVec.toNat = uN y % 2 ^ 32 := by
  rw [Int64.toBitVec_toInt32]
  rw [BitVec.signExtend_eq_setWidth_of_le _ (by decide), BitVec.toNat_setWidth]
  rfl
theorem lNat_byte (v : Int64) (k : Nat) (hk : k < 8) : (v.toUInt64 >>> ((nI (8 * k)).toInt64.toUInt64 &&& Int64.toUInt64 63)).toInt64.toInt32.toInt8.toInt32 = sb_b (lNat v / 2 ^ (8 * k) % 256) := by
  rw [i8_mod]
  congr 1
  unfold iByte
  rw [l2i_mod, uN_sk v (by omega)]
  unfold lNat
  omega
theorem iByte_sb (v : Int32) : v.toInt8.toInt32.toInt8.toInt32 = sb_b (iByte v) := by rw [i8_mod v, sb8]
theorem kq0 {q : Nat} (h : nI q - 1 < 0) (hq : q < 2 ^ 31) : q = 0 := by
  rcases Nat.eq_zero_or_pos q with h0 | h0
  · exact h0
  · exfalso
    obtain ⟨z, rfl⟩ : ∃ z, q = z + 1 := ⟨q - 1, by omega⟩
    rw [nI_pred] at h
    exact nI_pos (by omega) h
theorem kq1 {q : Nat} (h : ¬ nI q - 1 < 0) : ∃ z, q = z + 1 := by
  rcases Nat.eq_zero_or_pos q with h0 | h0
  · subst h0; exact absurd (by decide) h
  · exact ⟨q - 1, by omega⟩
theorem kGetB_at {L : List Nat} {j : Nat} (h : j < L.length) (hj : j < 2 ^ 31) : kGetB L (nI j) = nI (L.getD j 0) := by
  rw [kGetB_nI hj, List.getElem?_eq_getElem h, List.getD_eq_getElem?_getD, List.getElem?_eq_getElem h]; rfl
theorem Byt.getD {L : List Nat} (h : Byt L) (j : Nat) : L.getD j 0 < 256 := by
  rw [List.getD_eq_getElem?_getD]
  by_cases hj : j < L.length
  · rw [List.getElem?_eq_getElem hj]; exact h _ (List.getElem_mem hj)
  · rw [List.getElem?_eq_none (by omega)]; exact (by decide : (0 : Nat) < 256)
theorem kCk_step {L : List Nat} {j a b : Nat} (he : kCk (L.take j) (1, 0) = (a, b)) (hj : j < L.length) : kCk (L.take (j + 1)) (1, 0) = ((a + L.getD j 0) % 65521, (b + (a + L.getD j 0) % 65521) % 65521) := by
  rw [List.take_succ_eq_append_getElem hj, kCk_snoc, he, List.getD_eq_getElem?_getD, List.getElem?_eq_getElem hj]; rfl
/-! READING, as the class does it: (next, n of the group ahead, fault, place) -/
abbrev RS : Type := Nat × Nat × Int32 × Int32
def rNx (q : RS) : Nat := q.1
def rAn (q : RS) : Nat := q.2.1
def rFt (q : RS) : Int32 := q.2.2.1
def rPl (q : RS) : Int32 := q.2.2.2
def rFail (nf p0 : Int32) (q : RS) : RS := if rFt q = 0 then (rNx q, rAn q, nf, p0) else q
theorem rFail_y {nf p0 : Int32} {q : RS} (h : rFt q = 0) : rFail nf p0 q = (rNx q, rAn q, nf, p0) := if_pos h
theorem rFail_n {nf p0 : Int32} {q : RS} (h : ¬ rFt q = 0) : rFail nf p0 q = q := if_neg h
theorem rFail_nx (nf p0 : Int32) (q : RS) : rNx (rFail nf p0 q) = rNx q := by unfold rFail; split <;> rfl
theorem rFail_an (nf p0 : Int32) (q : RS) : rAn (rFail nf p0 q) = rAn q := by unfold rFail; split <;> rfl
def tTake (L : List Nat) (mo : Int32) (q : RS) : Int32 × RS := if rFt q = 0 then (if kGetB L (nI (rNx q)) = -1 then (-1, rFail 1 (nI (rNx q)) q) else if kGetB L (nI (rNx q)) ≤ mo then (kGetB L (nI (rNx q)), (rNx q + 1, rAn q, rFt q, rPl q)) else (-1, rFail 3 (nI (rNx q)) q)) else (-1, q)
theorem tTake_f {L : List Nat} {mo : Int32} {q : RS} (h : ¬ rFt q = 0) : tTake L mo q = (-1, q) := if_neg h
theorem tTake_e {L : List Nat} {mo : Int32} {q : RS} (h : rFt q = 0) (h1 : kGetB L (nI (rNx q)) = -1) : tTake L mo q = (-1, rFail 1 (nI (rNx q)) q) := by unfold tTake; rw [if_pos h, if_pos h1]
theorem tTake_b {L : List Nat} {mo : Int32} {q : RS} (h : rFt q = 0) (h1 : ¬ kGetB L (nI (rNx q)) = -1) (h2 : ¬ kGetB L (nI (rNx q)) ≤ mo) : tTake L mo q = (-1, rFail 3 (nI (rNx q)) q) := by unfold tTake; rw [if_pos h, if_neg h1, if_neg h2]
theorem tTake_k {L : List Nat} {mo : Int32} {q : RS} (h : rFt q = 0) (h1 : ¬ kGetB L (nI (rNx q)) = -1) (h2 : kGetB L (nI (rNx q)) ≤ mo) : tTake L mo q = (kGetB L (nI (rNx q)), (rNx q + 1, rAn q, rFt q, rPl q)) := by unfold tTake; rw [if_pos h, if_neg h1, if_pos h2]
theorem tTake_nx {L : List Nat} {q : RS} (mo : Int32) (hq : rNx q ≤ L.length) (hL : L.length ≤ 8192) : rNx (tTake L mo q).2 ≤ L.length := by
  by_cases h : rFt q = 0
  · by_cases h1 : kGetB L (nI (rNx q)) = -1
    · rw [tTake_e h h1]; show rNx (rFail 1 _ q) ≤ _; rw [rFail_nx]; exact hq
    · by_cases h2 : kGetB L (nI (rNx q)) ≤ mo
      · rw [tTake_k h h1 h2]
        show rNx q + 1 ≤ _
        rcases Nat.lt_or_ge (rNx q) L.length with q2 | q2
        · exact q2
        · exact absurd (by rw [kGetB_nI (by omega), List.getElem?_eq_none q2]; rfl) h1
      · rw [tTake_b h h1 h2]; show rNx (rFail 3 _ q) ≤ _; rw [rFail_nx]; exact hq
  · rw [tTake_f h]; exact hq
theorem tTake_an (L : List Nat) (mo : Int32) (q : RS) : rAn (tTake L mo q).2 = rAn q := by
  by_cases h : rFt q = 0
  · by_cases h1 : kGetB L (nI (rNx q)) = -1
    · rw [tTake_e h h1]; exact rFail_an _ _ _
    · by_cases h2 : kGetB L (nI (rNx q)) ≤ mo
      · rw [tTake_k h h1 h2]; rfl
      · rw [tTake_b h h1 h2]; exact rFail_an _ _ _
  · rw [tTake_f h]
def tOnly (L : List Nat) (due nf : Int32) (q : RS) : RS := if (tTake L 255 q).1 = due then (tTake L 255 q).2 else rFail nf (nI (rNx q)) (tTake L 255 q).2
theorem tOnly_y {L : List Nat} {due nf : Int32} {q : RS} (h : (tTake L 255 q).1 = due) : tOnly L due nf q = (tTake L 255 q).2 := if_pos h
theorem tOnly_n {L : List Nat} {due nf : Int32} {q : RS} (h : ¬ (tTake L 255 q).1 = due) : tOnly L due nf q = rFail nf (nI (rNx q)) (tTake L 255 q).2 := if_neg h
theorem tOnly_nx {L : List Nat} {q : RS} (due nf : Int32) (hq : rNx q ≤ L.length) (hL : L.length ≤ 8192) : rNx (tOnly L due nf q) ≤ L.length := by
  unfold tOnly; split
  · exact tTake_nx _ hq hL
  · rw [rFail_nx]; exact tTake_nx _ hq hL
def tMark (L : List Nat) (q : RS) : RS := tOnly L 1 2 (tOnly L 68 2 (tOnly L 77 2 q))
theorem tMark_nx {L : List Nat} {q : RS} (hq : rNx q ≤ L.length) (hL : L.length ≤ 8192) : rNx (tMark L q) ≤ L.length := tOnly_nx _ _ (tOnly_nx _ _ (tOnly_nx _ _ hq hL) hL) hL
def kPlace (h l0 : Int32) : Int32 := if h * 256 + l0 ≤ 32767 then h * 256 + l0 else h * 256 + l0 - 65536
def tPlace (L : List Nat) (q : RS) : Int32 × RS := (kPlace (tTake L 255 q).1 (tTake L 255 (tTake L 255 q).2).1, (tTake L 255 (tTake L 255 q).2).2)
theorem tPlace_nx {L : List Nat} {q : RS} (hq : rNx q ≤ L.length) (hL : L.length ≤ 8192) : rNx (tPlace L q).2 ≤ L.length := tTake_nx _ (tTake_nx _ hq hL) hL
/-- the start's four, then the state -/
def tS1 (L : List Nat) (q : RS) : RS := (tPlace L q).2
def tS2 (L : List Nat) (q : RS) : RS := (tPlace L (tS1 L q)).2
def tS3 (L : List Nat) (q : RS) : RS := (tTake L 63 (tS2 L q)).2
def tS4 (L : List Nat) (q : RS) : RS := (tTake L 255 (tS3 L q)).2
theorem tS4_nx {L : List Nat} {q : RS} (hq : rNx q ≤ L.length) (hL : L.length ≤ 8192) : rNx (tS4 L q) ≤ L.length := tTake_nx _ (tTake_nx _ (tPlace_nx (tPlace_nx hq hL) hL) hL) hL
def tCode (L : List Nat) (fi : Int32) (q : RS) : Int32 × RS :=
  let q1 := (tTake L 128 q).2
  if fi &&& 128 = 0 then (kCode (if fi &&& 64 = 0 then 0 else 1) (tTake L 128 q).1 64 16, q1)
  else
    let q2 := (tTake L 128 q1).2
    let q3 := (tTake L 32 q2).2
    (kCode (if fi &&& 64 = 0 then 0 else 1) (tTake L 128 q).1 (tTake L 128 q1).1 (tTake L 32 q2).1,
      if (tTake L 128 q1).1 = 64 ∧ (tTake L 32 q2).1 = 16 then rFail 3 (nI (rNx q2)) q3 else q3)
theorem tCode_nx {L : List Nat} {fi : Int32} {q : RS} (hq : rNx q ≤ L.length) (hL : L.length ≤ 8192) : rNx (tCode L fi q).2 ≤ L.length := by
  unfold tCode
  dsimp only
  split
  · exact tTake_nx _ hq hL
  · dsimp only
    have h3 := tTake_nx 32 (tTake_nx 128 (tTake_nx 128 hq hL) hL) hL
    split
    · rw [rFail_nx]; exact h3
    · exact h3
def kN (b : Int32) : Nat := (b &&& 63).toNatClampNeg
theorem kN_ex (b : Int32) : kN b < 64 ∧ b &&& 63 = nI (kN b) := by
  obtain ⟨j, hj, e⟩ := pk_andE b (m := 63) 6 (by decide)
  have h2 : kN b = j := by unfold kN; rw [e]; exact nI_clamp (by omega)
  rw [h2]; exact ⟨by omega, e⟩
theorem kN_eq (b : Int32) : b &&& 63 = nI (kN b) := (kN_ex b).2
theorem kN_le (b : Int32) : kN b ≤ 63 := Nat.le_of_lt_succ (kN_ex b).1
/-- a group: 1 if it goes on; the codes; the state -/
def tG2 (L : List Nat) (q : RS) : RS := if kN (tTake L 255 q).1 = 0 then rFail 3 (nI (rNx q)) (tTake L 255 q).2 else (tTake L 255 q).2
def tG3 (L : List Nat) (M : List Int32) (q : RS) : RS := if kN (tTake L 255 q).1 ≤ 1024 - M.length then tG2 L q else rFail 5 (nI (rNx q)) (tG2 L q)
def tG4 (L : List Nat) (M : List Int32) (q : RS) : Int32 × RS := tCode L (tTake L 255 q).1 (tG3 L M q)
def tG5 (L : List Nat) (M : List Int32) (q : RS) : RS := if rAn (tG4 L M q).2 < 63 ∧ kGet M (nI M.length - 1) = (tG4 L M q).1 then rFail 4 (nI (rNx q)) (tG4 L M q).2 else (tG4 L M q).2
def tGroup (L : List Nat) (M : List Int32) (q : RS) : Int32 × List Int32 × RS :=
  if (tTake L 255 q).1 = -1 ∨ (tTake L 255 q).1 = 0 then (0, M, (tTake L 255 q).2)
  else if rFt (tG5 L M q) = 0 then (1, M ++ List.replicate (kN (tTake L 255 q).1) (tG4 L M q).1, (rNx (tG5 L M q), kN (tTake L 255 q).1, rFt (tG5 L M q), rPl (tG5 L M q))) else (0, M, tG5 L M q)
def tGroups (L : List Nat) : Nat → List Int32 → RS → List Int32 × RS
  | 0, M, q => (M, q)
  | n + 1, M, q => if (tGroup L M q).1 = 0 then ((tGroup L M q).2.1, (tGroup L M q).2.2) else tGroups L n (tGroup L M q).2.1 (tGroup L M q).2.2
def kByteOf (x : Int32) (k : Nat) : Int32 := ((x.toUInt32 >>> ((nI (8 * k)).toUInt32 &&& Int32.toUInt32 31)).toInt32) &&& 255
def tCheck (L : List Nat) (q : RS) : RS :=
  let x := kChk (L.take (rNx q))
  tOnly L (kByteOf x 0) 6 (tOnly L (kByteOf x 1) 6 (tOnly L (kByteOf x 2) 6 (tOnly L (kByteOf x 3) 6 q)))
theorem tCheck_nx {L : List Nat} {q : RS} (hq : rNx q ≤ L.length) (hL : L.length ≤ 8192) : rNx (tCheck L q) ≤ L.length := tOnly_nx _ _ (tOnly_nx _ _ (tOnly_nx _ _ (tOnly_nx _ _ hq hL) hL) hL) hL
def tEnd (L : List Nat) (q : RS) : RS := if rNx q < L.length then rFail 7 (nI (rNx q)) q else q
theorem tCode_s {L : List Nat} {fi : Int32} {q : RS} (h : fi &&& 128 = 0) : tCode L fi q = (kCode (if fi &&& 64 = 0 then 0 else 1) (tTake L 128 q).1 64 16, (tTake L 128 q).2) := if_pos h
theorem tCode_v {L : List Nat} {fi : Int32} {q : RS} (h : ¬ fi &&& 128 = 0) : (tCode L fi q).1 = kCode (if fi &&& 64 = 0 then 0 else 1) (tTake L 128 q).1 (tTake L 128 (tTake L 128 q).2).1 (tTake L 32 (tTake L 128 (tTake L 128 q).2).2).1 := by unfold tCode; dsimp only; rw [if_neg h]
theorem tCode_w {L : List Nat} {fi : Int32} {q : RS} (h : ¬ fi &&& 128 = 0) : (tCode L fi q).2 = if (tTake L 128 (tTake L 128 q).2).1 = 64 ∧ (tTake L 32 (tTake L 128 (tTake L 128 q).2).2).1 = 16 then rFail 3 (nI (rNx (tTake L 128 (tTake L 128 q).2).2)) (tTake L 32 (tTake L 128 (tTake L 128 q).2).2).2 else (tTake L 32 (tTake L 128 (tTake L 128 q).2).2).2 := by unfold tCode; dsimp only; rw [if_neg h]
theorem tCode_f {L : List Nat} {fi : Int32} {q : RS} (h : ¬ fi &&& 128 = 0) (h2 : (tTake L 128 (tTake L 128 q).2).1 = 64 ∧ (tTake L 32 (tTake L 128 (tTake L 128 q).2).2).1 = 16) : (tCode L fi q).2 = rFail 3 (nI (rNx (tTake L 128 (tTake L 128 q).2).2)) (tTake L 32 (tTake L 128 (tTake L 128 q).2).2).2 := by rw [tCode_w h, if_pos h2]
theorem tCode_g {L : List Nat} {fi : Int32} {q : RS} (h : ¬ fi &&& 128 = 0) (h2 : ¬ ((tTake L 128 (tTake L 128 q).2).1 = 64 ∧ (tTake L 32 (tTake L 128 (tTake L 128 q).2).2).1 = 16)) : (tCode L fi q).2 = (tTake L 32 (tTake L 128 (tTake L 128 q).2).2).2 := by rw [tCode_w h, if_neg h2]

theorem tG2_y {L : List Nat} {q : RS} (h : kN (tTake L 255 q).1 = 0) : tG2 L q = rFail 3 (nI (rNx q)) (tTake L 255 q).2 := if_pos h
theorem tG2_n {L : List Nat} {q : RS} (h : kN (tTake L 255 q).1 ≠ 0) : tG2 L q = (tTake L 255 q).2 := if_neg h
theorem tG3_y {L : List Nat} {M : List Int32} {q : RS} (h : kN (tTake L 255 q).1 ≤ 1024 - M.length) : tG3 L M q = tG2 L q := if_pos h
theorem tG3_n {L : List Nat} {M : List Int32} {q : RS} (h : 1024 - M.length < kN (tTake L 255 q).1) : tG3 L M q = rFail 5 (nI (rNx q)) (tG2 L q) := if_neg (Nat.not_le.mpr h)
theorem tG5_y {L : List Nat} {M : List Int32} {q : RS} (h : rAn (tG4 L M q).2 < 63 ∧ kGet M (nI M.length - 1) = (tG4 L M q).1) : tG5 L M q = rFail 4 (nI (rNx q)) (tG4 L M q).2 := if_pos h
theorem tG5_n {L : List Nat} {M : List Int32} {q : RS} (h : ¬ (rAn (tG4 L M q).2 < 63 ∧ kGet M (nI M.length - 1) = (tG4 L M q).1)) : tG5 L M q = (tG4 L M q).2 := if_neg h
theorem tG2_nx {L : List Nat} {q : RS} (hq : rNx q ≤ L.length) (hL : L.length ≤ 8192) : rNx (tG2 L q) ≤ L.length := by
  unfold tG2; split
  · rw [rFail_nx]; exact tTake_nx _ hq hL
  · exact tTake_nx _ hq hL
theorem tG3_nx {L : List Nat} {M : List Int32} {q : RS} (hq : rNx q ≤ L.length) (hL : L.length ≤ 8192) : rNx (tG3 L M q) ≤ L.length := by
  unfold tG3; split
  · exact tG2_nx hq hL
  · rw [rFail_nx]; exact tG2_nx hq hL
theorem tCode_an (L : List Nat) (fi : Int32) (q : RS) : rAn (tCode L fi q).2 = rAn q := by
  by_cases h : fi &&& 128 = 0
  · rw [tCode_s h]; exact tTake_an _ _ _
  · rw [tCode_w h]
    split
    · rw [rFail_an, tTake_an, tTake_an, tTake_an]
    · rw [tTake_an, tTake_an, tTake_an]
theorem tG3_an (L : List Nat) (M : List Int32) (q : RS) : rAn (tG3 L M q) = rAn q := by
  have h2 : rAn (tG2 L q) = rAn q := by
    unfold tG2; split
    · rw [rFail_an, tTake_an]
    · rw [tTake_an]
  unfold tG3; split
  · exact h2
  · rw [rFail_an, h2]
theorem tG4_an (L : List Nat) (M : List Int32) (q : RS) : rAn (tCode L (tTake L 255 q).1 (tG3 L M q)).2 = rAn q := by rw [tCode_an, tG3_an]
theorem tGroup_0 {L : List Nat} {M : List Int32} {q : RS} (h : (tTake L 255 q).1 = -1 ∨ (tTake L 255 q).1 = 0) : tGroup L M q = (0, M, (tTake L 255 q).2) := if_pos h
theorem tGroup_f {L : List Nat} {M : List Int32} {q : RS} (h : ¬ ((tTake L 255 q).1 = -1 ∨ (tTake L 255 q).1 = 0)) (h5 : ¬ rFt (tG5 L M q) = 0) : tGroup L M q = (0, M, tG5 L M q) := by unfold tGroup; rw [if_neg h, if_neg h5]
theorem tGroup_k {L : List Nat} {M : List Int32} {q : RS} (h : ¬ ((tTake L 255 q).1 = -1 ∨ (tTake L 255 q).1 = 0)) (h5 : rFt (tG5 L M q) = 0) : tGroup L M q = (1, M ++ List.replicate (kN (tTake L 255 q).1) (tG4 L M q).1, (rNx (tG5 L M q), kN (tTake L 255 q).1, rFt (tG5 L M q), rPl (tG5 L M q))) := by unfold tGroup; rw [if_neg h, if_pos h5]
theorem rFail_ft {nf p0 : Int32} {q : RS} (hn : nf ≠ 0) : ¬ rFt (rFail nf p0 q) = 0 := by
  by_cases h : rFt q = 0
  · rw [rFail_y h]; exact hn
  · rw [rFail_n h]; exact h
theorem tTake_ft {L : List Nat} {mo : Int32} {q : RS} (h : ¬ rFt q = 0) : ¬ rFt (tTake L mo q).2 = 0 := by rw [tTake_f h]; exact h
theorem tCode_ft {L : List Nat} {fi : Int32} {q : RS} (h : ¬ rFt q = 0) : ¬ rFt (tCode L fi q).2 = 0 := by
  by_cases h8 : fi &&& 128 = 0
  · rw [tCode_s h8]; exact tTake_ft h
  · rw [tCode_w h8]
    split
    · exact rFail_ft (by decide)
    · exact tTake_ft (tTake_ft (tTake_ft h))
theorem tG5_ft {L : List Nat} {M : List Int32} {q : RS} (h : ¬ rFt (tG3 L M q) = 0) : ¬ rFt (tG5 L M q) = 0 := by
  unfold tG5; split
  · exact rFail_ft (by decide)
  · exact tCode_ft h
theorem tG5_room {L : List Nat} {M : List Int32} {q : RS} (_ : ¬ ((tTake L 255 q).1 = -1 ∨ (tTake L 255 q).1 = 0)) (h5 : rFt (tG5 L M q) = 0) : kN (tTake L 255 q).1 ≤ 1024 - M.length := by
  rcases Nat.lt_or_ge (1024 - M.length) (kN (tTake L 255 q).1) with h | h
  · exact absurd h5 (tG5_ft (by rw [tG3_n h]; exact rFail_ft (by decide)))
  · exact h
theorem tG5_nx {L : List Nat} {M : List Int32} {q : RS} (hq : rNx q ≤ L.length) (hL : L.length ≤ 8192) : rNx (tG5 L M q) ≤ L.length := by
  have h4 : rNx (tG4 L M q).2 ≤ L.length := tCode_nx (tG3_nx hq hL) hL
  unfold tG5; split
  · rw [rFail_nx]; exact h4
  · exact h4
theorem tG5_an (L : List Nat) (M : List Int32) (q : RS) : rAn (tG5 L M q) = rAn q := by
  unfold tG5; split
  · rw [rFail_an]; exact tG4_an _ _ _
  · exact tG4_an _ _ _
theorem tGroup_nx {L : List Nat} {M : List Int32} {q : RS} (hq : rNx q ≤ L.length) (hL : L.length ≤ 8192) : rNx (tGroup L M q).2.2 ≤ L.length := by
  unfold tGroup; split
  · exact tTake_nx _ hq hL
  · split
    · exact tG5_nx hq hL
    · exact tG5_nx hq hL
theorem tGroup_an {L : List Nat} {M : List Int32} {q : RS} (hq : rAn q ≤ 63) : rAn (tGroup L M q).2.2 ≤ 63 := by
  unfold tGroup; split
  · show rAn (tTake L 255 q).2 ≤ 63; rw [tTake_an]; exact hq
  · split
    · exact kN_le _
    · show rAn (tG5 L M q) ≤ 63; rw [tG5_an]; exact hq
theorem tGroups_step {L : List Nat} {M : List Int32} {q : RS} {n : Nat} (h : n < 1025) : tGroups L (1025 - n) M q = if (tGroup L M q).1 = 0 then ((tGroup L M q).2.1, (tGroup L M q).2.2) else tGroups L (1025 - (n + 1)) (tGroup L M q).2.1 (tGroup L M q).2.2 := by
  rw [show 1025 - n = (1025 - (n + 1)) + 1 by omega]; rfl
theorem tGroups_nx {L : List Nat} (hL : L.length ≤ 8192) : ∀ (n : Nat) (M : List Int32) (q : RS), rNx q ≤ L.length → rNx (tGroups L n M q).2 ≤ L.length := by
  intro n
  induction n with
  | zero => intro M q hq; exact hq
  | succ n ih =>
    intro M q hq
    rw [tGroups]; split
    · exact tGroup_nx hq hL
    · exact ih _ _ (tGroup_nx hq hL)
def q00 : RS := (0, 0, 0, -1)
def tQ1 (L : List Nat) : RS := tMark L q00
def tQ2 (L : List Nat) : RS := tS4 L (tQ1 L)
def tQ3 (L : List Nat) : List Int32 × RS := tGroups L 1025 [] (tQ2 L)
def tQ4 (L : List Nat) : RS := tCheck L (tQ3 L).2
def tRead (L : List Nat) : List Int32 × RS := ((tQ3 L).1, tEnd L (tQ4 L))
theorem tOnly_an (L : List Nat) (du nf : Int32) (q : RS) : rAn (tOnly L du nf q) = rAn q := by
  unfold tOnly; split
  · exact tTake_an _ _ _
  · rw [rFail_an, tTake_an]
theorem tS1_def (L : List Nat) (q : RS) : (tPlace L q).2 = tS1 L q := by unfold tS1; rfl
theorem tS2_def (L : List Nat) (q : RS) : (tPlace L (tS1 L q)).2 = tS2 L q := by unfold tS2; rfl
theorem tS3_def (L : List Nat) (q : RS) : (tTake L 63 (tS2 L q)).2 = tS3 L q := by unfold tS3; rfl
theorem tS4_def (L : List Nat) (q : RS) : (tTake L 255 (tS3 L q)).2 = tS4 L q := by unfold tS4; rfl
theorem tS1_nx {L : List Nat} {q : RS} (hq : rNx q ≤ L.length) (hL : L.length ≤ 8192) : rNx (tS1 L q) ≤ L.length := by rw [← tS1_def]; exact tPlace_nx hq hL
theorem tS2_nx {L : List Nat} {q : RS} (hq : rNx q ≤ L.length) (hL : L.length ≤ 8192) : rNx (tS2 L q) ≤ L.length := by rw [← tS2_def]; exact tPlace_nx (tS1_nx hq hL) hL
theorem tS3_nx {L : List Nat} {q : RS} (hq : rNx q ≤ L.length) (hL : L.length ≤ 8192) : rNx (tS3 L q) ≤ L.length := by rw [← tS3_def]; exact tTake_nx _ (tS2_nx hq hL) hL
theorem tQ1_def (L : List Nat) : tMark L q00 = tQ1 L := by unfold tQ1; rfl
theorem tQ2_def (L : List Nat) : tS4 L (tQ1 L) = tQ2 L := by unfold tQ2; rfl
theorem tQ3_def (L : List Nat) : tGroups L 1025 ([] : List Int32) (tQ2 L) = tQ3 L := by unfold tQ3; rfl
theorem tQ4_def (L : List Nat) : tCheck L (tQ3 L).2 = tQ4 L := by unfold tQ4; rfl
theorem tQ1_nx {L : List Nat} (hL : L.length ≤ 8192) : rNx (tQ1 L) ≤ L.length := by rw [← tQ1_def]; exact tMark_nx (Nat.zero_le _) hL
theorem tQ2_nx {L : List Nat} (hL : L.length ≤ 8192) : rNx (tQ2 L) ≤ L.length := by rw [← tQ2_def, ← tS4_def]; exact tTake_nx _ (tS3_nx (tQ1_nx hL) hL) hL
theorem tQ3_nx {L : List Nat} (hL : L.length ≤ 8192) : rNx (tQ3 L).2 ≤ L.length := by rw [← tQ3_def]; exact tGroups_nx hL _ _ _ (tQ2_nx hL)
theorem tQ4_nx {L : List Nat} (hL : L.length ≤ 8192) : rNx (tQ4 L) ≤ L.length := by rw [← tQ4_def]; exact tCheck_nx (tQ3_nx hL) hL
theorem tQ2_an (L : List Nat) : rAn (tQ2 L) = 0 := by
  rw [← tQ2_def, ← tS4_def, tTake_an, ← tS3_def, tTake_an, ← tS2_def]
  unfold tPlace
  dsimp only
  rw [tTake_an, tTake_an, ← tS1_def]
  unfold tPlace
  dsimp only
  rw [tTake_an, tTake_an, ← tQ1_def]
  unfold tMark
  rw [tOnly_an, tOnly_an, tOnly_an]
  rfl
theorem tRead_1 (L : List Nat) : (tRead L).1 = (tQ3 L).1 := by unfold tRead; dsimp only
theorem tRead_y {L : List Nat} (h : rNx (tQ4 L) < L.length) : (tRead L).2 = rFail 7 (nI (rNx (tQ4 L))) (tQ4 L) := by unfold tRead tEnd; dsimp only; rw [if_pos h]
theorem tRead_n {L : List Nat} (h : L.length ≤ rNx (tQ4 L)) : (tRead L).2 = tQ4 L := by unfold tRead tEnd; dsimp only; rw [if_neg (Nat.not_lt.mpr h)]

theorem kGB_n {L : List Nat} {cd : Int32} {k : Nat} (h : kSide cd = 0) : L ++ kGB (cd, k) = (L ++ lowB (lNat (nI k + (if kUse cd = 0 then 0 else 64) + (if kSide cd = 0 then 0 else 128)).toInt64) 1) ++ lowB (lNat (kAhead cd).toInt64) 1 := by
  unfold kGB; dsimp only; rw [show (if kSide cd = 0 then ([] : List Nat) else lowB (lNat (kAside cd).toInt64) 1 ++ lowB (lNat (kTurn cd).toInt64) 1) = [] from if_pos h, List.append_nil, List.append_assoc]
theorem kGB_y {L : List Nat} {cd : Int32} {k : Nat} (h : ¬ kSide cd = 0) : L ++ kGB (cd, k) = (((L ++ lowB (lNat (nI k + (if kUse cd = 0 then 0 else 64) + (if kSide cd = 0 then 0 else 128)).toInt64) 1) ++ lowB (lNat (kAhead cd).toInt64) 1) ++ lowB (lNat (kAside cd).toInt64) 1) ++ lowB (lNat (kTurn cd).toInt64) 1 := by
  unfold kGB; dsimp only; rw [show (if kSide cd = 0 then ([] : List Nat) else lowB (lNat (kAside cd).toInt64) 1 ++ lowB (lNat (kTurn cd).toInt64) 1) = lowB (lNat (kAside cd).toInt64) 1 ++ lowB (lNat (kTurn cd).toInt64) 1 from if_neg h]; simp only [List.append_assoc]
theorem kGB_len (q : Int32 × Nat) : (kGB q).length ≤ 4 := by
  unfold kGB
  have h2 : (if kSide q.1 = 0 then ([] : List Nat) else lowB (lNat (kAside q.1).toInt64) 1 ++ lowB (lNat (kTurn q.1).toInt64) 1).length ≤ 2 := by
    by_cases h : kSide q.1 = 0
    · rw [if_pos h]; exact Nat.zero_le _
    · rw [if_neg h, List.length_append, lowB_len, lowB_len]; exact Nat.le_refl _
  simp only [List.length_append, lowB_len]
  omega
theorem kEnd_n {M : List Int32} {j n : Nat} (h : kEnd M j (n + 1) = 0) (hn : n ≤ 62) : n + 1 ≤ 62 := by
  unfold kEnd at h
  rcases Nat.lt_or_ge n 62 with q | q
  · omega
  · rw [if_pos (Or.inl (by omega))] at h; exact absurd h (by decide)
theorem kGr_len' : ∀ (M : List Int32) (n : Nat), ((kGr n M).flatMap kGB).length ≤ 4 * M.length := by
  intro M
  induction M with
  | nil => intro n; exact Nat.zero_le _
  | cons c cs ih =>
    intro n
    rw [kGr]; split
    · rw [List.flatMap_cons, List.length_append, List.length_cons]
      have := kGB_len (c, n + 1); have := ih 0; omega
    · rw [List.length_cons]; have := ih (n + 1); omega
theorem kGr_len (M : List Int32) : ((kGr 0 M).flatMap kGB).length ≤ 4 * M.length := kGr_len' M 0
def kPre (M : List Int32) (x y g t : Int32) : List Nat := (((((((([] ++ lowB (lNat (77 : Int32).toInt64) 1) ++ lowB (lNat (68 : Int32).toInt64) 1) ++ lowB (lNat (1 : Int32).toInt64) 1) ++ lowB (lNat x.toInt64) 2) ++ lowB (lNat y.toInt64) 2) ++ lowB (lNat g.toInt64) 1) ++ lowB (lNat t.toInt64) 1) ++ (kGr 0 M).flatMap kGB) ++ lowB (lNat 0) 1
def kOut (M : List Int32) (x y g t : Int32) : List Nat := kPre M x y g t ++ lowB (lNat (kChk ((kPre M x y g t).take (kPre M x y g t).length)).toInt64) 4

theorem kIn_01 (v lo hi : Int32) : (¬ kIn v lo hi = 0) ↔ (lo ≤ v ∧ v ≤ hi) := by
  unfold kIn; split
  · rename_i h; exact ⟨fun _ => h, fun _ => by decide⟩
  · rename_i h; exact ⟨fun q => absurd rfl q, fun q => absurd q h⟩
theorem kIn_nI0 {v : Int32} {n : Nat} (h : ¬ kIn v 0 (nI n) = 0) (hn : n < 2 ^ 31) : ∃ k, k ≤ n ∧ v = nI k := by
  obtain ⟨h1, h2⟩ := (kIn_01 _ _ _).mp h
  obtain ⟨k, hk, rfl⟩ := nI_of (Int32.not_lt.mpr h1)
  exact ⟨k, (nI_leI hk hn).mp h2, rfl⟩
theorem kIn_nI {v : Int32} {n : Nat} (h : ¬ kIn v 1 (nI n) = 0) (hn : n < 2 ^ 31) : ∃ k, (1 ≤ k ∧ k ≤ n) ∧ v = nI k := by
  obtain ⟨h1, h2⟩ := (kIn_01 _ _ _).mp h
  have h0 : ¬ v < 0 := by
    rw [k32_lt]; rw [k32_le] at h1
    have e1 : (1 : Int32).toInt = 1 := by decide
    have e0 : (0 : Int32).toInt = 0 := by decide
    omega
  obtain ⟨k, hk, rfl⟩ := nI_of h0
  exact ⟨k, ⟨(nI_leI (a := 1) (by decide) hk).mp h1, (nI_leI hk hn).mp h2⟩, rfl⟩
theorem kIn_ix {v : Int32} {n : Nat} (h : ¬ kIn v 0 (nI n - 1) = 0) (hn : n < 2 ^ 31) : ∃ k, k < n ∧ v = nI k := by
  rcases Nat.eq_zero_or_pos n with h0 | h0
  · subst h0
    obtain ⟨h1, h2⟩ := (kIn_01 _ _ _).mp h
    have e : nI 0 - 1 = -1 := by decide
    rw [e] at h2
    exact absurd (Int32.le_trans h1 h2) (by decide)
  · obtain ⟨z, rfl⟩ : ∃ z, n = z + 1 := ⟨n - 1, by omega⟩
    rw [nI_pred] at h
    obtain ⟨k, hk, e⟩ := kIn_nI0 h (by omega)
    exact ⟨k, by omega, e⟩
abbrev kStOk (px py pg pt : Int32) : Prop := ¬ kIn px (-32768) 32767 = 0 ∧ ¬ kIn py (-32768) 32767 = 0 ∧ ¬ kIn pg 0 63 = 0 ∧ ¬ kIn pt 0 255 = 0
abbrev kRcOk (M : List Int32) (pa ps pt pn : Int32) : Prop := ¬ kIn pa (-64) 64 = 0 ∧ ¬ kIn ps (-64) 64 = 0 ∧ ¬ kIn pt (-16) 16 = 0 ∧ ¬ kIn pn 1 (nI (1024 - M.length)) = 0
abbrev kAgOk (M : List Int32) (pi pn : Int32) : Prop := ¬ kIn pi 0 (nI M.length - 1) = 0 ∧ ¬ kIn pn 1 (nI M.length - pi) = 0 ∧ pn ≤ nI (1024 - M.length)
abbrev kGvOk (I : List Nat) (pn : Int32) : Prop := ¬ kIn pn 1 8 = 0 ∧ pn ≤ nI (8192 - I.length)
def kInW (c w : Int32) : Int32 := if w = 0 then kAhead c - 64 else if w = 1 then kAside c - 64 else if w = 2 then kTurn c - 16 else if w = 3 then (if kUse c = 0 then 0 else 1) else 100000
theorem kInW_out {c w : Int32} (h : w.toInt < 0 ∨ 3 < w.toInt) : kInW c w = 100000 := by
  unfold kInW
  have k : ∀ n : Int32, 0 ≤ n.toInt → n.toInt ≤ 3 → w ≠ n := fun n h1 h2 q => by rw [q] at h; omega
  rw [if_neg (k 0 (by decide) (by decide)), if_neg (k 1 (by decide) (by decide)), if_neg (k 2 (by decide) (by decide)), if_neg (k 3 (by decide) (by decide))]
def kInput (M : List Int32) (i w : Int32) : Int32 := if kGet M i = -1 then 100000 else kInW (kGet M i) w
theorem kInput_n {M : List Int32} {i w : Int32} (h : kGet M i = -1) : kInput M i w = 100000 := if_pos h
theorem kInput_y {M : List Int32} {i w : Int32} (h : ¬ kGet M i = -1) : kInput M i w = kInW (kGet M i) w := if_neg h
def kLook (M : List Int32) (O I : List Nat) (q : RS) (w : Int32) : Int32 := if w = 0 then nI M.length else if w = 1 then nI (kGr 0 M).length else if w = 2 then nI O.length else if w = 3 then nI I.length else if w = 4 then rFt q else if w = 5 then rPl q else if w = 6 then nI (kUses M) else -1
theorem kLook_out {M : List Int32} {O I : List Nat} {q : RS} {w : Int32} (h : w.toInt < 0 ∨ 6 < w.toInt) : kLook M O I q w = -1 := by
  unfold kLook
  have k : ∀ n : Int32, 0 ≤ n.toInt → n.toInt ≤ 6 → w ≠ n := fun n h1 h2 q => by rw [q] at h; omega
  rw [if_neg (k 0 (by decide) (by decide)), if_neg (k 1 (by decide) (by decide)), if_neg (k 2 (by decide) (by decide)), if_neg (k 3 (by decide) (by decide)), if_neg (k 4 (by decide) (by decide)), if_neg (k 5 (by decide) (by decide)), if_neg (k 6 (by decide) (by decide))]
