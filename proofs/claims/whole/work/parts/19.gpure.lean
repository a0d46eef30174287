/-! Pure words of a group read by the reference -/
theorem kN_hd {hd : Nat} {b : Int32} (h : nI hd = b) (h2 : hd < 256) : kN b = hd % 64 := by
  subst h; unfold kN
  rw [pk_andN (by omega) 6 (by decide)]
  exact nI_clamp (by omega)
theorem hd_b {hd : Nat} {b : Int32} (h : nI hd = b) (h1 : 0 < hd) (h2 : hd < 256) : ¬ (b = -1 ∨ b = 0) := by
  subst h
  intro z
  rcases z with q | q
  · exact nI_ne_m1 (by omega) q
  · exact nI_ne0 h1 (by omega) q
theorem ok0 {q : RS} (h : rFt q = 0) : FtOk q := by unfold FtOk; rw [h]; decide
theorem tG3_ok {I : List Nat} {N : List Int32} {q : RS} (h0 : rFt (tTake I 255 q).2 = 0) : FtOk (tG3 I N q) := by
  have h2 : FtOk (tG2 I q) := by
    unfold tG2; split
    · exact rFail_ok (ok0 h0) (by decide)
    · exact ok0 h0
  unfold tG3; split
  · exact h2
  · exact rFail_ok h2 (by decide)
theorem bit128 : ∀ n, n < 256 → (nI n &&& 128 = 0 ↔ n ≤ 127) := by decide +kernel
theorem bit64 : ∀ n, n < 256 → (nI n &&& 64 = 0 ↔ n / 64 % 2 = 0) := by decide +kernel
theorem bit_lo {hd : Nat} {b : Int32} (h : nI hd = b) (h1 : hd ≤ 127) : b &&& 128 = 0 := by subst h; exact (bit128 hd (by omega)).mpr h1
theorem bit_hi {hd : Nat} {b : Int32} (h : nI hd = b) (h1 : 127 < hd) (h2 : hd < 256) : ¬ b &&& 128 = 0 := by subst h; exact fun q => absurd ((bit128 hd h2).mp q) (by omega)
theorem bit64_n {hd : Nat} {b : Int32} (h : nI hd = b) (h2 : hd < 256) (h1 : hd / 64 % 2 ≠ 1) : (if b &&& 64 = 0 then (0 : Int32) else 1) = 0 := by subst h; rw [if_pos ((bit64 hd h2).mpr (by omega))]
theorem bit64_y {hd : Nat} {b : Int32} (h : nI hd = b) (h2 : hd < 256) (h1 : hd / 64 % 2 = 1) : (if b &&& 64 = 0 then (0 : Int32) else 1) = 1 := by subst h; rw [if_neg (fun q => absurd ((bit64 hd h2).mp q) (by omega))]
theorem tk_le {I : List Nat} {mo : Int32} {q : RS} (h : rFt (tTake I mo q).2 = 0) : (tTake I mo q).1 ≤ mo := by
  have h0 := tk_ft0 h
  by_cases h1 : kGetB I (nI (rNx q)) = -1
  · rw [tTake_e h0 h1] at h; exact absurd h (rFail_ft (by decide))
  · by_cases h2 : kGetB I (nI (rNx q)) ≤ mo
    · rw [tTake_k h0 h1 h2]; exact h2
    · rw [tTake_b h0 h1 h2] at h; exact absurd h (rFail_ft (by decide))
theorem NV.le {I : List Nat} {mo : Nat} {q : RS} {k : Nat} (h : NV I (nI mo) q k) (hm : mo < 256) (h0 : rFt (tTake I (nI mo) q).2 = 0) : k ≤ mo := by
  have := tk_le h0
  rw [← h.2 h0] at this
  have hk := h.1
  exact (nI_leI (by omega) (by omega)).mp this
def GV (c b x5 x6 x7 : Int32) : Prop := ∃ a s t : Nat, a ≤ 128 ∧ s ≤ 128 ∧ t ≤ 32 ∧ x5 = nI a - 64 ∧ x6 = nI s - 64 ∧ x7 = nI t - 16 ∧ c = kCode (if b &&& 64 = 0 then 0 else 1) (nI a) (nI s) (nI t)
section GR
variable {I : List Nat} {N : List Int32} {q : RS}
theorem gs_w (h8 : (tTake I 255 q).1 &&& 128 = 0) : (tG4 I N q).2 = (tTake I 128 (tG3 I N q)).2 := by unfold tG4; rw [tCode_s h8]
theorem gs_v {k : Nat} (h8 : (tTake I 255 q).1 &&& 128 = 0) (hNV : NV I 128 (tG3 I N q) k) (z : rFt (tG4 I N q).2 = 0) : GV (tG4 I N q).1 (tTake I 255 q).1 (nI k - 64) 0 0 := by
  rw [gs_w h8] at z
  have hk : k ≤ 128 := NV.le (mo := 128) hNV (by decide) z
  refine ⟨k, 64, 16, hk, by decide, by decide, rfl, by decide, by decide, ?_⟩
  unfold tG4
  rw [tCode_s h8, ← hNV.2 z]
  rfl
theorem gl_f (h8 : ¬ (tTake I 255 q).1 &&& 128 = 0) (h : ¬ rFt (tTake I 32 (tTake I 128 (tTake I 128 (tG3 I N q)).2).2).2 = 0) : (tG4 I N q).2 = (tTake I 32 (tTake I 128 (tTake I 128 (tG3 I N q)).2).2).2 := by
  unfold tG4
  rw [tCode_w h8]
  split
  · exact rFail_n h
  · rfl
theorem sub0 {x c : Int32} (h : x - c = 0) : x = c := by rw [← Int32.sub_add_cancel x c, h, Int32.zero_add]
theorem gl_b {k6 k7 : Nat} (h8 : ¬ (tTake I 255 q).1 &&& 128 = 0) (h : rFt (tTake I 32 (tTake I 128 (tTake I 128 (tG3 I N q)).2).2).2 = 0) (n6 : NV I 128 (tTake I 128 (tG3 I N q)).2 k6) (n7 : NV I 32 (tTake I 128 (tTake I 128 (tG3 I N q)).2).2 k7) (c6 : nI k6 - 64 = 0) (c7 : nI k7 - 16 = 0) : (tG4 I N q).2 = rFail 3 (nI (rNx (tTake I 128 (tTake I 128 (tG3 I N q)).2).2)) (tTake I 32 (tTake I 128 (tTake I 128 (tG3 I N q)).2).2).2 := by
  unfold tG4
  exact tCode_f h8 ⟨by rw [← n6.2 (tk_ft0 h)]; exact sub0 c6, by rw [← n7.2 h]; exact sub0 c7⟩
theorem gl_n {k6 k7 : Nat} (h8 : ¬ (tTake I 255 q).1 &&& 128 = 0) (h : rFt (tTake I 32 (tTake I 128 (tTake I 128 (tG3 I N q)).2).2).2 = 0) (n6 : NV I 128 (tTake I 128 (tG3 I N q)).2 k6) (n7 : NV I 32 (tTake I 128 (tTake I 128 (tG3 I N q)).2).2 k7) (o : ¬ nI k6 - 64 = 0 ∨ ¬ nI k7 - 16 = 0) : (tG4 I N q).2 = (tTake I 32 (tTake I 128 (tTake I 128 (tG3 I N q)).2).2).2 := by
  unfold tG4
  refine tCode_g h8 (fun z => ?_)
  rw [← n6.2 (tk_ft0 h), ← n7.2 h] at z
  rcases o with q | q
  · exact q (by rw [z.1]; decide)
  · exact q (by rw [z.2]; decide)
theorem gl_v {k5 k6 k7 : Nat} (h8 : ¬ (tTake I 255 q).1 &&& 128 = 0) (n5 : NV I 128 (tG3 I N q) k5) (n6 : NV I 128 (tTake I 128 (tG3 I N q)).2 k6) (n7 : NV I 32 (tTake I 128 (tTake I 128 (tG3 I N q)).2).2 k7) (h : rFt (tTake I 32 (tTake I 128 (tTake I 128 (tG3 I N q)).2).2).2 = 0) : GV (tG4 I N q).1 (tTake I 255 q).1 (nI k5 - 64) (nI k6 - 64) (nI k7 - 16) := by
  have h6 := tk_ft0 h
  have h5 := tk_ft0 h6
  refine ⟨k5, k6, k7, NV.le (mo := 128) n5 (by decide) h5, NV.le (mo := 128) n6 (by decide) h6, NV.le (mo := 32) n7 (by decide) h, rfl, rfl, rfl, ?_⟩
  unfold tG4
  rw [tCode_v h8, ← n5.2 h5, ← n6.2 h6, ← n7.2 h]
theorem if01 (b : Int32) : ∃ u : Nat, u ≤ 1 ∧ (if b &&& 64 = 0 then (0 : Int32) else 1) = nI u := by
  by_cases h : b &&& 64 = 0
  · exact ⟨0, by decide, by rw [if_pos h]; rfl⟩
  · exact ⟨1, by decide, by rw [if_neg h]; rfl⟩
theorem gv_ok {c b x5 x6 x7 u8 : Int32} (h : GV c b x5 x6 x7) (hu : u8 = if b &&& 64 = 0 then 0 else 1) : cOk c ∧ x5 = kAhead c - 64 ∧ x6 = kAside c - 64 ∧ x7 = kTurn c - 16 ∧ u8 = kUse c := by
  obtain ⟨a, s, t, ha, hs, ht, rfl, rfl, rfl, rfl⟩ := h
  obtain ⟨u, hu1, eu⟩ := if01 b
  rw [eu] at hu ⊢
  rw [kCode_num hu1 (by omega) (by omega) (by omega)]
  obtain ⟨p1, p2, p3, p4⟩ := cN_parts hu1 ha hs ht
  rw [p1, p2, p3, p4]
  exact ⟨⟨u, a, s, t, hu1, ha, hs, ht, rfl⟩, rfl, rfl, rfl, hu⟩
theorem gv_c {c b x5 x6 x7 : Int32} (h : GV c b x5 x6 x7) : cOk c := (gv_ok h rfl).1
theorem kU01 {u8 b : Int32} (hu : u8 = if b &&& 64 = 0 then 0 else 1) : u8 = 0 ∨ u8 = 1 := by
  rw [hu]; split
  · exact Or.inl rfl
  · exact Or.inr rfl
theorem sm_f (h : ¬ rFt (tG4 I N q).2 = 0) : tG5 I N q = (tG4 I N q).2 := by
  unfold tG5; split
  · exact rFail_n h
  · rfl
theorem sm_0 {x5 x6 x7 : Int32} (hV : rFt (tG4 I N q).2 = 0 → GV (tG4 I N q).1 (tTake I 255 q).1 x5 x6 x7) (h0 : rFt (tG4 I N q).2 = 0) (hN : N = []) : ¬ (rAn (tG4 I N q).2 < 63 ∧ kGet N (nI N.length - 1) = (tG4 I N q).1) := by
  intro z
  have e : kGet N (nI N.length - 1) = -1 := by rw [hN]; exact kGet_neg (by decide)
  exact cOk_ne (gv_c (hV h0)) (z.2.symm.trans e)
theorem kGet_last {N : List Int32} (hN : 1 ≤ N.length) (hl : N.length ≤ 1024) : kGet N (nI N.length - 1) = (N[N.length - 1]?).getD (-1) := by
  have e : nI N.length - 1 = nI (N.length - 1) := pk_sub (b := 1) hN
  rw [e, kGet_nI (by omega)]
theorem sm_y {ga gs gr gu : Nat → Int32} {x5 x6 x7 u8 : Int32} {bf : Nat} (hR : MRow ga gs gr gu N) (hV : rFt (tG4 I N q).2 = 0 → GV (tG4 I N q).1 (tTake I 255 q).1 x5 x6 x7) (hu : u8 = if (tTake I 255 q).1 &&& 64 = 0 then 0 else 1) (h0 : rFt (tG4 I N q).2 = 0) (hbf : bf = rAn q) (hN : 1 ≤ N.length) (h63 : bf < 63) (e1 : ga (N.length - 1) = x5) (e2 : gs (N.length - 1) = x6) (e3 : gr (N.length - 1) = x7) (e4 : gu (N.length - 1) = u8) : rAn (tG4 I N q).2 < 63 ∧ kGet N (nI N.length - 1) = (tG4 I N q).1 := by
  refine ⟨by rw [show rAn (tG4 I N q).2 = rAn q from tG4_an _ _ _]; omega, ?_⟩
  rw [kGet_last hN hR.2.2]
  obtain ⟨g1, g2, g3, g4, g5⟩ := gv_ok (hV h0) hu
  have a := hR.at (j := N.length - 1) (by omega)
  exact cEq (hR.ok (by omega)) g1 (by rw [← a.1, e1]; exact g2) (by rw [← a.2.1, e2]; exact g3) (by rw [← a.2.2.1, e3]; exact g4) (by rw [← a.2.2.2, e4]; exact g5)
theorem sm_n {ga gs gr gu : Nat → Int32} {x5 x6 x7 u8 : Int32} (hR : MRow ga gs gr gu N) (hV : rFt (tG4 I N q).2 = 0 → GV (tG4 I N q).1 (tTake I 255 q).1 x5 x6 x7) (hu : u8 = if (tTake I 255 q).1 &&& 64 = 0 then 0 else 1) (h0 : rFt (tG4 I N q).2 = 0) (hN : 1 ≤ N.length) (o : ¬ ga (N.length - 1) = x5 ∨ ¬ gs (N.length - 1) = x6 ∨ ¬ gr (N.length - 1) = x7 ∨ ¬ gu (N.length - 1) = u8) : ¬ (rAn (tG4 I N q).2 < 63 ∧ kGet N (nI N.length - 1) = (tG4 I N q).1) := by
  intro z
  have z2 := z.2
  rw [kGet_last hN hR.2.2] at z2
  obtain ⟨g1, g2, g3, g4, g5⟩ := gv_ok (hV h0) hu
  have a := hR.at (j := N.length - 1) (by omega)
  rw [z2] at a
  rcases o with w | w | w | w
  · exact w (a.1.trans g2.symm)
  · exact w (a.2.1.trans g3.symm)
  · exact w (a.2.2.1.trans g4.symm)
  · exact w (a.2.2.2.trans g5.symm)
theorem gr_end {j p4 a4 b4 : Nat} (hb1 : ¬ ((tTake I 255 q).1 = -1 ∨ (tTake I 255 q).1 = 0)) (hj : j ≤ kN (tTake I 255 q).1) (hf : ¬ rFt (tG5 I N q) = 0 → j = 0) (hx : kN (tTake I 255 q).1 ≤ j ∨ ¬ rFt (tG5 I N q) = 0) : (tGroup I N q).2.1 = N ++ List.replicate j (tG4 I N q).1 ∧ rFt (tGroup I N q).2.2 = rFt (tG5 I N q) ∧ rPl (tGroup I N q).2.2 = rPl (tG5 I N q) ∧ (RM I (tG5 I N q) p4 a4 b4 → RM I (tGroup I N q).2.2 p4 a4 b4) := by
  by_cases h0 : rFt (tG5 I N q) = 0
  · have hj2 : j = kN (tTake I 255 q).1 := by
      rcases hx with w | w
      · omega
      · exact absurd h0 w
    rw [tGroup_k hb1 h0, hj2]
    exact ⟨rfl, rfl, rfl, fun h => ⟨h.1, h.2.1, h.2.2.1, fun z => h.2.2.2 h0⟩⟩
  · rw [tGroup_f hb1 h0, hf h0]
    exact ⟨(List.append_nil N).symm, rfl, rfl, fun h => h⟩
end GR
