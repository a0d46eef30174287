/-! Pure words of the reference's read -/
theorem okRead (I : List Nat) : FtOk (tRead I).2 := by
  rw [tRead_2]
  have h4 : FtOk (tQ4 I) := by rw [← tCj_4]; exact tCj_ok (okQ3 I) 4
  generalize tQ4 I = q at h4 ⊢
  unfold tEnd; split
  · exact rFail_ok h4 (by decide)
  · exact h4
theorem HoldQ_cp {f g : Nat → Int32} {v : Int32 × Int32 × Int32 × Int32} {j : Nat} (h : HoldQ g v) (hj : 4 ≤ j) (hc : ∀ i, i < j → f i = g i) : HoldQ f v :=
  ⟨by rw [hc 0 (by omega)]; exact h.1, by rw [hc 1 (by omega)]; exact h.2.1, by rw [hc 2 (by omega)]; exact h.2.2.1, by rw [hc 3 (by omega)]; exact h.2.2.2⟩
def Cp4 (j : Nat) (fa fs fr fu ga gs gr gu : Nat → Int32) : Prop := ∀ i, i < j → fa i = ga i ∧ fs i = gs i ∧ fr i = gr i ∧ fu i = gu i
theorem Cp4.step {j : Nat} {fa fs fr fu ga gs gr gu : Nat → Int32} {x : Int32} (h : Cp4 j fa fs fr fu ga gs gr gu) (hx : x = gu j) : Cp4 (j + 1) (upd fa j (ga j)) (upd fs j (gs j)) (upd fr j (gr j)) (upd fu j x) ga gs gr gu := by
  intro i hi
  by_cases hc : i = j
  · subst hc; simp [upd, hx]
  · simp only [upd, if_neg hc]; exact h i (by omega)
theorem Cp4.row {j : Nat} {fa fs fr fu ga gs gr gu : Nat → Int32} {M : List Int32} (h : Cp4 j fa fs fr fu ga gs gr gu) (hR : MRow ga gs gr gu M) (hj : M.length ≤ j) : MRow fa fs fr fu M := by
  refine ⟨fun i hi => ?_, hR.2.1, hR.2.2⟩
  obtain ⟨a, b, c, d⟩ := h i (by omega)
  rw [a, b, c, d]; exact hR.1 i hi
theorem MRow.u01 {fa fs fr fu : Nat → Int32} {M : List Int32} (h : MRow fa fs fr fu M) {j : Nat} (hj : j < M.length) : vp_nar .boolean (fu j) = fu j := by
  rw [(h.1 j hj).2.2.2]; exact nar_b01 (kUse_01 _)
