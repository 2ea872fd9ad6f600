/-! WHAT IS KEPT by each write -/
theorem inv_B {σ : St} {v : Nat} {u : Nat → Nat → Int32} (h : tfP σ v u) (hI : ∀ w, w ≠ v → ∀ s, s ≤ sC σ w → sB σ w s = nI (bg σ w s)) : ∀ w s, s ≤ sC σ w → u w s = nI (bg σ w s) := by
  intro w s hs
  by_cases q : w = v
  · subst q; exact h.2 s hs
  · rw [h.1 w q]; exact hI w q s hs
/-- a voice that isn't written to begins as it did -/
theorem bg_row {σ σ' : St} {w : Nat} (hM : sM σ' w = sM σ w) (hK : sK σ' w = sK σ w) (hR : sR σ' w = sR σ w) (n : Nat) : bg σ' w n = bg σ w n :=
  bg_cong (fun q _ => by unfold lg; rw [hM, hK, hR])
theorem inM_nat {a b c : Int32} (h : inM a b c = true) : ∃ i j k : Nat, a = nI i ∧ b = nI j ∧ c = nI k ∧ (i = 2 ∨ i = 3) ∧ (j = 2 ∨ j = 3) ∧ (k = 2 ∨ k = 3) := by
  unfold inM at h
  simp only [Bool.and_eq_true] at h
  obtain ⟨i, h1, h2, h3⟩ := inr_nat (a := 2) (b := 3) rfl rfl (by decide) (by decide) h.1
  obtain ⟨j, h4, h5, h6⟩ := inr_nat (a := 2) (b := 3) rfl rfl (by decide) (by decide) h.2.1
  obtain ⟨k, h7, h8, h9⟩ := inr_nat (a := 2) (b := 3) rfl rfl (by decide) (by decide) h.2.2
  exact ⟨i, j, k, h3, h6, h9, by omega, by omega, by omega⟩
theorem inv_me {σ : St} (hI : Inv σ) {v a b c : Nat} (ha : a = 2 ∨ a = 3) (hb : b = 2 ∨ b = 3) (hc : c = 2 ∨ c = 3) {u : Nat → Nat → Int32} (h : tfP (meS σ v a b c) v u) : Inv (uB (meS σ v a b c) u) := by
  have hB := inv_B h (fun x hx s hs => by
    rw [bg_row (σ' := meS σ v a b c) (σ := σ) (w := x) (by rw [sM_meS, up2_row _ hx, up2_row _ hx, up2_row _ hx]) (by rw [sK_meS]) (by rw [sR_meS]), sB_meS]
    rw [sC_meS] at hs
    exact hI.B hs)
  obtain ⟨i1, i2, i3, i4, i5, i6, i7⟩ := hI
  unfold Inv
  simp only [bg_uB, sN_uN, sC_uN, sL_uN, sM_uN, sK_uN, sP_uN, sR_uN, sT_uN, sB_uN, sN_uC, sC_uC, sL_uC, sM_uC, sK_uC, sP_uC, sR_uC, sT_uC, sB_uC, sN_uL, sC_uL, sL_uL, sM_uL, sK_uL, sP_uL, sR_uL, sT_uL, sB_uL, sN_uM, sC_uM, sL_uM, sM_uM, sK_uM, sP_uM, sR_uM, sT_uM, sB_uM, sN_uK, sC_uK, sL_uK, sM_uK, sK_uK, sP_uK, sR_uK, sT_uK, sB_uK, sN_uP, sC_uP, sL_uP, sM_uP, sK_uP, sP_uP, sR_uP, sT_uP, sB_uP, sN_uR, sC_uR, sL_uR, sM_uR, sK_uR, sP_uR, sR_uR, sT_uR, sB_uR, sN_uT, sC_uT, sL_uT, sM_uT, sK_uT, sP_uT, sR_uT, sT_uT, sB_uT, sN_uB, sC_uB, sL_uB, sM_uB, sK_uB, sP_uB, sR_uB, sT_uB, sB_uB, sN_apS, sC_apS, sL_apS, sM_apS, sK_apS, sP_apS, sR_apS, sT_apS, sB_apS, sN_meS, sC_meS, sL_meS, sM_meS, sK_meS, sP_meS, sR_meS, sT_meS, sB_meS] at hB ⊢
  refine ⟨i1, i2, i3, ?_, i5, i6, hB⟩
  intro w hw i hi
  unfold up2
  split
  · exact hc
  · split
    · exact hb
    · split
      · exact ha
      · exact i4 w hw i hi
theorem inv_uL {σ : St} (hI : Inv σ) {v : Nat} (hv : v < sN σ) (x : Int32) : Inv (uL σ v x) := by
  obtain ⟨i1, i2, i3, i4, i5, i6, i7⟩ := hI
  have hB : ∀ w s, bg (uL σ v x) w s = bg σ w s := fun w s => bg_row (by rw [sM_uL]) (by rw [sK_uL]) (by rw [sR_uL]) s
  unfold Inv
  simp only [hB, sN_uN, sC_uN, sL_uN, sM_uN, sK_uN, sP_uN, sR_uN, sT_uN, sB_uN, sN_uC, sC_uC, sL_uC, sM_uC, sK_uC, sP_uC, sR_uC, sT_uC, sB_uC, sN_uL, sC_uL, sL_uL, sM_uL, sK_uL, sP_uL, sR_uL, sT_uL, sB_uL, sN_uM, sC_uM, sL_uM, sM_uM, sK_uM, sP_uM, sR_uM, sT_uM, sB_uM, sN_uK, sC_uK, sL_uK, sM_uK, sK_uK, sP_uK, sR_uK, sT_uK, sB_uK, sN_uP, sC_uP, sL_uP, sM_uP, sK_uP, sP_uP, sR_uP, sT_uP, sB_uP, sN_uR, sC_uR, sL_uR, sM_uR, sK_uR, sP_uR, sR_uR, sT_uR, sB_uR, sN_uT, sC_uT, sL_uT, sM_uT, sK_uT, sP_uT, sR_uT, sT_uT, sB_uT, sN_uB, sC_uB, sL_uB, sM_uB, sK_uB, sP_uB, sR_uB, sT_uB, sB_uB, sN_apS, sC_apS, sL_apS, sM_apS, sK_apS, sP_apS, sR_apS, sT_apS, sB_apS, sN_meS, sC_meS, sL_meS, sM_meS, sK_meS, sP_meS, sR_meS, sT_meS, sB_meS]
  refine ⟨i1, i2, ?_, i4, i5, i6, i7⟩
  intro w hw
  exact ⟨(up1_n _ (by omega) _).trans (i3 w hw).1, (i3 w hw).2⟩
theorem inv_dl {σ : St} (hI : Inv σ) (v d : Nat) : Inv (uC σ v (sC σ v - d)) := by
  obtain ⟨i1, i2, i3, i4, i5, i6, i7⟩ := hI
  have hc : ∀ w, up1 (sC σ) v (sC σ v - d) w ≤ sC σ w := by
    intro w
    unfold up1
    split
    · rename_i e; rw [e]; omega
    · exact Nat.le_refl _
  have hB : ∀ w s, bg (uC σ v (sC σ v - d)) w s = bg σ w s := fun w s => bg_row (by rw [sM_uC]) (by rw [sK_uC]) (by rw [sR_uC]) s
  unfold Inv
  simp only [hB, sN_uN, sC_uN, sL_uN, sM_uN, sK_uN, sP_uN, sR_uN, sT_uN, sB_uN, sN_uC, sC_uC, sL_uC, sM_uC, sK_uC, sP_uC, sR_uC, sT_uC, sB_uC, sN_uL, sC_uL, sL_uL, sM_uL, sK_uL, sP_uL, sR_uL, sT_uL, sB_uL, sN_uM, sC_uM, sL_uM, sM_uM, sK_uM, sP_uM, sR_uM, sT_uM, sB_uM, sN_uK, sC_uK, sL_uK, sM_uK, sK_uK, sP_uK, sR_uK, sT_uK, sB_uK, sN_uP, sC_uP, sL_uP, sM_uP, sK_uP, sP_uP, sR_uP, sT_uP, sB_uP, sN_uR, sC_uR, sL_uR, sM_uR, sK_uR, sP_uR, sR_uR, sT_uR, sB_uR, sN_uT, sC_uT, sL_uT, sM_uT, sK_uT, sP_uT, sR_uT, sT_uT, sB_uT, sN_uB, sC_uB, sL_uB, sM_uB, sK_uB, sP_uB, sR_uB, sT_uB, sB_uB, sN_apS, sC_apS, sL_apS, sM_apS, sK_apS, sP_apS, sR_apS, sT_apS, sB_apS, sN_meS, sC_meS, sL_meS, sM_meS, sK_meS, sP_meS, sR_meS, sT_meS, sB_meS]
  refine ⟨i1, fun w => Nat.le_trans (hc w) (i2 w), ?_, i4, i5, i6, fun w s hs => i7 w s (Nat.le_trans hs (hc w))⟩
  intro w hw
  have := hc w
  have h2 := (i3 w hw).2
  exact ⟨(i3 w hw).1, by omega⟩
theorem inv_tc {σ : St} (hI : Inv σ) {v s0 : Nat} {r : Bool} {u : Nat → Nat → Int32} (h : tfP (uR σ v s0 r) v u) : Inv (uB (uR σ v s0 r) u) := by
  have hB := inv_B h (fun x hx s hs => by
    rw [bg_row (σ' := uR σ v s0 r) (σ := σ) (w := x) (by rw [sM_uR]) (by rw [sK_uR]) (by rw [sR_uR, up2_row _ hx]), sB_uR]
    rw [sC_uR] at hs
    exact hI.B hs)
  obtain ⟨i1, i2, i3, i4, i5, i6, i7⟩ := hI
  unfold Inv
  simp only [bg_uB, sN_uN, sC_uN, sL_uN, sM_uN, sK_uN, sP_uN, sR_uN, sT_uN, sB_uN, sN_uC, sC_uC, sL_uC, sM_uC, sK_uC, sP_uC, sR_uC, sT_uC, sB_uC, sN_uL, sC_uL, sL_uL, sM_uL, sK_uL, sP_uL, sR_uL, sT_uL, sB_uL, sN_uM, sC_uM, sL_uM, sM_uM, sK_uM, sP_uM, sR_uM, sT_uM, sB_uM, sN_uK, sC_uK, sL_uK, sM_uK, sK_uK, sP_uK, sR_uK, sT_uK, sB_uK, sN_uP, sC_uP, sL_uP, sM_uP, sK_uP, sP_uP, sR_uP, sT_uP, sB_uP, sN_uR, sC_uR, sL_uR, sM_uR, sK_uR, sP_uR, sR_uR, sT_uR, sB_uR, sN_uT, sC_uT, sL_uT, sM_uT, sK_uT, sP_uT, sR_uT, sT_uT, sB_uT, sN_uB, sC_uB, sL_uB, sM_uB, sK_uB, sP_uB, sR_uB, sT_uB, sB_uB, sN_apS, sC_apS, sL_apS, sM_apS, sK_apS, sP_apS, sR_apS, sT_apS, sB_apS, sN_meS, sC_meS, sL_meS, sM_meS, sK_meS, sP_meS, sR_meS, sT_meS, sB_meS] at hB ⊢
  exact ⟨i1, i2, i3, i4, i5, i6, hB⟩
/-- a rank that a sign may have -/
def rkOk (σ : St) (v : Nat) (t : Int32) : Prop := t = -1 ∨ ∃ j : Nat, j ≤ sC σ v ∧ j ≤ 2 ∧ t = nI j
theorem inv_ap {σ : St} (hI : Inv σ) {v k : Nat} {p : Int32} {r : Bool} {t : Int32} {u : Nat → Nat → Int32} (hv : v < sN σ) (hk : k ≤ 3) (hc : sC σ v < 24) (ht : rkOk σ v t) (h : tfP (apS σ v k p r t) v u) : Inv (uB (apS σ v k p r t) u) := by
  have hB := inv_B h (fun x hx s hs => by
    rw [bg_row (σ' := apS σ v k p r t) (σ := σ) (w := x) (by rw [sM_apS]) (by rw [sK_apS, up2_row _ hx]) (by rw [sR_apS, up2_row _ hx]), sB_apS]
    rw [sC_apS, up1_n _ hx] at hs
    exact hI.B hs)
  obtain ⟨i1, i2, i3, i4, i5, i6, i7⟩ := hI
  have hC : up1 (sC σ) v (sC σ v + 1) v = sC σ v + 1 := up1_s _ _ _
  have hCn : ∀ w, w ≠ v → up1 (sC σ) v (sC σ v + 1) w = sC σ w := fun w hw => up1_n _ hw _
  unfold Inv
  simp only [bg_uB, sN_uN, sC_uN, sL_uN, sM_uN, sK_uN, sP_uN, sR_uN, sT_uN, sB_uN, sN_uC, sC_uC, sL_uC, sM_uC, sK_uC, sP_uC, sR_uC, sT_uC, sB_uC, sN_uL, sC_uL, sL_uL, sM_uL, sK_uL, sP_uL, sR_uL, sT_uL, sB_uL, sN_uM, sC_uM, sL_uM, sM_uM, sK_uM, sP_uM, sR_uM, sT_uM, sB_uM, sN_uK, sC_uK, sL_uK, sM_uK, sK_uK, sP_uK, sR_uK, sT_uK, sB_uK, sN_uP, sC_uP, sL_uP, sM_uP, sK_uP, sP_uP, sR_uP, sT_uP, sB_uP, sN_uR, sC_uR, sL_uR, sM_uR, sK_uR, sP_uR, sR_uR, sT_uR, sB_uR, sN_uT, sC_uT, sL_uT, sM_uT, sK_uT, sP_uT, sR_uT, sT_uT, sB_uT, sN_uB, sC_uB, sL_uB, sM_uB, sK_uB, sP_uB, sR_uB, sT_uB, sB_uB, sN_apS, sC_apS, sL_apS, sM_apS, sK_apS, sP_apS, sR_apS, sT_apS, sB_apS, sN_meS, sC_meS, sL_meS, sM_meS, sK_meS, sP_meS, sR_meS, sT_meS, sB_meS] at hB ⊢
  refine ⟨i1, ?_, ?_, i4, ?_, ?_, hB⟩
  · intro w
    by_cases q : w = v
    · subst q; omega
    · rw [hCn w q]; exact i2 w
  · intro w hw
    exact ⟨(i3 w hw).1, (hCn w (by omega)).trans (i3 w hw).2⟩
  · intro w s
    unfold up2
    split
    · exact hk
    · exact i5 w s
  · intro w s
    by_cases q : w = v ∧ s = sC σ v
    · obtain ⟨rfl, rfl⟩ := q
      rw [up2_s]; exact ht
    · rw [up2_n _ q]; exact i6 w s
theorem inv_av {σ : St} (hI : Inv σ) {a b c : Nat} (hn : sN σ < 4) (ha : a = 2 ∨ a = 3) (hb : b = 2 ∨ b = 3) (hc : c = 2 ∨ c = 3) {u : Nat → Nat → Int32} (h : tfP (meS σ (sN σ) a b c) (sN σ) u) : Inv (uB (uN (meS σ (sN σ) a b c) (sN σ + 1)) u) := by
  have h1 := inv_me hI ha hb hc h
  have hB : ∀ w s, bg (uN (meS σ (sN σ) a b c) (sN σ + 1)) w s = bg (meS σ (sN σ) a b c) w s := fun w s => bg_row (by rw [sM_uN]) (by rw [sK_uN]) (by rw [sR_uN]) s
  obtain ⟨i1, i2, i3, i4, i5, i6, i7⟩ := h1
  unfold Inv
  simp only [bg_uB, hB, sN_uN, sC_uN, sL_uN, sM_uN, sK_uN, sP_uN, sR_uN, sT_uN, sB_uN, sN_uC, sC_uC, sL_uC, sM_uC, sK_uC, sP_uC, sR_uC, sT_uC, sB_uC, sN_uL, sC_uL, sL_uL, sM_uL, sK_uL, sP_uL, sR_uL, sT_uL, sB_uL, sN_uM, sC_uM, sL_uM, sM_uM, sK_uM, sP_uM, sR_uM, sT_uM, sB_uM, sN_uK, sC_uK, sL_uK, sM_uK, sK_uK, sP_uK, sR_uK, sT_uK, sB_uK, sN_uP, sC_uP, sL_uP, sM_uP, sK_uP, sP_uP, sR_uP, sT_uP, sB_uP, sN_uR, sC_uR, sL_uR, sM_uR, sK_uR, sP_uR, sR_uR, sT_uR, sB_uR, sN_uT, sC_uT, sL_uT, sM_uT, sK_uT, sP_uT, sR_uT, sT_uT, sB_uT, sN_uB, sC_uB, sL_uB, sM_uB, sK_uB, sP_uB, sR_uB, sT_uB, sB_uB, sN_apS, sC_apS, sL_apS, sM_apS, sK_apS, sP_apS, sR_apS, sT_apS, sB_apS, sN_meS, sC_meS, sL_meS, sM_meS, sK_meS, sP_meS, sR_meS, sT_meS, sB_meS] at i1 i2 i3 i4 i5 i6 i7 ⊢
  refine ⟨hn, i2, fun w hw => i3 w (by omega), ?_, i5, i6, i7⟩
  intro w hw i hi
  by_cases q : w = sN σ
  · subst q
    rcases (show i = 0 ∨ i = 1 ∨ i = 2 by omega) with rfl | rfl | rfl
    · rw [up2_n _ (by omega), up2_n _ (by omega), up2_s]; exact ha
    · rw [up2_n _ (by omega), up2_s]; exact hb
    · rw [up2_s]; exact hc
  · exact i4 w (by omega) i hi
/-- what append needs, of a state that append left -/
theorem ivA_ap {σ : St} {v : Nat} (hI : IvA σ v) {k : Nat} {p : Int32} {r : Bool} {t : Int32} {u : Nat → Nat → Int32} (hk : k ≤ 3) (h : tfP (apS σ v k p r t) v u) : IvA (uB (apS σ v k p r t) u) v := by
  have h2 := h.2
  unfold IvA
  simp only [bg_uB, sN_uN, sC_uN, sL_uN, sM_uN, sK_uN, sP_uN, sR_uN, sT_uN, sB_uN, sN_uC, sC_uC, sL_uC, sM_uC, sK_uC, sP_uC, sR_uC, sT_uC, sB_uC, sN_uL, sC_uL, sL_uL, sM_uL, sK_uL, sP_uL, sR_uL, sT_uL, sB_uL, sN_uM, sC_uM, sL_uM, sM_uM, sK_uM, sP_uM, sR_uM, sT_uM, sB_uM, sN_uK, sC_uK, sL_uK, sM_uK, sK_uK, sP_uK, sR_uK, sT_uK, sB_uK, sN_uP, sC_uP, sL_uP, sM_uP, sK_uP, sP_uP, sR_uP, sT_uP, sB_uP, sN_uR, sC_uR, sL_uR, sM_uR, sK_uR, sP_uR, sR_uR, sT_uR, sB_uR, sN_uT, sC_uT, sL_uT, sM_uT, sK_uT, sP_uT, sR_uT, sT_uT, sB_uT, sN_uB, sC_uB, sL_uB, sM_uB, sK_uB, sP_uB, sR_uB, sT_uB, sB_uB, sN_apS, sC_apS, sL_apS, sM_apS, sK_apS, sP_apS, sR_apS, sT_apS, sB_apS, sN_meS, sC_meS, sL_meS, sM_meS, sK_meS, sP_meS, sR_meS, sT_meS, sB_meS] at h2 ⊢
  refine ⟨fun s => ?_, h2⟩
  unfold up2
  split
  · exact hk
  · exact hI.1 s
