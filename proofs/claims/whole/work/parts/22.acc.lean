/-! WHAT IS READ of a state that was written to -/
theorem sN_uN (σ : St) (n : Nat) : sN (uN σ n) = n := rfl
theorem sC_uN (σ : St) (n : Nat) : sC (uN σ n) = sC σ := rfl
theorem sL_uN (σ : St) (n : Nat) : sL (uN σ n) = sL σ := rfl
theorem sM_uN (σ : St) (n : Nat) : sM (uN σ n) = sM σ := rfl
theorem sK_uN (σ : St) (n : Nat) : sK (uN σ n) = sK σ := rfl
theorem sP_uN (σ : St) (n : Nat) : sP (uN σ n) = sP σ := rfl
theorem sR_uN (σ : St) (n : Nat) : sR (uN σ n) = sR σ := rfl
theorem sT_uN (σ : St) (n : Nat) : sT (uN σ n) = sT σ := rfl
theorem sB_uN (σ : St) (n : Nat) : sB (uN σ n) = sB σ := rfl
theorem sN_uC (σ : St) (v n : Nat) : sN (uC σ v n) = sN σ := rfl
theorem sC_uC (σ : St) (v n : Nat) : sC (uC σ v n) = up1 (sC σ) v n := rfl
theorem sL_uC (σ : St) (v n : Nat) : sL (uC σ v n) = sL σ := rfl
theorem sM_uC (σ : St) (v n : Nat) : sM (uC σ v n) = sM σ := rfl
theorem sK_uC (σ : St) (v n : Nat) : sK (uC σ v n) = sK σ := rfl
theorem sP_uC (σ : St) (v n : Nat) : sP (uC σ v n) = sP σ := rfl
theorem sR_uC (σ : St) (v n : Nat) : sR (uC σ v n) = sR σ := rfl
theorem sT_uC (σ : St) (v n : Nat) : sT (uC σ v n) = sT σ := rfl
theorem sB_uC (σ : St) (v n : Nat) : sB (uC σ v n) = sB σ := rfl
theorem sN_uL (σ : St) (v : Nat) (x : Int32) : sN (uL σ v x) = sN σ := rfl
theorem sC_uL (σ : St) (v : Nat) (x : Int32) : sC (uL σ v x) = sC σ := rfl
theorem sL_uL (σ : St) (v : Nat) (x : Int32) : sL (uL σ v x) = up1 (sL σ) v x := rfl
theorem sM_uL (σ : St) (v : Nat) (x : Int32) : sM (uL σ v x) = sM σ := rfl
theorem sK_uL (σ : St) (v : Nat) (x : Int32) : sK (uL σ v x) = sK σ := rfl
theorem sP_uL (σ : St) (v : Nat) (x : Int32) : sP (uL σ v x) = sP σ := rfl
theorem sR_uL (σ : St) (v : Nat) (x : Int32) : sR (uL σ v x) = sR σ := rfl
theorem sT_uL (σ : St) (v : Nat) (x : Int32) : sT (uL σ v x) = sT σ := rfl
theorem sB_uL (σ : St) (v : Nat) (x : Int32) : sB (uL σ v x) = sB σ := rfl
theorem sN_uM (σ : St) (v i x : Nat) : sN (uM σ v i x) = sN σ := rfl
theorem sC_uM (σ : St) (v i x : Nat) : sC (uM σ v i x) = sC σ := rfl
theorem sL_uM (σ : St) (v i x : Nat) : sL (uM σ v i x) = sL σ := rfl
theorem sM_uM (σ : St) (v i x : Nat) : sM (uM σ v i x) = up2 (sM σ) v i x := rfl
theorem sK_uM (σ : St) (v i x : Nat) : sK (uM σ v i x) = sK σ := rfl
theorem sP_uM (σ : St) (v i x : Nat) : sP (uM σ v i x) = sP σ := rfl
theorem sR_uM (σ : St) (v i x : Nat) : sR (uM σ v i x) = sR σ := rfl
theorem sT_uM (σ : St) (v i x : Nat) : sT (uM σ v i x) = sT σ := rfl
theorem sB_uM (σ : St) (v i x : Nat) : sB (uM σ v i x) = sB σ := rfl
theorem sN_uK (σ : St) (v s x : Nat) : sN (uK σ v s x) = sN σ := rfl
theorem sC_uK (σ : St) (v s x : Nat) : sC (uK σ v s x) = sC σ := rfl
theorem sL_uK (σ : St) (v s x : Nat) : sL (uK σ v s x) = sL σ := rfl
theorem sM_uK (σ : St) (v s x : Nat) : sM (uK σ v s x) = sM σ := rfl
theorem sK_uK (σ : St) (v s x : Nat) : sK (uK σ v s x) = up2 (sK σ) v s x := rfl
theorem sP_uK (σ : St) (v s x : Nat) : sP (uK σ v s x) = sP σ := rfl
theorem sR_uK (σ : St) (v s x : Nat) : sR (uK σ v s x) = sR σ := rfl
theorem sT_uK (σ : St) (v s x : Nat) : sT (uK σ v s x) = sT σ := rfl
theorem sB_uK (σ : St) (v s x : Nat) : sB (uK σ v s x) = sB σ := rfl
theorem sN_uP (σ : St) (v s : Nat) (x : Int32) : sN (uP σ v s x) = sN σ := rfl
theorem sC_uP (σ : St) (v s : Nat) (x : Int32) : sC (uP σ v s x) = sC σ := rfl
theorem sL_uP (σ : St) (v s : Nat) (x : Int32) : sL (uP σ v s x) = sL σ := rfl
theorem sM_uP (σ : St) (v s : Nat) (x : Int32) : sM (uP σ v s x) = sM σ := rfl
theorem sK_uP (σ : St) (v s : Nat) (x : Int32) : sK (uP σ v s x) = sK σ := rfl
theorem sP_uP (σ : St) (v s : Nat) (x : Int32) : sP (uP σ v s x) = up2 (sP σ) v s x := rfl
theorem sR_uP (σ : St) (v s : Nat) (x : Int32) : sR (uP σ v s x) = sR σ := rfl
theorem sT_uP (σ : St) (v s : Nat) (x : Int32) : sT (uP σ v s x) = sT σ := rfl
theorem sB_uP (σ : St) (v s : Nat) (x : Int32) : sB (uP σ v s x) = sB σ := rfl
theorem sN_uR (σ : St) (v s : Nat) (x : Bool) : sN (uR σ v s x) = sN σ := rfl
theorem sC_uR (σ : St) (v s : Nat) (x : Bool) : sC (uR σ v s x) = sC σ := rfl
theorem sL_uR (σ : St) (v s : Nat) (x : Bool) : sL (uR σ v s x) = sL σ := rfl
theorem sM_uR (σ : St) (v s : Nat) (x : Bool) : sM (uR σ v s x) = sM σ := rfl
theorem sK_uR (σ : St) (v s : Nat) (x : Bool) : sK (uR σ v s x) = sK σ := rfl
theorem sP_uR (σ : St) (v s : Nat) (x : Bool) : sP (uR σ v s x) = sP σ := rfl
theorem sR_uR (σ : St) (v s : Nat) (x : Bool) : sR (uR σ v s x) = up2 (sR σ) v s x := rfl
theorem sT_uR (σ : St) (v s : Nat) (x : Bool) : sT (uR σ v s x) = sT σ := rfl
theorem sB_uR (σ : St) (v s : Nat) (x : Bool) : sB (uR σ v s x) = sB σ := rfl
theorem sN_uT (σ : St) (v s : Nat) (x : Int32) : sN (uT σ v s x) = sN σ := rfl
theorem sC_uT (σ : St) (v s : Nat) (x : Int32) : sC (uT σ v s x) = sC σ := rfl
theorem sL_uT (σ : St) (v s : Nat) (x : Int32) : sL (uT σ v s x) = sL σ := rfl
theorem sM_uT (σ : St) (v s : Nat) (x : Int32) : sM (uT σ v s x) = sM σ := rfl
theorem sK_uT (σ : St) (v s : Nat) (x : Int32) : sK (uT σ v s x) = sK σ := rfl
theorem sP_uT (σ : St) (v s : Nat) (x : Int32) : sP (uT σ v s x) = sP σ := rfl
theorem sR_uT (σ : St) (v s : Nat) (x : Int32) : sR (uT σ v s x) = sR σ := rfl
theorem sT_uT (σ : St) (v s : Nat) (x : Int32) : sT (uT σ v s x) = up2 (sT σ) v s x := rfl
theorem sB_uT (σ : St) (v s : Nat) (x : Int32) : sB (uT σ v s x) = sB σ := rfl
theorem sN_uB (σ : St) (b : Nat → Nat → Int32) : sN (uB σ b) = sN σ := rfl
theorem sC_uB (σ : St) (b : Nat → Nat → Int32) : sC (uB σ b) = sC σ := rfl
theorem sL_uB (σ : St) (b : Nat → Nat → Int32) : sL (uB σ b) = sL σ := rfl
theorem sM_uB (σ : St) (b : Nat → Nat → Int32) : sM (uB σ b) = sM σ := rfl
theorem sK_uB (σ : St) (b : Nat → Nat → Int32) : sK (uB σ b) = sK σ := rfl
theorem sP_uB (σ : St) (b : Nat → Nat → Int32) : sP (uB σ b) = sP σ := rfl
theorem sR_uB (σ : St) (b : Nat → Nat → Int32) : sR (uB σ b) = sR σ := rfl
theorem sT_uB (σ : St) (b : Nat → Nat → Int32) : sT (uB σ b) = sT σ := rfl
theorem sB_uB (σ : St) (b : Nat → Nat → Int32) : sB (uB σ b) = b := rfl
theorem sN_apS (σ : St) (v k : Nat) (p : Int32) (r : Bool) (t : Int32) : sN (apS σ v k p r t) = sN σ := by unfold apS; simp only [sN_uN, sN_uC, sN_uL, sN_uM, sN_uK, sN_uP, sN_uR, sN_uT, sN_uB]
theorem sC_apS (σ : St) (v k : Nat) (p : Int32) (r : Bool) (t : Int32) : sC (apS σ v k p r t) = up1 (sC σ) v (sC σ v + 1) := by unfold apS; simp only [sC_uN, sC_uC, sC_uL, sC_uM, sC_uK, sC_uP, sC_uR, sC_uT, sC_uB]
theorem sL_apS (σ : St) (v k : Nat) (p : Int32) (r : Bool) (t : Int32) : sL (apS σ v k p r t) = sL σ := by unfold apS; simp only [sL_uN, sL_uC, sL_uL, sL_uM, sL_uK, sL_uP, sL_uR, sL_uT, sL_uB]
theorem sM_apS (σ : St) (v k : Nat) (p : Int32) (r : Bool) (t : Int32) : sM (apS σ v k p r t) = sM σ := by unfold apS; simp only [sM_uN, sM_uC, sM_uL, sM_uM, sM_uK, sM_uP, sM_uR, sM_uT, sM_uB]
theorem sK_apS (σ : St) (v k : Nat) (p : Int32) (r : Bool) (t : Int32) : sK (apS σ v k p r t) = up2 (sK σ) v (sC σ v) k := by unfold apS; simp only [sK_uN, sK_uC, sK_uL, sK_uM, sK_uK, sK_uP, sK_uR, sK_uT, sK_uB]
theorem sP_apS (σ : St) (v k : Nat) (p : Int32) (r : Bool) (t : Int32) : sP (apS σ v k p r t) = up2 (sP σ) v (sC σ v) p := by unfold apS; simp only [sP_uN, sP_uC, sP_uL, sP_uM, sP_uK, sP_uP, sP_uR, sP_uT, sP_uB]
theorem sR_apS (σ : St) (v k : Nat) (p : Int32) (r : Bool) (t : Int32) : sR (apS σ v k p r t) = up2 (sR σ) v (sC σ v) r := by unfold apS; simp only [sR_uN, sR_uC, sR_uL, sR_uM, sR_uK, sR_uP, sR_uR, sR_uT, sR_uB]
theorem sT_apS (σ : St) (v k : Nat) (p : Int32) (r : Bool) (t : Int32) : sT (apS σ v k p r t) = up2 (sT σ) v (sC σ v) t := by unfold apS; simp only [sT_uN, sT_uC, sT_uL, sT_uM, sT_uK, sT_uP, sT_uR, sT_uT, sT_uB]
theorem sB_apS (σ : St) (v k : Nat) (p : Int32) (r : Bool) (t : Int32) : sB (apS σ v k p r t) = sB σ := by unfold apS; simp only [sB_uN, sB_uC, sB_uL, sB_uM, sB_uK, sB_uP, sB_uR, sB_uT, sB_uB]
theorem sN_meS (σ : St) (v a b c : Nat) : sN (meS σ v a b c) = sN σ := by unfold meS; simp only [sN_uN, sN_uC, sN_uL, sN_uM, sN_uK, sN_uP, sN_uR, sN_uT, sN_uB]
theorem sC_meS (σ : St) (v a b c : Nat) : sC (meS σ v a b c) = sC σ := by unfold meS; simp only [sC_uN, sC_uC, sC_uL, sC_uM, sC_uK, sC_uP, sC_uR, sC_uT, sC_uB]
theorem sL_meS (σ : St) (v a b c : Nat) : sL (meS σ v a b c) = sL σ := by unfold meS; simp only [sL_uN, sL_uC, sL_uL, sL_uM, sL_uK, sL_uP, sL_uR, sL_uT, sL_uB]
theorem sM_meS (σ : St) (v a b c : Nat) : sM (meS σ v a b c) = up2 (up2 (up2 (sM σ) v 0 a) v 1 b) v 2 c := by unfold meS; simp only [sM_uN, sM_uC, sM_uL, sM_uM, sM_uK, sM_uP, sM_uR, sM_uT, sM_uB]
theorem sK_meS (σ : St) (v a b c : Nat) : sK (meS σ v a b c) = sK σ := by unfold meS; simp only [sK_uN, sK_uC, sK_uL, sK_uM, sK_uK, sK_uP, sK_uR, sK_uT, sK_uB]
theorem sP_meS (σ : St) (v a b c : Nat) : sP (meS σ v a b c) = sP σ := by unfold meS; simp only [sP_uN, sP_uC, sP_uL, sP_uM, sP_uK, sP_uP, sP_uR, sP_uT, sP_uB]
theorem sR_meS (σ : St) (v a b c : Nat) : sR (meS σ v a b c) = sR σ := by unfold meS; simp only [sR_uN, sR_uC, sR_uL, sR_uM, sR_uK, sR_uP, sR_uR, sR_uT, sR_uB]
theorem sT_meS (σ : St) (v a b c : Nat) : sT (meS σ v a b c) = sT σ := by unfold meS; simp only [sT_uN, sT_uC, sT_uL, sT_uM, sT_uK, sT_uP, sT_uR, sT_uT, sT_uB]
theorem sB_meS (σ : St) (v a b c : Nat) : sB (meS σ v a b c) = sB σ := by unfold meS; simp only [sB_uN, sB_uC, sB_uL, sB_uM, sB_uK, sB_uP, sB_uR, sB_uT, sB_uB]
theorem St_eta (σ : St) : σ = mkS (sN σ) (sC σ) (sL σ) (sM σ) (sK σ) (sP σ) (sR σ) (sT σ) (sB σ) := rfl
theorem St_ext {σ τ : St} (hN : sN σ = sN τ) (hC : sC σ = sC τ) (hL : sL σ = sL τ) (hM : sM σ = sM τ) (hK : sK σ = sK τ) (hP : sP σ = sP τ) (hR : sR σ = sR τ) (hT : sT σ = sT τ) (hB : sB σ = sB τ) : σ = τ :=
  (St_eta σ).trans (by rw [hN, hC, hL, hM, hK, hP, hR, hT, hB]; exact (St_eta τ).symm)
theorem apS_uB (σ : St) (b : Nat → Nat → Int32) (v k : Nat) (p : Int32) (r : Bool) (t : Int32) : apS (uB σ b) v k p r t = uB (apS σ v k p r t) b := by
  apply St_ext <;> simp only [sN_uN, sC_uN, sL_uN, sM_uN, sK_uN, sP_uN, sR_uN, sT_uN, sB_uN, sN_uC, sC_uC, sL_uC, sM_uC, sK_uC, sP_uC, sR_uC, sT_uC, sB_uC, sN_uL, sC_uL, sL_uL, sM_uL, sK_uL, sP_uL, sR_uL, sT_uL, sB_uL, sN_uM, sC_uM, sL_uM, sM_uM, sK_uM, sP_uM, sR_uM, sT_uM, sB_uM, sN_uK, sC_uK, sL_uK, sM_uK, sK_uK, sP_uK, sR_uK, sT_uK, sB_uK, sN_uP, sC_uP, sL_uP, sM_uP, sK_uP, sP_uP, sR_uP, sT_uP, sB_uP, sN_uR, sC_uR, sL_uR, sM_uR, sK_uR, sP_uR, sR_uR, sT_uR, sB_uR, sN_uT, sC_uT, sL_uT, sM_uT, sK_uT, sP_uT, sR_uT, sT_uT, sB_uT, sN_uB, sC_uB, sL_uB, sM_uB, sK_uB, sP_uB, sR_uB, sT_uB, sB_uB, sN_apS, sC_apS, sL_apS, sM_apS, sK_apS, sP_apS, sR_apS, sT_apS, sB_apS, sN_meS, sC_meS, sL_meS, sM_meS, sK_meS, sP_meS, sR_meS, sT_meS, sB_meS]
theorem uB_uB (σ : St) (b b2 : Nat → Nat → Int32) : uB (uB σ b) b2 = uB σ b2 := by
  apply St_ext <;> simp only [sN_uN, sC_uN, sL_uN, sM_uN, sK_uN, sP_uN, sR_uN, sT_uN, sB_uN, sN_uC, sC_uC, sL_uC, sM_uC, sK_uC, sP_uC, sR_uC, sT_uC, sB_uC, sN_uL, sC_uL, sL_uL, sM_uL, sK_uL, sP_uL, sR_uL, sT_uL, sB_uL, sN_uM, sC_uM, sL_uM, sM_uM, sK_uM, sP_uM, sR_uM, sT_uM, sB_uM, sN_uK, sC_uK, sL_uK, sM_uK, sK_uK, sP_uK, sR_uK, sT_uK, sB_uK, sN_uP, sC_uP, sL_uP, sM_uP, sK_uP, sP_uP, sR_uP, sT_uP, sB_uP, sN_uR, sC_uR, sL_uR, sM_uR, sK_uR, sP_uR, sR_uR, sT_uR, sB_uR, sN_uT, sC_uT, sL_uT, sM_uT, sK_uT, sP_uT, sR_uT, sT_uT, sB_uT, sN_uB, sC_uB, sL_uB, sM_uB, sK_uB, sP_uB, sR_uB, sT_uB, sB_uB, sN_apS, sC_apS, sL_apS, sM_apS, sK_apS, sP_apS, sR_apS, sT_apS, sB_apS, sN_meS, sC_meS, sL_meS, sM_meS, sK_meS, sP_meS, sR_meS, sT_meS, sB_meS]
theorem uN_uB (σ : St) (b : Nat → Nat → Int32) (n : Nat) : uN (uB σ b) n = uB (uN σ n) b := by
  apply St_ext <;> simp only [sN_uN, sC_uN, sL_uN, sM_uN, sK_uN, sP_uN, sR_uN, sT_uN, sB_uN, sN_uC, sC_uC, sL_uC, sM_uC, sK_uC, sP_uC, sR_uC, sT_uC, sB_uC, sN_uL, sC_uL, sL_uL, sM_uL, sK_uL, sP_uL, sR_uL, sT_uL, sB_uL, sN_uM, sC_uM, sL_uM, sM_uM, sK_uM, sP_uM, sR_uM, sT_uM, sB_uM, sN_uK, sC_uK, sL_uK, sM_uK, sK_uK, sP_uK, sR_uK, sT_uK, sB_uK, sN_uP, sC_uP, sL_uP, sM_uP, sK_uP, sP_uP, sR_uP, sT_uP, sB_uP, sN_uR, sC_uR, sL_uR, sM_uR, sK_uR, sP_uR, sR_uR, sT_uR, sB_uR, sN_uT, sC_uT, sL_uT, sM_uT, sK_uT, sP_uT, sR_uT, sT_uT, sB_uT, sN_uB, sC_uB, sL_uB, sM_uB, sK_uB, sP_uB, sR_uB, sT_uB, sB_uB, sN_apS, sC_apS, sL_apS, sM_apS, sK_apS, sP_apS, sR_apS, sT_apS, sB_apS, sN_meS, sC_meS, sL_meS, sM_meS, sK_meS, sP_meS, sR_meS, sT_meS, sB_meS]
