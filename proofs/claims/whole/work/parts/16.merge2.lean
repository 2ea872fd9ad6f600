theorem cnt_0 {F : Nat → Bool} : ∀ {n : Nat}, cnt F n = 0 → ∀ t, t < n → F t = false
  | 0, _, t, ht => by omega
  | n + 1, h, t, ht => by
    have h1 : cnt F n + (if F n then 1 else 0) = 0 := h
    rcases Nat.lt_or_ge t n with q | q
    · exact cnt_0 (n := n) (by omega) t q
    · have e : t = n := by omega
      subst e
      cases hF : F t
      · rfl
      · rw [hF] at h1; simp at h1
section MX
variable {σ : St} {v w d : Nat} {up : Int32} {i j : Nat} {x : Int32}
theorem mx_iA (hx : x = nI (mgN σ v w d up i j)) (hi : i < sC σ v) (hj : j < sC σ w) (hle : bg σ v (i + 1) ≤ bg σ w (j + 1) + d) (h : ¬ max (bg σ v i) (bg σ w j + d) < bg σ v (i + 1)) : x = nI (mgN σ v w d up (i + 1) j) := by
  rw [mg_i hi hj hle, if_neg (fun q => h q.1)]; exact hx
theorem mx_iB (hx : x = nI (mgN σ v w d up i j)) (hi : i < sC σ v) (hj : j < sC σ w) (hle : bg σ v (i + 1) ≤ bg σ w (j + 1) + d) (h : cls (sP σ v i) (sP σ w j) up = false) : x = nI (mgN σ v w d up (i + 1) j) := by
  rw [mg_i hi hj hle, if_neg (fun q => by rw [h] at q; exact absurd q.2 (by decide))]; exact hx
theorem mx_iC (hx : x = nI (mgN σ v w d up i j)) (hi : i < sC σ v) (hj : j < sC σ w) (hle : bg σ v (i + 1) ≤ bg σ w (j + 1) + d) (h : cls (sP σ v i) (sP σ w j) up = true) (h2 : max (bg σ v i) (bg σ w j + d) < bg σ v (i + 1)) : x + (nI (min (bg σ v (i + 1)) (bg σ w (j + 1) + d)) - nI (max (bg σ v i) (bg σ w j + d))) = nI (mgN σ v w d up (i + 1) j) := by
  rw [mg_i hi hj hle, if_pos ⟨h2, h⟩, hx, show min (bg σ v (i + 1)) (bg σ w (j + 1) + d) = bg σ v (i + 1) by omega, pk_sub (by omega), nI_add]
theorem mx_jA (hx : x = nI (mgN σ v w d up i j)) (hi : i < sC σ v) (hj : j < sC σ w) (hle : bg σ w (j + 1) + d < bg σ v (i + 1)) (h : ¬ max (bg σ v i) (bg σ w j + d) < bg σ w (j + 1) + d) : x = nI (mgN σ v w d up i (j + 1)) := by
  rw [mg_j hi hj hle, if_neg (fun q => h q.1)]; exact hx
theorem mx_jB (hx : x = nI (mgN σ v w d up i j)) (hi : i < sC σ v) (hj : j < sC σ w) (hle : bg σ w (j + 1) + d < bg σ v (i + 1)) (h : cls (sP σ v i) (sP σ w j) up = false) : x = nI (mgN σ v w d up i (j + 1)) := by
  rw [mg_j hi hj hle, if_neg (fun q => by rw [h] at q; exact absurd q.2 (by decide))]; exact hx
theorem mx_jC (hx : x = nI (mgN σ v w d up i j)) (hi : i < sC σ v) (hj : j < sC σ w) (hle : bg σ w (j + 1) + d < bg σ v (i + 1)) (h : cls (sP σ v i) (sP σ w j) up = true) (h2 : max (bg σ v i) (bg σ w j + d) < bg σ w (j + 1) + d) : x + (nI (min (bg σ v (i + 1)) (bg σ w (j + 1) + d)) - nI (max (bg σ v i) (bg σ w j + d))) = nI (mgN σ v w d up i (j + 1)) := by
  rw [mg_j hi hj hle, if_pos ⟨h2, h⟩, hx, show min (bg σ v (i + 1)) (bg σ w (j + 1) + d) = bg σ w (j + 1) + d by omega, pk_sub (by omega), nI_add]
/-- the first clash: none so far, and here is one -/
theorem fs_hit (h0 : mgN σ v w 0 up i j = 0) (hi : i < sC σ v) (hj : j < sC σ w) (h : cls (sP σ v i) (sP σ w j) up = true) (h2 : max (bg σ v i) (bg σ w j) < min (bg σ v (i + 1)) (bg σ w (j + 1))) (hb : bg σ v (i + 1) < 2 ^ 31) : fst (clT σ v w 0 up) (len σ v) = nI (max (bg σ v i) (bg σ w j)) := by
  have hm := bg_mono σ v (show i + 1 ≤ sC σ v by omega)
  refine fst_t (by omega) (fun t ht => cnt_0 h0 t (by show t < max (bg σ v i) (bg σ w j + 0); omega)) ?_ (by show _ < bg σ v (sC σ v); omega)
  rw [clT_in hi hj (by omega) (by omega) (by omega) (by omega)]
  exact h
theorem fs_no (h0 : mgN σ v w 0 up i j = 0) (h : i = sC σ v ∨ j = sC σ w) : fst (clT σ v w 0 up) (len σ v) = -1 := by
  have h1 := mg_e (σ := σ) (v := v) (w := w) (d := 0) (up := up) (i := i) (j := j) h
  exact fst_f (fun t ht => cnt_0 (h1.symm.trans h0) t ht)
theorem f0_i (h0 : mgN σ v w 0 up i j = 0) (hi : i < sC σ v) (hj : j < sC σ w) (hle : bg σ v (i + 1) ≤ bg σ w (j + 1)) (h : ¬ max (bg σ v i) (bg σ w j) < min (bg σ v (i + 1)) (bg σ w (j + 1)) ∨ cls (sP σ v i) (sP σ w j) up = false) : mgN σ v w 0 up (i + 1) j = 0 := by
  rw [mg_i hi hj (by omega), h0, if_neg]
  rintro ⟨q1, q2⟩
  rcases h with h | h
  · omega
  · rw [h] at q2; exact absurd q2 (by decide)
theorem f0_j (h0 : mgN σ v w 0 up i j = 0) (hi : i < sC σ v) (hj : j < sC σ w) (hle : bg σ w (j + 1) < bg σ v (i + 1)) (h : ¬ max (bg σ v i) (bg σ w j) < min (bg σ v (i + 1)) (bg σ w (j + 1)) ∨ cls (sP σ v i) (sP σ w j) up = false) : mgN σ v w 0 up i (j + 1) = 0 := by
  rw [mg_j hi hj (by omega), h0, if_neg]
  rintro ⟨q1, q2⟩
  rcases h with h | h
  · omega
  · rw [h] at q2; exact absurd q2 (by decide)
end MX
