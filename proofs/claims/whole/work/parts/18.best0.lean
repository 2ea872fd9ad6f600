theorem gV_inj {g : GA} {A : Nat → Prop} {σ : St} {r : va_W} (hD : va_D A (cw g σ ++ r)) {i v : Nat} (hi : i < 4) (hv : v < 4) (e : gV g i = gV g v) : i = v := by
  have := hD.1 _ _ _ _ (cv0 g σ r hi) (cv0 g σ r hv) e
  omega
theorem sm_0 {F : Nat → Nat} {i : Nat} {x : Int32} (hx : x = nI (sum F i)) (h : F i = 0) : x = nI (sum F (i + 1)) := by
  show x = nI (sum F i + F i)
  rw [h]; exact hx
theorem sm_p {F : Nat → Nat} {i k : Nat} {x : Int32} (hx : x = nI (sum F i)) (h : F i = k) : x + nI k = nI (sum F (i + 1)) := by
  show x + nI k = nI (sum F i + F i)
  rw [h, hx, nI_add]
theorem sum_le {F : Nat → Nat} {k : Nat} (h : ∀ i, F i ≤ k) : ∀ n, sum F n ≤ k * n
  | 0 => Nat.le_refl _
  | n + 1 => by
    have h1 := sum_le h n
    have h2 := h n
    show sum F n + F n ≤ k * (n + 1)
    rw [Nat.mul_succ]
    omega
theorem clN_le {σ : St} (hI : Inv σ) (v w d : Nat) (up : Int32) : clN σ v w d up ≤ 648 := Nat.le_trans (cnt_le _ _) (hI.bgC v (Nat.le_refl _))
theorem cwF_le {σ : St} (hI : Inv σ) (v : Nat) (c : Int32) (i : Nat) : cwF σ v c i ≤ 648 := by
  unfold cwF
  split
  · omega
  · split
    · omega
    · exact clN_le hI _ _ _ _
theorem cwN_le {σ : St} (hI : Inv σ) (v : Nat) (c : Int32) : cwN σ v c ≤ 2592 := by
  have h1 := sum_le (cwF_le hI v c) (sN σ)
  have h2 := hI.N
  unfold cwN
  omega
theorem cwF_v {σ : St} {v i : Nat} {c : Int32} (h : i = v) : cwF σ v c i = 0 := if_pos h
theorem cwF_n {σ : St} {v i : Nat} {c : Int32} (h : ¬ i = v) (h2 : sL σ i = -1) : cwF σ v c i = 0 := by unfold cwF; rw [if_neg h, if_pos h2]
theorem cwF_c {σ : St} {v i : Nat} {c : Int32} (h : ¬ i = v) (h2 : ¬ sL σ i = -1) : cwF σ v c i = clN σ v i 0 (2 * (sL σ i - c)) := by unfold cwF; rw [if_neg h, if_neg h2]
/-- the class's two numbers: the best so far, the fewest so far -/
def bsR (o : Option (Nat × Nat)) (b m : Int32) : Prop := match o with
  | none => b = -1 ∧ m = 2147483647
  | some (q, k) => b = nI q ∧ m = nI k ∧ k < 2147483647
theorem bsR_I {o : Option (Nat × Nat)} {b m : Int32} (h : bsR o b m) : b = bsI o := by
  cases o with
  | none => exact h.1
  | some x => exact h.1
section BS
variable {ok : Nat → Bool} {f : Nat → Nat} {i : Nat} {b m : Int32}
theorem bs_skip (h : bsR (bst ok f i) b m) (ho : ok i = false) : bsR (bst ok f (i + 1)) b m := by
  show bsR (match bst ok f i with
    | none => if ok i then some (i, f i) else none
    | some (b, m) => if ok i && decide (f i < m) then some (i, f i) else some (b, m)) b m
  cases e : bst ok f i with
  | none => rw [e] at h; simp only [ho]; exact h
  | some x => rw [e] at h; obtain ⟨q, k⟩ := x; simp only [ho]; exact h
theorem bs_keep (h : bsR (bst ok f i) b m) (hf : f i < 2147483647) (hm : m ≤ nI (f i)) : bsR (bst ok f (i + 1)) b m := by
  show bsR (match bst ok f i with
    | none => if ok i then some (i, f i) else none
    | some (b, m) => if ok i && decide (f i < m) then some (i, f i) else some (b, m)) b m
  cases e : bst ok f i with
  | none =>
    rw [e] at h
    have h1 : m = nI 2147483647 := h.2
    rw [h1] at hm
    exact absurd ((nI_leI (by omega) (by omega)).mp hm) (by omega)
  | some x =>
    rw [e] at h
    obtain ⟨q, k⟩ := x
    obtain ⟨h1, h2, h3⟩ := h
    have h4 : k ≤ f i := (nI_leI (by omega) (by omega)).mp (h2 ▸ hm)
    have h5 : (ok i && decide (f i < k)) = false := by rw [decide_eq_false (by omega), Bool.and_false]
    simp only [h5]
    exact ⟨h1, h2, h3⟩
theorem bs_take (h : bsR (bst ok f i) b m) (ho : ok i = true) (hf : f i < 2147483647) (hm : ¬ m ≤ nI (f i)) : bsR (bst ok f (i + 1)) (nI i) (nI (f i)) := by
  show bsR (match bst ok f i with
    | none => if ok i then some (i, f i) else none
    | some (b, m) => if ok i && decide (f i < m) then some (i, f i) else some (b, m)) (nI i) (nI (f i))
  cases e : bst ok f i with
  | none => simp only [ho]; exact ⟨rfl, rfl, hf⟩
  | some x =>
    rw [e] at h
    obtain ⟨q, k⟩ := x
    obtain ⟨h1, h2, h3⟩ := h
    have h4 : f i < k := by
      rcases Nat.lt_or_ge (f i) k with q | q
      · exact q
      · exact absurd (h2 ▸ (nI_leI (by omega) (by omega)).mpr q) hm
    have h5 : (ok i && decide (f i < k)) = true := by rw [ho, decide_eq_true h4]; rfl
    simp only [h5]
    exact ⟨rfl, rfl, hf⟩
end BS
theorem lngF_le {σ : St} (hI : Inv σ) : ∀ n, lngF σ n ≤ 648
  | 0 => Nat.zero_le _
  | n + 1 => by
    have h1 := lngF_le hI n
    have h2 : len σ n ≤ 648 := hI.bgC n (Nat.le_refl _)
    show (if _ then _ else _) ≤ _
    split <;> omega
theorem lng_mx {σ : St} (hI : Inv σ) (n : Nat) : (if nI (lngF σ n) < nI (len σ n) then nI (len σ n) else nI (lngF σ n)) = nI (lngF σ (n + 1)) := by
  have h1 := lngF_le hI n
  have h2 : len σ n ≤ 648 := hI.bgC n (Nat.le_refl _)
  show _ = nI (if lngF σ n < len σ n then len σ n else lngF σ n)
  by_cases h : lngF σ n < len σ n
  · rw [if_pos ((nI_ltI (by omega) (by omega)).mpr h), if_pos h]
  · rw [if_neg (fun q => h ((nI_ltI (by omega) (by omega)).mp q)), if_neg h]
