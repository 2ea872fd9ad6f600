/-- which state: written, or as it was -/
def efs : Nat → St → St → St
  | 0, a, _ => a
  | _ + 1, _, b => b
theorem isS_o {σ : St} (hI : Inv σ) {p q : Int32} (h : (okV σ p && okS σ (ix p) q) = true) : ∃ v s, v < sN σ ∧ s < sC σ v ∧ p = nI v ∧ q = nI s := by
  simp only [Bool.and_eq_true] at h
  obtain ⟨v, hv, rfl⟩ := okV_o hI.N h.1
  have h4 := hI.v4 hv
  rw [ix_n (by omega)] at h
  obtain ⟨s, hs, rfl⟩ := okS_o (hI.C v) h.2
  exact ⟨v, s, hv, hs, rfl, rfl⟩
/-- the reference's two numbers: the best so far, the fewest so far -/
def bsM (o : Option (Nat × Nat)) (b m : Int32) : Prop := match o with
  | none => b = -1
  | some (q, k) => b = nI q ∧ m = nI k ∧ q < 2147483647 ∧ k < 2147483647
theorem bsM_I {o : Option (Nat × Nat)} {b m : Int32} (h : bsM o b m) : b = bsI o := by
  cases o with
  | none => exact h
  | some x => exact h.1
section BM
variable {ok : Nat → Bool} {f : Nat → Nat} {i : Nat} {b m : Int32}
theorem bm_skip (h : bsM (bst ok f i) b m) (ho : ok i = false) : bsM (bst ok f (i + 1)) b m := by
  show bsM (match bst ok f i with
    | none => if ok i then some (i, f i) else none
    | some (b, m) => if ok i && decide (f i < m) then some (i, f i) else some (b, m)) b m
  cases e : bst ok f i with
  | none => rw [e] at h; simp only [ho]; exact h
  | some x => rw [e] at h; obtain ⟨q, k⟩ := x; simp only [ho]; exact h
theorem bm_keep (h : bsM (bst ok f i) b m) (hf : f i < 2147483647) (hb : ¬ b = -1) (hm : ¬ nI (f i) < m) : bsM (bst ok f (i + 1)) b m := by
  show bsM (match bst ok f i with
    | none => if ok i then some (i, f i) else none
    | some (b, m) => if ok i && decide (f i < m) then some (i, f i) else some (b, m)) b m
  cases e : bst ok f i with
  | none => rw [e] at h; exact absurd h hb
  | some x =>
    rw [e] at h
    obtain ⟨q, k⟩ := x
    obtain ⟨h1, h2, h3, h4⟩ := h
    have h5 : ¬ f i < k := fun z => hm (h2 ▸ (nI_ltI (by omega) (by omega)).mpr z)
    have h6 : (ok i && decide (f i < k)) = false := by rw [decide_eq_false h5, Bool.and_false]
    simp only [h6]
    exact ⟨h1, h2, h3, h4⟩
theorem bm_take (h : bsM (bst ok f i) b m) (ho : ok i = true) (hi : i < 2147483647) (hf : f i < 2147483647) (hm : b = -1 ∨ nI (f i) < m) : bsM (bst ok f (i + 1)) (nI i) (nI (f i)) := by
  show bsM (match bst ok f i with
    | none => if ok i then some (i, f i) else none
    | some (b, m) => if ok i && decide (f i < m) then some (i, f i) else some (b, m)) (nI i) (nI (f i))
  cases e : bst ok f i with
  | none => simp only [ho]; exact ⟨rfl, rfl, hi, hf⟩
  | some x =>
    rw [e] at h
    obtain ⟨q, k⟩ := x
    obtain ⟨h1, h2, h3, h4⟩ := h
    have h5 : f i < k := by
      rcases hm with hm | hm
      · exact absurd (h1.symm.trans hm) (nI_m1 (by omega))
      · exact (nI_ltI (by omega) (by omega)).mp (h2 ▸ hm)
    have h6 : (ok i && decide (f i < k)) = true := by rw [ho, decide_eq_true h5]; rfl
    simp only [h6]
    exact ⟨rfl, rfl, hi, hf⟩
theorem bm_2 (h0 : ok 0 = false) (h1 : ok 1 = true) (hf : f 1 < 2147483647) : bsM (bst ok f 2) 1 (nI (f 1)) := by
  have e1 : bst ok f 1 = none := by show (if ok 0 then some (0, f 0) else none) = none; rw [h0]; rfl
  have h : bsM (bst ok f 1) (-1) 0 := by rw [e1]; rfl
  exact bm_take h h1 (by decide) hf (Or.inl rfl)
end BM
