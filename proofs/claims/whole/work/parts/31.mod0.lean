/-! THE REFERENCE: what its rows hold -/
theorem a24 {α : Type} (F : Nat → Nat → α) {v s : Nat} (hs : s < 24) : F ((24 * v + s) / 24) ((24 * v + s) % 24) = F v s := by
  rw [show (24 * v + s) / 24 = v by omega, show (24 * v + s) % 24 = s by omega]
theorem a3 {α : Type} (F : Nat → Nat → α) {v s : Nat} (hs : s < 3) : F ((3 * v + s) / 3) ((3 * v + s) % 3) = F v s := by
  rw [show (3 * v + s) / 3 = v by omega, show (3 * v + s) % 3 = s by omega]
theorem inr_lt {p : Int32} {n : Nat} (hn : n ≤ 24) : inr 0 (nI n - 1) p = (!decide (p < 0) && decide (p < nI n)) := by
  unfold inr
  congr 1
  have h1 : (nI n).toInt = n := nI_toInt (by omega)
  have h2 : (nI n - 1).toInt = (n : Int) - 1 := by
    rcases Nat.eq_zero_or_pos n with q | q
    · subst q; decide
    · rw [show nI n - 1 = nI (n - 1) from pk_sub (a := n) (b := 1) q, nI_toInt (by omega)]; omega
  refine decide_eq_decide.mpr ?_
  rw [Int32.le_iff_toInt_le, Int32.lt_iff_toInt_lt, h1, h2]
  omega
theorem inr_V {σ : St} (hN : sN σ ≤ 4) (p : Int32) : inr 0 (nI (sN σ) - 1) p = okV σ p := inr_lt (by omega)
theorem inr_S {σ : St} {v : Nat} (hC : sC σ v ≤ 24) (q : Int32) : inr 0 (nI (sC σ v) - 1) q = okS σ v q := inr_lt hC
theorem okV_o {σ : St} {p : Int32} (hN : sN σ ≤ 4) (h : okV σ p = true) : ∃ v, v < sN σ ∧ p = nI v := by
  unfold okV at h
  simp only [Bool.and_eq_true, Bool.not_eq_true', decide_eq_false_iff_not, decide_eq_true_eq] at h
  exact lt_nat (by omega) h.1 h.2
theorem okS_o {σ : St} {v : Nat} {p : Int32} (hC : sC σ v ≤ 24) (h : okS σ v p = true) : ∃ s, s < sC σ v ∧ p = nI s := by
  unfold okS at h
  simp only [Bool.and_eq_true, Bool.not_eq_true', decide_eq_false_iff_not, decide_eq_true_eq] at h
  exact lt_nat (by omega) h.1 h.2
/-- a row holds a voice, minim by minim -/
def LayOf (σ : St) (v : Nat) (n : Nat) (f : Nat → Int32) : Prop := ∀ t, t < n → f t = plc σ v t
theorem lay_up {σ : St} {v a : Nat} {f : Nat → Int32} {x : Int32} (h : LayOf σ v a f) (hx : x = plc σ v a) : LayOf σ v (a + 1) (upd f a x) := by
  intro t ht
  show (if t = a then x else f t) = _
  by_cases q : t = a
  · rw [if_pos q, q, hx]
  · rw [if_neg q]; exact h t (by omega)
theorem lg_3 (a b c : Nat) : 1 * c * b * a = a * b * c := by rw [Nat.one_mul, Nat.mul_comm c b, Nat.mul_comm (b * c) a, Nat.mul_assoc]
theorem lg_2 (b c : Nat) : 1 * c * b = b * c := by rw [Nat.one_mul, Nat.mul_comm]
/-- one and the same distance -/
theorem dist_eq (x y a b : Int32) : x + 2 * a - y - 2 * b = x - y - 2 * (b - a) := by
  have h1 : (2 : Int32) * (b - a) = 2 * b - 2 * a := Int32.mul_sub
  rw [h1]
  simp only [Int32.sub_eq_add_neg, Int32.neg_add, Int32.neg_neg]
  ac_rfl
theorem cls_m {x y a b : Int32} (h1 : ¬ x = -1) (h2 : ¬ y = -1) : cls x y (2 * (b - a)) = isCl (x + 2 * a - y - 2 * b) := by
  unfold cls
  rw [decide_eq_false h1, decide_eq_false h2, dist_eq]; rfl
theorem cls_c {x y u : Int32} (h1 : ¬ x = -1) (h2 : ¬ y = -1) : cls x y u = isCl (x - y - u) := by
  unfold cls
  rw [decide_eq_false h1, decide_eq_false h2]; rfl
