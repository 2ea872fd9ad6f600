/-! TWO VOICES SIDE BY SIDE: from sign to sign as from minim to minim -/
theorem plN_in {σ : St} {v t s n : Nat} (hn : s < n) (h1 : bg σ v s ≤ t) (h2 : t < bg σ v (s + 1)) : plN σ v t n = sP σ v s := by
  induction n with
  | zero => omega
  | succ n ih =>
    show (if bg σ v n ≤ t ∧ t < bg σ v (n + 1) then sP σ v n else plN σ v t n) = sP σ v s
    rcases Nat.lt_or_ge s n with q | q
    · have := bg_mono σ v (show s + 1 ≤ n by omega)
      rw [if_neg (by omega), ih q]
    · have e : n = s := by omega
      subst e
      rw [if_pos ⟨h1, h2⟩]
theorem plN_out {σ : St} {v t n : Nat} (h : bg σ v n ≤ t) : plN σ v t n = -1 := by
  induction n with
  | zero => rfl
  | succ n ih =>
    show (if bg σ v n ≤ t ∧ t < bg σ v (n + 1) then sP σ v n else plN σ v t n) = -1
    have := bg_mono σ v (show n ≤ n + 1 by omega)
    rw [if_neg (by omega), ih (by omega)]
theorem plc_in {σ : St} {v t s : Nat} (hn : s < sC σ v) (h1 : bg σ v s ≤ t) (h2 : t < bg σ v (s + 1)) : plc σ v t = sP σ v s := plN_in hn h1 h2
theorem plc_out {σ : St} {v t : Nat} (h : len σ v ≤ t) : plc σ v t = -1 := plN_out h
theorem cls_l {y u : Int32} : cls (-1) y u = false := rfl
theorem cls_r {x u : Int32} : cls x (-1) u = false := by unfold cls; rw [decide_eq_true rfl]; simp
theorem cnt_seg {F : Nat → Bool} {q : Bool} {a : Nat} : ∀ {n : Nat}, (∀ t, a ≤ t → t < a + n → F t = q) → cnt F (a + n) = cnt F a + (if q then n else 0)
  | 0, _ => by simp
  | n + 1, h => by
    have ih := cnt_seg (n := n) (fun t h1 h2 => h t h1 (by omega))
    show cnt F (a + n) + (if F (a + n) then 1 else 0) = _
    rw [ih, h (a + n) (by omega) (by omega)]
    cases q <;> simp <;> omega
theorem cnt_const {F : Nat → Bool} {a : Nat} (h : ∀ t, a ≤ t → F t = false) {n : Nat} (hn : a ≤ n) : cnt F n = cnt F a := by
  have := cnt_seg (F := F) (q := false) (a := a) (n := n - a) (fun t h1 _ => h t h1)
  rw [show a + (n - a) = n by omega] at this
  rw [this]; rfl
section MG
variable {σ : St} {v w d : Nat} {up : Int32}
theorem clT_outA {t : Nat} (h : len σ v ≤ t) : clT σ v w d up t = false := by
  unfold clT
  rw [plc_out h, cls_l, Bool.and_false]
theorem clT_outB {t : Nat} (h : len σ w + d ≤ t) : clT σ v w d up t = false := by
  unfold clT
  rw [plc_out (show len σ w ≤ t - d by omega), cls_r, Bool.and_false]
theorem clT_pre {t : Nat} (h : t < d) : clT σ v w d up t = false := by
  unfold clT
  rw [decide_eq_false (by omega)]; rfl
theorem clT_in {t i j : Nat} (hi : i < sC σ v) (hj : j < sC σ w) (h1 : bg σ v i ≤ t) (h2 : t < bg σ v (i + 1)) (h3 : bg σ w j + d ≤ t) (h4 : t < bg σ w (j + 1) + d) : clT σ v w d up t = cls (sP σ v i) (sP σ w j) up := by
  unfold clT
  rw [decide_eq_true (by omega), plc_in hi h1 h2, plc_in hj (show bg σ w j ≤ t - d by omega) (show t - d < bg σ w (j + 1) by omega)]; rfl
/-- counted so far: up to where both signs have begun -/
def mgN (σ : St) (v w d : Nat) (up : Int32) (i j : Nat) : Nat := cnt (clT σ v w d up) (max (bg σ v i) (bg σ w j + d))
theorem mg_0 : mgN σ v w d up 0 0 = 0 := by
  unfold mgN
  rw [show max (bg σ v 0) (bg σ w 0 + d) = 0 + d by show max 0 (0 + d) = 0 + d; omega]
  rw [cnt_seg (F := clT σ v w d up) (q := false) (a := 0) (n := d) (fun t _ h => clT_pre (by omega))]
  rfl
/-- the one ends first -/
theorem mg_i {i j : Nat} (hi : i < sC σ v) (hj : j < sC σ w) (hle : bg σ v (i + 1) ≤ bg σ w (j + 1) + d) : mgN σ v w d up (i + 1) j = mgN σ v w d up i j + (if max (bg σ v i) (bg σ w j + d) < bg σ v (i + 1) ∧ cls (sP σ v i) (sP σ w j) up = true then bg σ v (i + 1) - max (bg σ v i) (bg σ w j + d) else 0) := by
  unfold mgN
  have m1 := bg_mono σ v (show i ≤ i + 1 by omega)
  rcases Nat.lt_or_ge (max (bg σ v i) (bg σ w j + d)) (bg σ v (i + 1)) with q | q
  · have hs := cnt_seg (F := clT σ v w d up) (q := cls (sP σ v i) (sP σ w j) up) (a := max (bg σ v i) (bg σ w j + d)) (n := bg σ v (i + 1) - max (bg σ v i) (bg σ w j + d)) (fun t h1 h2 => clT_in hi hj (by omega) (by omega) (by omega) (by omega))
    rw [show max (bg σ v i) (bg σ w j + d) + (bg σ v (i + 1) - max (bg σ v i) (bg σ w j + d)) = max (bg σ v (i + 1)) (bg σ w j + d) by omega] at hs
    rw [hs]
    cases cls (sP σ v i) (sP σ w j) up
    · rw [if_neg (by simp), if_neg (by simp)]
    · rw [if_pos rfl, if_pos ⟨q, rfl⟩]
  · rw [if_neg (by omega), show max (bg σ v (i + 1)) (bg σ w j + d) = max (bg σ v i) (bg σ w j + d) by omega]
    rfl
theorem mg_j {i j : Nat} (hi : i < sC σ v) (hj : j < sC σ w) (hle : bg σ w (j + 1) + d < bg σ v (i + 1)) : mgN σ v w d up i (j + 1) = mgN σ v w d up i j + (if max (bg σ v i) (bg σ w j + d) < bg σ w (j + 1) + d ∧ cls (sP σ v i) (sP σ w j) up = true then bg σ w (j + 1) + d - max (bg σ v i) (bg σ w j + d) else 0) := by
  unfold mgN
  have m1 := bg_mono σ w (show j ≤ j + 1 by omega)
  rcases Nat.lt_or_ge (max (bg σ v i) (bg σ w j + d)) (bg σ w (j + 1) + d) with q | q
  · have hs := cnt_seg (F := clT σ v w d up) (q := cls (sP σ v i) (sP σ w j) up) (a := max (bg σ v i) (bg σ w j + d)) (n := bg σ w (j + 1) + d - max (bg σ v i) (bg σ w j + d)) (fun t h1 h2 => clT_in hi hj (by omega) (by omega) (by omega) (by omega))
    rw [show max (bg σ v i) (bg σ w j + d) + (bg σ w (j + 1) + d - max (bg σ v i) (bg σ w j + d)) = max (bg σ v i) (bg σ w (j + 1) + d) by omega] at hs
    rw [hs]
    cases cls (sP σ v i) (sP σ w j) up
    · rw [if_neg (by simp), if_neg (by simp)]
    · rw [if_pos rfl, if_pos ⟨q, rfl⟩]
  · rw [if_neg (by omega), show max (bg σ v i) (bg σ w (j + 1) + d) = max (bg σ v i) (bg σ w j + d) by omega]
    rfl
/-- one of them is over -/
theorem mg_e {i j : Nat} (h : i = sC σ v ∨ j = sC σ w) : mgN σ v w d up i j = clN σ v w d up := by
  unfold mgN clN
  rcases h with rfl | rfl
  · exact cnt_const (a := bg σ v (sC σ v)) (fun t ht => clT_outA ht) (by omega)
  · rcases Nat.lt_or_ge (len σ v) (len σ w + d) with q | q
    · rw [cnt_const (F := clT σ v w d up) (a := len σ v) (fun t ht => clT_outA ht) (n := max (bg σ v i) (bg σ w (sC σ w) + d)) (by show len σ v ≤ max (bg σ v i) (len σ w + d); omega)]
    · rw [cnt_const (F := clT σ v w d up) (a := len σ w + d) (fun t ht => clT_outB ht) (n := max (bg σ v i) (bg σ w (sC σ w) + d)) (by show len σ w + d ≤ max (bg σ v i) (len σ w + d); omega), cnt_const (F := clT σ v w d up) (a := len σ w + d) (fun t ht => clT_outB ht) q]
end MG
theorem mxI {a b : Nat} (ha : a < 2 ^ 31) (hb : b < 2 ^ 31) : (if nI a < nI b then nI b else nI a) = nI (max a b) := by
  by_cases h : a < b
  · rw [if_pos ((nI_ltI ha hb).mpr h), show max a b = b by omega]
  · rw [if_neg (fun q => h ((nI_ltI ha hb).mp q)), show max a b = a by omega]
theorem mnI {a b : Nat} (ha : a < 2 ^ 31) (hb : b < 2 ^ 31) : (if nI b < nI a then nI b else nI a) = nI (min a b) := by
  by_cases h : b < a
  · rw [if_pos ((nI_ltI hb ha).mpr h), show min a b = b by omega]
  · rw [if_neg (fun q => h ((nI_ltI hb ha).mp q)), show min a b = a by omega]
theorem fst_f {p : Nat → Bool} {n : Nat} (h : ∀ t, t < n → p t = false) : fst p n = -1 := by
  induction n with
  | zero => rfl
  | succ n ih =>
    show (if fst p n = -1 then (if p n then nI n else -1) else fst p n) = -1
    rw [if_pos (ih fun t ht => h t (by omega)), h n (by omega)]; rfl
theorem fst_t {p : Nat → Bool} {a : Nat} (ha : a < 2 ^ 31) (h : ∀ t, t < a → p t = false) (h2 : p a = true) {n : Nat} (hn : a < n) : fst p n = nI a := by
  induction n with
  | zero => omega
  | succ n ih =>
    show (if fst p n = -1 then (if p n then nI n else -1) else fst p n) = nI a
    rcases Nat.lt_or_ge a n with q | q
    · rw [ih q, if_neg (nI_m1 ha)]
    · have e : n = a := by omega
      subst e
      rw [if_pos (fst_f h), h2]; rfl
