/-! THE ANSWERS, as the document has them, of the state -/
/-- how long a sign of this kind is -/
def lenK (m0 m1 m2 k : Nat) (r : Bool) : Nat := if k = 0 then (if r then 2 else m0) * m1 * m2 else if k = 1 then (if r then 2 else m1) * m2 else if k = 2 then (if r then 2 else m2) else 1
def lg (σ : St) (v s : Nat) : Nat := lenK (sM σ v 0) (sM σ v 1) (sM σ v 2) (sK σ v s) (sR σ v s)
/-- when a sign begins -/
def bg (σ : St) (v : Nat) : Nat → Nat
  | 0 => 0
  | s + 1 => bg σ v s + lg σ v s
/-- how long a voice is -/
def len (σ : St) (v : Nat) : Nat := bg σ v (sC σ v)
/-- how many of the first n -/
def cnt (p : Nat → Bool) : Nat → Nat
  | 0 => 0
  | n + 1 => cnt p n + (if p n then 1 else 0)
theorem cnt_le (p : Nat → Bool) (n : Nat) : cnt p n ≤ n := by
  induction n with
  | zero => exact Nat.le_refl _
  | succ n ih => show cnt p n + _ ≤ _; split <;> omega
def isNt (σ : St) (v s : Nat) : Bool := !decide (sP σ v s = -1)
def isLg (σ : St) (v s : Nat) : Bool := decide (sT σ v s = 0)
/-- a clef's pitch of a place is told -/
def inP (q : Int32) : Bool := !decide (q < 3) && decide (q ≤ 16)
def ftS (σ : St) (v : Nat) (c : Int32) (s : Nat) : Bool := !isNt σ v s || inP (sP σ v s + 2 * c)
def ftN (σ : St) (v : Nat) (c : Int32) : Nat → Bool
  | 0 => true
  | n + 1 => ftN σ v c n && ftS σ v c n
def ft (σ : St) (v : Nat) (c : Int32) : Bool := ftN σ v c (sC σ v)
def fct (σ : St) (v : Nat) : Nat := cnt (fun c => ft σ v (nI c)) 6
/-- the sign that lasts at a time -/
def sgAt (σ : St) (v : Nat) (t : Int32) : Nat → Int32
  | 0 => -1
  | n + 1 => if sgAt σ v t n = -1 then (if t < nI (bg σ v (n + 1)) then nI n else -1) else sgAt σ v t n
/-- all that holds of the state between calls -/
def Inv (σ : St) : Prop := sN σ ≤ 4 ∧ (∀ v, sC σ v ≤ 24) ∧ (∀ v, sN σ ≤ v → sL σ v = -1 ∧ sC σ v = 0) ∧ (∀ v, v < sN σ → ∀ i, i < 3 → sM σ v i = 2 ∨ sM σ v i = 3) ∧ (∀ v s, sK σ v s ≤ 3) ∧ (∀ v s, sT σ v s = -1 ∨ ∃ j : Nat, j ≤ s ∧ j ≤ 2 ∧ sT σ v s = nI j) ∧ (∀ v s, s ≤ sC σ v → sB σ v s = nI (bg σ v s))
theorem Inv.N {σ : St} (h : Inv σ) : sN σ ≤ 4 := h.1
theorem Inv.C {σ : St} (h : Inv σ) (v : Nat) : sC σ v ≤ 24 := h.2.1 v
theorem Inv.B {σ : St} (h : Inv σ) {v s : Nat} (hs : s ≤ sC σ v) : sB σ v s = nI (bg σ v s) := h.2.2.2.2.2.2 v s hs
theorem Inv.K {σ : St} (h : Inv σ) (v s : Nat) : sK σ v s ≤ 3 := h.2.2.2.2.1 v s
theorem Inv.M {σ : St} (h : Inv σ) {v : Nat} (hv : v < sN σ) {i : Nat} (hi : i < 3) : sM σ v i = 2 ∨ sM σ v i = 3 := h.2.2.2.1 v hv i hi
theorem Inv.v4 {σ : St} (h : Inv σ) {v : Nat} (hv : v < sN σ) : v < 4 := Nat.lt_of_lt_of_le hv h.1
theorem lenK_le {m0 m1 m2 k : Nat} {r : Bool} (h0 : m0 = 2 ∨ m0 = 3) (h1 : m1 = 2 ∨ m1 = 3) (h2 : m2 = 2 ∨ m2 = 3) : 1 ≤ lenK m0 m1 m2 k r ∧ lenK m0 m1 m2 k r ≤ 27 := by
  unfold lenK
  rcases h0 with rfl | rfl <;> rcases h1 with rfl | rfl <;> rcases h2 with rfl | rfl <;> cases r <;> (split <;> (try split) <;> (try split) <;> decide)
theorem Inv.lgL {σ : St} (h : Inv σ) {v : Nat} (hv : v < sN σ) (s : Nat) : 1 ≤ lg σ v s ∧ lg σ v s ≤ 27 := lenK_le (h.M hv (by decide)) (h.M hv (by decide)) (h.M hv (by decide))
theorem Inv.bgL {σ : St} (h : Inv σ) {v : Nat} (hv : v < sN σ) (s : Nat) : bg σ v s ≤ 27 * s := by
  induction s with
  | zero => exact Nat.le_refl _
  | succ s ih =>
    have := (h.lgL hv s).2
    show bg σ v s + lg σ v s ≤ _
    omega
/-- of any voice, a sign it has -/
theorem Inv.bgC {σ : St} (h : Inv σ) (v : Nat) {s : Nat} (hs : s ≤ sC σ v) : bg σ v s ≤ 648 := by
  rcases Nat.lt_or_ge v (sN σ) with hv | hv
  · have h1 := h.bgL hv s
    have h2 := h.C v
    omega
  · have h1 := (h.2.2.1 v hv).2
    have h2 : s = 0 := by omega
    subst h2
    exact Nat.zero_le _
theorem bg_mono (σ : St) (v : Nat) {a b : Nat} (h : a ≤ b) : bg σ v a ≤ bg σ v b := by
  induction b with
  | zero => rw [show a = 0 by omega]; exact Nat.le_refl _
  | succ b ih =>
    rcases Nat.lt_or_ge a (b + 1) with q | q
    · have := ih (by omega)
      show _ ≤ bg σ v b + lg σ v b
      omega
    · rw [show a = b + 1 by omega]; exact Nat.le_refl _
theorem cntI_t {p : Nat → Bool} {n : Nat} {x : Int32} (hx : x = nI (cnt p n)) (h : p n = true) : x + 1 = nI (cnt p (n + 1)) := by
  rw [hx, nI_1]
  show nI (cnt p n + 1) = nI (cnt p n + (if p n then 1 else 0))
  rw [h]; rfl
theorem cntI_f {p : Nat → Bool} {n : Nat} {x : Int32} (hx : x = nI (cnt p n)) (h : p n = false) : x = nI (cnt p (n + 1)) := by
  rw [hx]
  show nI (cnt p n) = nI (cnt p n + (if p n then 1 else 0))
  rw [h]; rfl
theorem ftN_t {σ : St} {v : Nat} {c : Int32} {n : Nat} (h : ftN σ v c n = true) (h2 : ftS σ v c n = true) : ftN σ v c (n + 1) = true := by
  show (ftN σ v c n && ftS σ v c n) = true
  rw [h, h2]; rfl
theorem ftN_f {σ : St} {v : Nat} {c : Int32} {i n : Nat} (hi : i < n) (h : ftS σ v c i = false) : ftN σ v c n = false := by
  induction n with
  | zero => omega
  | succ n ih =>
    show (ftN σ v c n && ftS σ v c n) = false
    rcases Nat.lt_or_ge i n with q | q
    · rw [ih q]; rfl
    · rw [show n = i by omega, h, Bool.and_false]
theorem nI_m1 {n : Nat} (h : n < 2 ^ 31) : ¬ nI n = -1 := fun e => by
  have h1 := nI_toInt h
  rw [e] at h1
  have h2 : (-1 : Int32).toInt = -1 := by decide
  omega
theorem sgAt_f {σ : St} {v : Nat} {t : Int32} {n : Nat} (h : sgAt σ v t n = -1) (h2 : ¬ t < nI (bg σ v (n + 1))) : sgAt σ v t (n + 1) = -1 := by
  show (if sgAt σ v t n = -1 then (if t < nI (bg σ v (n + 1)) then nI n else -1) else sgAt σ v t n) = -1
  rw [if_pos h, if_neg h2]
theorem sgAt_t {σ : St} {v : Nat} {t : Int32} {i : Nat} (h : sgAt σ v t i = -1) (h2 : t < nI (bg σ v (i + 1))) (hi : i < 2 ^ 31) : ∀ {n : Nat}, i < n → sgAt σ v t n = nI i := by
  intro n
  induction n with
  | zero => intro q; omega
  | succ n ih =>
    intro q
    show (if sgAt σ v t n = -1 then (if t < nI (bg σ v (n + 1)) then nI n else -1) else sgAt σ v t n) = nI i
    rcases Nat.lt_or_ge i n with q2 | q2
    · rw [ih q2, if_neg (nI_m1 hi)]
    · have e : n = i := by omega
      subst e
      rw [if_pos h, if_pos h2]
theorem tf_step {b : Nat → Nat → Int32} {v i : Nat} {f : Nat → Int32} (h : ∀ s, s ≤ i → b v s = f s) {x : Int32} (hx : x = f (i + 1)) : ∀ s, s ≤ i + 1 → up2 b v (i + 1) x v s = f s := by
  intro s hs
  by_cases q : s = i + 1
  · subst q
    rw [up2_s, hx]
  · rw [up2_n _ (fun z => q z.2)]
    exact h s (by omega)
theorem bg_cong {σ σ' : St} {v : Nat} : ∀ {n : Nat}, (∀ q, q < n → lg σ' v q = lg σ v q) → bg σ' v n = bg σ v n
  | 0, _ => rfl
  | n + 1, h => by
    show bg σ' v n + lg σ' v n = bg σ v n + lg σ v n
    rw [bg_cong (fun q hq => h q (by omega)), h n (by omega)]
theorem bg_uB (σ : St) (b : Nat → Nat → Int32) (v n : Nat) : bg (uB σ b) v n = bg σ v n := bg_cong (fun _ _ => rfl)
/-- how many signs go with the last one -/
def drN (x : Int32) : Nat := if x = -1 then 1 else x.toNatClampNeg + 1
theorem drN_n {j : Nat} (h : j < 2 ^ 31) : drN (nI j) = j + 1 := by
  unfold drN
  rw [if_neg (nI_m1 h), nI_clamp h]
/-- a sign behind the others -/
def apS (σ : St) (v k : Nat) (p : Int32) (r : Bool) (t : Int32) : St := uC (uT (uR (uP (uK σ v (sC σ v) k) v (sC σ v) p) v (sC σ v) r) v (sC σ v) t) v (sC σ v + 1)
def meS (σ : St) (v a b c : Nat) : St := uM (uM (uM σ v 0 a) v 1 b) v 2 c
theorem apS_lg (σ : St) (v k : Nat) (p : Int32) (r : Bool) (t : Int32) {q : Nat} (h : q < sC σ v) : lg (apS σ v k p r t) v q = lg σ v q := by
  have h1 : sK (apS σ v k p r t) v q = sK σ v q := up2_n _ (by omega) _
  have h2 : sR (apS σ v k p r t) v q = sR σ v q := up2_n _ (by omega) _
  show lenK (sM σ v 0) (sM σ v 1) (sM σ v 2) (sK (apS σ v k p r t) v q) (sR (apS σ v k p r t) v q) = _
  rw [h1, h2]
  rfl
theorem uR_lg (σ : St) (v s : Nat) (r : Bool) {q : Nat} (h : q < s) : lg (uR σ v s r) v q = lg σ v q := by
  have h2 : sR (uR σ v s r) v q = sR σ v q := up2_n _ (by omega) _
  show lenK (sM σ v 0) (sM σ v 1) (sM σ v 2) (sK σ v q) (sR (uR σ v s r) v q) = _
  rw [h2]
  rfl
/-- what timeFrom leaves: the row of the voice v is right, the others' are as they were -/
def tfP (σ : St) (v : Nat) (u : Nat → Nat → Int32) : Prop := (∀ w, w ≠ v → u w = sB σ w) ∧ ∀ s, s ≤ sC σ v → u v s = nI (bg σ v s)
/-- what append needs of the voice v -/
def IvA (σ : St) (v : Nat) : Prop := (∀ s, sK σ v s ≤ 3) ∧ ∀ s, s ≤ sC σ v → sB σ v s = nI (bg σ v s)
theorem Inv.A {σ : St} (h : Inv σ) (v : Nat) : IvA σ v := ⟨h.K v, fun _ hs => h.B hs⟩
