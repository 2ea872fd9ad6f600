/-! THE ANSWERS of the calls: which refusal (0: none), what answer, what state -/
def ix (p : Int32) : Nat := p.toNatClampNeg
theorem ix_n {n : Nat} (h : n < 2 ^ 31) : ix (nI n) = n := nI_clamp h
def inr (lo hi n : Int32) : Bool := !decide (n < lo) && decide (n ≤ hi)
theorem inr_t {lo hi n : Int32} (h1 : ¬ n < lo) (h2 : n ≤ hi) : inr lo hi n = true := by unfold inr; rw [decide_eq_false h1, decide_eq_true h2]; rfl
theorem inr_f1 {lo hi n : Int32} (h1 : n < lo) : inr lo hi n = false := by unfold inr; rw [decide_eq_true h1]; rfl
theorem inr_f2 {lo hi n : Int32} (h2 : ¬ n ≤ hi) : inr lo hi n = false := by unfold inr; rw [decide_eq_false h2, Bool.and_false]
/-- a number in a range of Nat ends is a Nat -/
theorem inr_nat {lo hi n : Int32} {a b : Nat} (ha : lo = nI a) (hb : hi = nI b) (h2 : b < 2 ^ 31) (hab : a ≤ b) (h : inr lo hi n = true) : ∃ j : Nat, a ≤ j ∧ j ≤ b ∧ n = nI j := by
  subst ha; subst hb
  unfold inr at h
  simp only [Bool.and_eq_true, Bool.not_eq_true', decide_eq_false_iff_not, decide_eq_true_eq] at h
  obtain ⟨h1, h3⟩ := h
  have h0 : ¬ n < 0 := by
    intro q
    refine h1 ?_
    rw [Int32.lt_iff_toInt_lt] at q ⊢
    rw [nI_toInt (by omega)]
    have : (0 : Int32).toInt = 0 := by decide
    omega
  obtain ⟨j, hj, rfl⟩ := nI_of h0
  refine ⟨j, ?_, (nI_leI hj h2).mp h3, rfl⟩
  rcases Nat.lt_or_ge j a with q | q
  · exact absurd ((nI_ltI hj (by omega)).mpr q) h1
  · exact q
def okV (σ : St) (p : Int32) : Bool := !decide (p < 0) && decide (p < nI (sN σ))
def okS (σ : St) (v : Nat) (p : Int32) : Bool := !decide (p < 0) && decide (p < nI (sC σ v))
theorem lt_nat {p : Int32} {n : Nat} (hn : n < 2 ^ 31) (h1 : ¬ p < 0) (h2 : p < nI n) : ∃ v, v < n ∧ p = nI v := by
  obtain ⟨j, hj, rfl⟩ := nI_of h1
  exact ⟨j, (nI_ltI hj hn).mp h2, rfl⟩
theorem okV_t {σ : St} {v : Nat} (hv : v < sN σ) (hN : sN σ ≤ 4) : okV σ (nI v) = true := by
  unfold okV
  rw [decide_eq_false (nI_pos (by omega)), decide_eq_true ((nI_ltI (by omega) (by omega)).mpr hv)]; rfl
theorem okS_t {σ : St} {v s : Nat} (hs : s < sC σ v) (hC : sC σ v ≤ 24) : okS σ v (nI s) = true := by
  unfold okS
  rw [decide_eq_false (nI_pos (by omega)), decide_eq_true ((nI_ltI (by omega) (by omega)).mpr hs)]; rfl
theorem okV_1 {σ : St} {p : Int32} (h : p < 0) : okV σ p = false := by unfold okV; rw [decide_eq_true h]; rfl
theorem okV_2 {σ : St} {p : Int32} (h : ¬ p < nI (sN σ)) : okV σ p = false := by unfold okV; rw [decide_eq_false h, Bool.and_false]
theorem okS_1 {σ : St} {v : Nat} {p : Int32} (h : p < 0) : okS σ v p = false := by unfold okS; rw [decide_eq_true h]; rfl
theorem okS_2 {σ : St} {v : Nat} {p : Int32} (h : ¬ p < nI (sC σ v)) : okS σ v p = false := by unfold okS; rw [decide_eq_false h, Bool.and_false]
def lk (a b : Int32) : Nat := if b < a then 0 else 1
theorem lk_3 (a b : Int32) : lk a b ≤ 3 := by unfold lk; split <;> omega
def lg1 (f s : Int32) (st : Bool) : Nat := if st then 2 else lk f s
def lg2 (f s : Int32) (th st : Bool) : Nat := if st then 2 else if th then 1 else lk f s
theorem lg1_3 (f s : Int32) (st : Bool) : lg1 f s st ≤ 3 := by unfold lg1; split; omega; exact lk_3 _ _
theorem lg2_3 (f s : Int32) (th st : Bool) : lg2 f s th st ≤ 3 := by unfold lg2; split; omega; split; omega; exact lk_3 _ _
/-- pitches so far apart clash -/
def rs7 (d : Int32) : Int32 := (if 0 ≤ d then d else 0 - d) - (if 0 ≤ d then d else 0 - d) / 7 * 7
def isCl (d : Int32) : Bool := decide (rs7 d = 1) || (decide (rs7 d = 3) || decide (rs7 d = 6))
def cls (x y up : Int32) : Bool := !decide (x = -1) && (!decide (y = -1) && isCl (x - y - up))
/-- the place of the note that lasts at t; -1: none -/
def plN (σ : St) (v t : Nat) : Nat → Int32
  | 0 => -1
  | n + 1 => if bg σ v n ≤ t ∧ t < bg σ v (n + 1) then sP σ v n else plN σ v t n
def plc (σ : St) (v t : Nat) : Int32 := plN σ v t (sC σ v)
def clT (σ : St) (a b d : Nat) (up : Int32) (t : Nat) : Bool := decide (d ≤ t) && cls (plc σ a t) (plc σ b (t - d)) up
def clN (σ : St) (a b d : Nat) (up : Int32) : Nat := cnt (clT σ a b d up) (len σ a)
/-- the first of the first n -/
def fst (p : Nat → Bool) : Nat → Int32
  | 0 => -1
  | n + 1 => if fst p n = -1 then (if p n then nI n else -1) else fst p n
def sum (f : Nat → Nat) : Nat → Nat
  | 0 => 0
  | n + 1 => sum f n + f n
/-- clashes with each other voice that has a clef, if v had the clef c -/
def cwF (σ : St) (v : Nat) (c : Int32) (i : Nat) : Nat := if i = v then 0 else if sL σ i = -1 then 0 else clN σ v i 0 (2 * (sL σ i - c))
def cwN (σ : St) (v : Nat) (c : Int32) : Nat := sum (cwF σ v c) (sN σ)
/-- the best of the first n that pass: (which one, or none; how many) -/
def bst (ok : Nat → Bool) (f : Nat → Nat) : Nat → Option (Nat × Nat)
  | 0 => none
  | n + 1 => match bst ok f n with
    | none => if ok n then some (n, f n) else none
    | some (b, m) => if ok n && decide (f n < m) then some (n, f n) else some (b, m)
def bsI : Option (Nat × Nat) → Int32
  | none => -1
  | some (b, _) => nI b
def bcl (σ : St) (v : Nat) : Int32 := bsI (bst (fun c => ft σ v (nI c)) (fun c => cwN σ v (nI c)) 6)
def bdl (σ : St) (v : Nat) (up : Int32) : Int32 := bsI (bst (fun d => decide (1 ≤ d)) (fun d => clN σ v v d up) 49)
def lngF (σ : St) : Nat → Nat
  | 0 => 0
  | n + 1 => if lngF σ n < len σ n then len σ n else lngF σ n
def lngst (σ : St) : Nat := lngF σ (sN σ)
def suml (σ : St) : Nat := sum (len σ) (sN σ)
def mx (d : Int64) (x : Int32) : Int64 := d * 31 + x.toInt64
def mxl (d : Int64) : List Int32 → Int64
  | [] => d
  | x :: r => mxl (mx d x) r
def dgS (σ : St) (v s : Nat) : List Int32 := [nI (sK σ v s), sP σ v s, sT σ v s, nI (lg σ v s), nI (bg σ v s)]
def dgV (σ : St) (v : Nat) : List Int32 := [nI (sC σ v), nI (cnt (isNt σ v) (sC σ v)), nI (cnt (isLg σ v) (sC σ v)), nI (len σ v), sL σ v, nI (fct σ v), bcl σ v, nI (clN σ v v 4 0), bdl σ v 4]
def dgSs (σ : St) (v : Nat) (d : Int64) : Nat → Int64
  | 0 => d
  | n + 1 => mxl (dgSs σ v d n) (dgS σ v n)
def dgVs (σ : St) (d : Int64) : Nat → Int64
  | 0 => d
  | n + 1 => dgSs σ n (mxl (dgVs σ d n) (dgV σ n)) (sC σ n)
def dig (σ : St) : Int64 := dgVs σ (mxl 2311 [nI (sN σ), nI (lngst σ)]) (sN σ)
-- refusals
def cdV (σ : St) (p : Int32) : Nat := if okV σ p then 0 else 1
def cdS (σ : St) (p q : Int32) : Nat := if okV σ p && okS σ (ix p) q then 0 else 1
def cdVR (σ : St) (p : Int32) (b : Bool) : Nat := if okV σ p then (if b then 0 else 2) else 1
def inM (a b c : Int32) : Bool := inr 2 3 a && (inr 2 3 b && inr 2 3 c)
def cd_addVoice (σ : St) (a b c : Int32) : Nat := if inM a b c then (if sN σ < 4 then 0 else 2) else 1
def cd_addNote (σ : St) (p k q : Int32) : Nat := if okV σ p then (if inr 0 3 k && inr 0 9 q then (if sC σ (ix p) < 24 then 0 else 3) else 2) else 1
def cd_addRest (σ : St) (p k : Int32) : Nat := if okV σ p then (if inr 0 3 k then (if sC σ (ix p) < 24 then 0 else 3) else 2) else 1
def inL (f s t : Int32) : Bool := inr 0 9 f && (inr 0 9 s && (inr (-1) 9 t && (!decide (s = f) && !decide (t = s))))
def lgM (t : Int32) : Nat := if t = -1 then 2 else 3
def cd_addLigature (σ : St) (p f s t : Int32) : Nat := if okV σ p then (if inL f s t then (if sC σ (ix p) + lgM t ≤ 24 then 0 else 3) else 2) else 1
def cd_erase (σ : St) (p : Int32) : Nat := cdVR σ p (decide (0 < sC σ (ix p)))
def cd_recolour (σ : St) (p q : Int32) : Nat := if okV σ p && okS σ (ix p) q then (if isNt σ (ix p) (ix q) then 0 else 2) else 1
def cd_pitchOf (σ : St) (p q : Int32) : Nat := if okV σ p && okS σ (ix p) q then (if sL σ (ix p) = -1 then 2 else 0) else 1
def cd_clashes (σ : St) (p q : Int32) : Nat := if okV σ p && okV σ q then (if sL σ (ix p) = -1 then 2 else if sL σ (ix q) = -1 then 2 else 0) else 1
def cd_canon (σ : St) (p d u : Int32) : Nat := cdVR σ p (inr 1 48 d && inr (-7) 7 u)
-- what is written
def ef_addVoice (σ : St) (a b c : Int32) : St := uN (meS σ (sN σ) (ix a) (ix b) (ix c)) (sN σ + 1)
def ef_addLigature (σ : St) (v : Nat) (f s t : Int32) (st : Bool) : St :=
  if t = -1 then apS (apS σ v (lg1 f s st) f false 0) v (lg2 f s false st) s false 1 else apS (apS (apS σ v (lg1 f s st) f false 0) v (lg2 f s true st) s false 1) v (lk s t) t false 2
def an_pitchOf (σ : St) (v s : Nat) : Int32 := if isNt σ v s then sP σ v s + 2 * sL σ v else -1
