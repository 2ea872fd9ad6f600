/-! THE STATE: one value for the class and for the reference; the cells of both, read off it. -/
/-- voices; signs of each; clef; mensuration; kind, place, colour, rank of each sign; when each begins (the class's own row) -/
abbrev St : Type := Nat × (Nat → Nat) × (Nat → Int32) × (Nat → Nat → Nat) × (Nat → Nat → Nat) × (Nat → Nat → Int32) × (Nat → Nat → Bool) × (Nat → Nat → Int32) × (Nat → Nat → Int32)
def mkS (n : Nat) (c : Nat → Nat) (l : Nat → Int32) (m k : Nat → Nat → Nat) (p : Nat → Nat → Int32) (r : Nat → Nat → Bool) (t b : Nat → Nat → Int32) : St := (n, c, l, m, k, p, r, t, b)
def sN (σ : St) : Nat := σ.1
def sC (σ : St) : Nat → Nat := σ.2.1
def sL (σ : St) : Nat → Int32 := σ.2.2.1
def sM (σ : St) : Nat → Nat → Nat := σ.2.2.2.1
def sK (σ : St) : Nat → Nat → Nat := σ.2.2.2.2.1
def sP (σ : St) : Nat → Nat → Int32 := σ.2.2.2.2.2.1
def sR (σ : St) : Nat → Nat → Bool := σ.2.2.2.2.2.2.1
def sT (σ : St) : Nat → Nat → Int32 := σ.2.2.2.2.2.2.2.1
def sB (σ : St) : Nat → Nat → Int32 := σ.2.2.2.2.2.2.2.2
def bI (b : Bool) : Int32 := if b then 1 else 0
def up1 {α : Type} (f : Nat → α) (v : Nat) (x : α) : Nat → α := fun a => if a = v then x else f a
def up2 {α : Type} (f : Nat → Nat → α) (v s : Nat) (x : α) : Nat → Nat → α := fun a b => if a = v ∧ b = s then x else f a b
theorem up1_s {α : Type} (f : Nat → α) (v : Nat) (x : α) : up1 f v x v = x := if_pos rfl
theorem up1_n {α : Type} (f : Nat → α) {v w : Nat} (h : w ≠ v) (x : α) : up1 f v x w = f w := if_neg h
theorem up2_s {α : Type} (f : Nat → Nat → α) (v s : Nat) (x : α) : up2 f v s x v s = x := if_pos ⟨rfl, rfl⟩
theorem up2_n {α : Type} (f : Nat → Nat → α) {v s a b : Nat} (h : ¬ (a = v ∧ b = s)) (x : α) : up2 f v s x a b = f a b := if_neg h
theorem up2_row {α : Type} (f : Nat → Nat → α) {v w : Nat} (h : w ≠ v) (s : Nat) (x : α) : up2 f v s x w = f w := by
  funext b
  exact if_neg (fun q => h q.1)
def uN (σ : St) (n : Nat) : St := mkS n (sC σ) (sL σ) (sM σ) (sK σ) (sP σ) (sR σ) (sT σ) (sB σ)
def uC (σ : St) (v n : Nat) : St := mkS (sN σ) (up1 (sC σ) v n) (sL σ) (sM σ) (sK σ) (sP σ) (sR σ) (sT σ) (sB σ)
def uL (σ : St) (v : Nat) (x : Int32) : St := mkS (sN σ) (sC σ) (up1 (sL σ) v x) (sM σ) (sK σ) (sP σ) (sR σ) (sT σ) (sB σ)
def uM (σ : St) (v i x : Nat) : St := mkS (sN σ) (sC σ) (sL σ) (up2 (sM σ) v i x) (sK σ) (sP σ) (sR σ) (sT σ) (sB σ)
def uK (σ : St) (v s x : Nat) : St := mkS (sN σ) (sC σ) (sL σ) (sM σ) (up2 (sK σ) v s x) (sP σ) (sR σ) (sT σ) (sB σ)
def uP (σ : St) (v s : Nat) (x : Int32) : St := mkS (sN σ) (sC σ) (sL σ) (sM σ) (sK σ) (up2 (sP σ) v s x) (sR σ) (sT σ) (sB σ)
def uR (σ : St) (v s : Nat) (x : Bool) : St := mkS (sN σ) (sC σ) (sL σ) (sM σ) (sK σ) (sP σ) (up2 (sR σ) v s x) (sT σ) (sB σ)
def uT (σ : St) (v s : Nat) (x : Int32) : St := mkS (sN σ) (sC σ) (sL σ) (sM σ) (sK σ) (sP σ) (sR σ) (up2 (sT σ) v s x) (sB σ)
def uB (σ : St) (b : Nat → Nat → Int32) : St := mkS (sN σ) (sC σ) (sL σ) (sM σ) (sK σ) (sP σ) (sR σ) (sT σ) b
/-- the start: no voice, no clef -/
def sZ : St := mkS 0 (fun _ => 0) (fun _ => -1) (fun _ _ => 0) (fun _ _ => 0) (fun _ _ => 0) (fun _ _ => false) (fun _ _ => 0) (fun _ _ => 0)
/-- the addresses: how objects lie; the classes of int[], boolean[], Voice[], long[]; the book, its row, each voice, its five rows; the reference and its nine rows; the law's out -/
abbrev GA : Type := va_G × (ClassId × ClassId × ClassId × ClassId) × Nat × Nat × (Nat → Nat) × (Nat → Nat → Nat) × Nat × (Nat → Nat) × Nat
def gD (g : GA) : va_G := g.1
def gI (g : GA) : ClassId := g.2.1.1
def gZ (g : GA) : ClassId := g.2.1.2.1
def gW (g : GA) : ClassId := g.2.1.2.2.1
def gJ (g : GA) : ClassId := g.2.1.2.2.2
def gX (g : GA) : Nat := g.2.2.1
def gK (g : GA) : Nat := g.2.2.2.1
def gV (g : GA) : Nat → Nat := g.2.2.2.2.1
def gA (g : GA) : Nat → Nat → Nat := g.2.2.2.2.2.1
def gM (g : GA) : Nat := g.2.2.2.2.2.2.1
def gB (g : GA) : Nat → Nat := g.2.2.2.2.2.2.2.1
def gO (g : GA) : Nat := g.2.2.2.2.2.2.2.2
def gT (g : GA) : List (ClassId × FieldType) := [(gI g, .int), (gZ g, .boolean), (gW g, .object "ChoirNotes$Voice"), (gJ g, .long)]
/-- the cells of a voice -/
def vcell (g : GA) (σ : St) (v : Nat) : va_W := [(gV g v, .inr (0, [.int (nI (sM σ v 0)), .int (nI (sM σ v 1)), .int (nI (sM σ v 2)), .int (sL σ v), .int (nI (sC σ v)), .ref (gA g v 0), .ref (gA g v 1), .ref (gA g v 2), .ref (gA g v 3), .ref (gA g v 4)])), (gA g v 0, .inl (gI g, 24, .inl (fun j => nI (sK σ v j)))), (gA g v 1, .inl (gI g, 24, .inl (sP σ v))), (gA g v 2, .inl (gZ g, 24, .inl (fun j => bI (sR σ v j)))), (gA g v 3, .inl (gI g, 24, .inl (sT σ v))), (gA g v 4, .inl (gI g, 25, .inl (sB σ v)))]
/-- the cells of the class -/
def cw (g : GA) (σ : St) : va_W := [(gX g, .inr (1, [.ref (gK g), .int (nI (sN σ))])), (gK g, .inl (gW g, 4, .inr (.inr (.inr (.inr (fun j => if j < 4 then some (gV g j) else none))))))] ++ (vcell g σ 0 ++ (vcell g σ 1 ++ (vcell g σ 2 ++ vcell g σ 3)))
/-- the cells of the reference: what its last call threw, its two rows of minims -/
def mw (g : GA) (σ : St) (th : Int32) (mi ti : Nat → Int32) : va_W := [(gM g, .inr (2, [.int th, .int (nI (sN σ)), .ref (gB g 0), .ref (gB g 1), .ref (gB g 2), .ref (gB g 3), .ref (gB g 4), .ref (gB g 5), .ref (gB g 6), .ref (gB g 7), .ref (gB g 8)])), (gB g 0, .inl (gI g, 4, .inl (fun v => nI (sC σ v)))), (gB g 1, .inl (gI g, 4, .inl (fun v => if v < sN σ then sL σ v else 0))), (gB g 2, .inl (gI g, 12, .inl (fun k => nI (sM σ (k / 3) (k % 3))))), (gB g 3, .inl (gI g, 96, .inl (fun k => nI (sK σ (k / 24) (k % 24))))), (gB g 4, .inl (gI g, 96, .inl (fun k => sP σ (k / 24) (k % 24)))), (gB g 5, .inl (gZ g, 96, .inl (fun k => bI (sR σ (k / 24) (k % 24))))), (gB g 6, .inl (gI g, 96, .inl (fun k => sT σ (k / 24) (k % 24)))), (gB g 7, .inl (gI g, 648, .inl mi)), (gB g 8, .inl (gI g, 648, .inl ti))]
theorem lt4 {v : Nat} (h : v < 4) : v = 0 ∨ v = 1 ∨ v = 2 ∨ v = 3 := by omega
section CWAT
variable (g : GA) (σ : St) (r : va_W)
theorem cx0 : (cw g σ ++ r)[0]? = some (gX g, .inr (1, [.ref (gK g), .int (nI (sN σ))])) := rfl
theorem cx1 : (cw g σ ++ r)[1]? = some (gK g, .inl (gW g, 4, .inr (.inr (.inr (.inr (fun j => if j < 4 then some (gV g j) else none)))))) := rfl
theorem cv0 {v : Nat} (h : v < 4) : (cw g σ ++ r)[2 + 6 * v]? = some (gV g v, .inr (0, [.int (nI (sM σ v 0)), .int (nI (sM σ v 1)), .int (nI (sM σ v 2)), .int (sL σ v), .int (nI (sC σ v)), .ref (gA g v 0), .ref (gA g v 1), .ref (gA g v 2), .ref (gA g v 3), .ref (gA g v 4)])) := by
  rcases lt4 h with rfl | rfl | rfl | rfl <;> rfl
theorem cv1 {v : Nat} (h : v < 4) : (cw g σ ++ r)[3 + 6 * v]? = some (gA g v 0, .inl (gI g, 24, .inl (fun j => nI (sK σ v j)))) := by
  rcases lt4 h with rfl | rfl | rfl | rfl <;> rfl
theorem cv2 {v : Nat} (h : v < 4) : (cw g σ ++ r)[4 + 6 * v]? = some (gA g v 1, .inl (gI g, 24, .inl (sP σ v))) := by
  rcases lt4 h with rfl | rfl | rfl | rfl <;> rfl
theorem cv3 {v : Nat} (h : v < 4) : (cw g σ ++ r)[5 + 6 * v]? = some (gA g v 2, .inl (gZ g, 24, .inl (fun j => bI (sR σ v j)))) := by
  rcases lt4 h with rfl | rfl | rfl | rfl <;> rfl
theorem cv4 {v : Nat} (h : v < 4) : (cw g σ ++ r)[6 + 6 * v]? = some (gA g v 3, .inl (gI g, 24, .inl (sT σ v))) := by
  rcases lt4 h with rfl | rfl | rfl | rfl <;> rfl
theorem cv5 {v : Nat} (h : v < 4) : (cw g σ ++ r)[7 + 6 * v]? = some (gA g v 4, .inl (gI g, 25, .inl (sB σ v))) := by
  rcases lt4 h with rfl | rfl | rfl | rfl <;> rfl
end CWAT
/-- a write to one cell of the voice v -/
theorem cw_set (g : GA) (σ σ' : St) (r : va_W) {v k : Nat} {e : Nat × va_E} (hv : v < 4) (hk : k < 6) (hN : sN σ' = sN σ) (hw : ∀ w, w ≠ v → vcell g σ' w = vcell g σ w) (he : (vcell g σ v).set k e = vcell g σ' v) : (cw g σ ++ r).set (2 + k + 6 * v) e = cw g σ' ++ r := by
  have hk6 : k = 0 ∨ k = 1 ∨ k = 2 ∨ k = 3 ∨ k = 4 ∨ k = 5 := by omega
  rcases lt4 hv with rfl | rfl | rfl | rfl
  · unfold cw
    rw [hN, ← he, hw 1 (by decide), hw 2 (by decide), hw 3 (by decide)]
    rcases hk6 with rfl | rfl | rfl | rfl | rfl | rfl <;> rfl
  · unfold cw
    rw [hN, ← he, hw 0 (by decide), hw 2 (by decide), hw 3 (by decide)]
    rcases hk6 with rfl | rfl | rfl | rfl | rfl | rfl <;> rfl
  · unfold cw
    rw [hN, ← he, hw 0 (by decide), hw 1 (by decide), hw 3 (by decide)]
    rcases hk6 with rfl | rfl | rfl | rfl | rfl | rfl <;> rfl
  · unfold cw
    rw [hN, ← he, hw 0 (by decide), hw 1 (by decide), hw 2 (by decide)]
    rcases hk6 with rfl | rfl | rfl | rfl | rfl | rfl <;> rfl
theorem vcell_eq {g : GA} {σ σ' : St} {w : Nat} (hM : sM σ' w = sM σ w) (hL : sL σ' w = sL σ w) (hC : sC σ' w = sC σ w) (hK : sK σ' w = sK σ w) (hP : sP σ' w = sP σ w) (hR : sR σ' w = sR σ w) (hT : sT σ' w = sT σ w) (hB : sB σ' w = sB σ w) : vcell g σ' w = vcell g σ w := by
  unfold vcell
  rw [hM, hL, hC, hK, hP, hR, hT, hB]
theorem upd_row (f : Nat → Nat → Int32) (v s : Nat) (x : Int32) : upd (f v) s x = up2 f v s x v := by
  funext j
  unfold upd up2
  by_cases h : j = s
  · rw [if_pos h, if_pos ⟨rfl, h⟩]
  · rw [if_neg h, if_neg (fun q => h q.2)]
section CWSET
variable (g : GA) (σ : St) (r : va_W) {v : Nat} (hv : v < 4)
theorem cs_N (n : Nat) : (cw g σ ++ r).set 0 (gX g, .inr (1, [.ref (gK g), .int (nI n)])) = cw g (uN σ n) ++ r := rfl
theorem cs_M0 (x : Nat) (hv : v < 4) : (cw g σ ++ r).set (2 + 6 * v) (gV g v, .inr (0, [.int (nI x), .int (nI (sM σ v 1)), .int (nI (sM σ v 2)), .int (sL σ v), .int (nI (sC σ v)), .ref (gA g v 0), .ref (gA g v 1), .ref (gA g v 2), .ref (gA g v 3), .ref (gA g v 4)])) = cw g (uM σ v 0 x) ++ r :=
  cw_set (k := 0) g σ (uM σ v 0 x) r hv (by decide) rfl (fun w hw => vcell_eq (up2_row _ hw _ _) rfl rfl rfl rfl rfl rfl rfl) (by
    have h0 : sM (uM σ v 0 x) v 0 = x := up2_s _ _ _ _
    have h1 : sM (uM σ v 0 x) v 1 = sM σ v 1 := up2_n _ (by omega) _
    have h2 : sM (uM σ v 0 x) v 2 = sM σ v 2 := up2_n _ (by omega) _
    unfold vcell
    rw [h0, h1, h2]
    rfl)
theorem cs_M1 (x : Nat) (hv : v < 4) : (cw g σ ++ r).set (2 + 6 * v) (gV g v, .inr (0, [.int (nI (sM σ v 0)), .int (nI x), .int (nI (sM σ v 2)), .int (sL σ v), .int (nI (sC σ v)), .ref (gA g v 0), .ref (gA g v 1), .ref (gA g v 2), .ref (gA g v 3), .ref (gA g v 4)])) = cw g (uM σ v 1 x) ++ r :=
  cw_set (k := 0) g σ (uM σ v 1 x) r hv (by decide) rfl (fun w hw => vcell_eq (up2_row _ hw _ _) rfl rfl rfl rfl rfl rfl rfl) (by
    have h0 : sM (uM σ v 1 x) v 0 = sM σ v 0 := up2_n _ (by omega) _
    have h1 : sM (uM σ v 1 x) v 1 = x := up2_s _ _ _ _
    have h2 : sM (uM σ v 1 x) v 2 = sM σ v 2 := up2_n _ (by omega) _
    unfold vcell
    rw [h0, h1, h2]
    rfl)
theorem cs_M2 (x : Nat) (hv : v < 4) : (cw g σ ++ r).set (2 + 6 * v) (gV g v, .inr (0, [.int (nI (sM σ v 0)), .int (nI (sM σ v 1)), .int (nI x), .int (sL σ v), .int (nI (sC σ v)), .ref (gA g v 0), .ref (gA g v 1), .ref (gA g v 2), .ref (gA g v 3), .ref (gA g v 4)])) = cw g (uM σ v 2 x) ++ r :=
  cw_set (k := 0) g σ (uM σ v 2 x) r hv (by decide) rfl (fun w hw => vcell_eq (up2_row _ hw _ _) rfl rfl rfl rfl rfl rfl rfl) (by
    have h0 : sM (uM σ v 2 x) v 0 = sM σ v 0 := up2_n _ (by omega) _
    have h1 : sM (uM σ v 2 x) v 1 = sM σ v 1 := up2_n _ (by omega) _
    have h2 : sM (uM σ v 2 x) v 2 = x := up2_s _ _ _ _
    unfold vcell
    rw [h0, h1, h2]
    rfl)
theorem cs_L (x : Int32) (hv : v < 4) : (cw g σ ++ r).set (2 + 6 * v) (gV g v, .inr (0, [.int (nI (sM σ v 0)), .int (nI (sM σ v 1)), .int (nI (sM σ v 2)), .int x, .int (nI (sC σ v)), .ref (gA g v 0), .ref (gA g v 1), .ref (gA g v 2), .ref (gA g v 3), .ref (gA g v 4)])) = cw g (uL σ v x) ++ r :=
  cw_set (k := 0) g σ (uL σ v x) r hv (by decide) rfl (fun w hw => vcell_eq rfl (up1_n _ hw _) rfl rfl rfl rfl rfl rfl) (by
    have h0 : sL (uL σ v x) v = x := up1_s _ _ _
    unfold vcell
    rw [h0]
    rfl)
theorem cs_C (x : Nat) (hv : v < 4) : (cw g σ ++ r).set (2 + 6 * v) (gV g v, .inr (0, [.int (nI (sM σ v 0)), .int (nI (sM σ v 1)), .int (nI (sM σ v 2)), .int (sL σ v), .int (nI x), .ref (gA g v 0), .ref (gA g v 1), .ref (gA g v 2), .ref (gA g v 3), .ref (gA g v 4)])) = cw g (uC σ v x) ++ r :=
  cw_set (k := 0) g σ (uC σ v x) r hv (by decide) rfl (fun w hw => vcell_eq rfl rfl (up1_n _ hw _) rfl rfl rfl rfl rfl) (by
    have h0 : sC (uC σ v x) v = x := up1_s _ _ _
    unfold vcell
    rw [h0]
    rfl)
theorem cs_K (s x : Nat) (hv : v < 4) : (cw g σ ++ r).set (3 + 6 * v) (gA g v 0, .inl (gI g, 24, .inl (upd (fun j => nI (sK σ v j)) s (nI x)))) = cw g (uK σ v s x) ++ r :=
  cw_set (k := 1) g σ (uK σ v s x) r hv (by decide) rfl (fun w hw => vcell_eq rfl rfl rfl (up2_row _ hw _ _) rfl rfl rfl rfl) (by
    have h0 : upd (fun j => nI (sK σ v j)) s (nI x) = fun j => nI (sK (uK σ v s x) v j) := by
      funext j
      show (if j = s then _ else _) = nI (if _ then _ else _)
      by_cases h : j = s
      · rw [if_pos h, if_pos ⟨rfl, h⟩]
      · rw [if_neg h, if_neg (fun q => h q.2)]
    rw [h0]
    rfl)
theorem cs_P (s : Nat) (x : Int32) (hv : v < 4) : (cw g σ ++ r).set (4 + 6 * v) (gA g v 1, .inl (gI g, 24, .inl (upd (sP σ v) s x))) = cw g (uP σ v s x) ++ r :=
  cw_set (k := 2) g σ (uP σ v s x) r hv (by decide) rfl (fun w hw => vcell_eq rfl rfl rfl rfl (up2_row _ hw _ _) rfl rfl rfl) (by
    rw [upd_row]
    rfl)
theorem cs_R (s : Nat) (x : Bool) (hv : v < 4) : (cw g σ ++ r).set (5 + 6 * v) (gA g v 2, .inl (gZ g, 24, .inl (upd (fun j => bI (sR σ v j)) s (bI x)))) = cw g (uR σ v s x) ++ r :=
  cw_set (k := 3) g σ (uR σ v s x) r hv (by decide) rfl (fun w hw => vcell_eq rfl rfl rfl rfl rfl (up2_row _ hw _ _) rfl rfl) (by
    have h0 : upd (fun j => bI (sR σ v j)) s (bI x) = fun j => bI (sR (uR σ v s x) v j) := by
      funext j
      show (if j = s then _ else _) = bI (if _ then _ else _)
      by_cases h : j = s
      · rw [if_pos h, if_pos ⟨rfl, h⟩]
      · rw [if_neg h, if_neg (fun q => h q.2)]
    rw [h0]
    rfl)
theorem cs_T (s : Nat) (x : Int32) (hv : v < 4) : (cw g σ ++ r).set (6 + 6 * v) (gA g v 3, .inl (gI g, 24, .inl (upd (sT σ v) s x))) = cw g (uT σ v s x) ++ r :=
  cw_set (k := 4) g σ (uT σ v s x) r hv (by decide) rfl (fun w hw => vcell_eq rfl rfl rfl rfl rfl rfl (up2_row _ hw _ _) rfl) (by
    rw [upd_row]
    rfl)
theorem cs_B (s : Nat) (x : Int32) (hv : v < 4) : (cw g σ ++ r).set (7 + 6 * v) (gA g v 4, .inl (gI g, 25, .inl (upd (sB σ v) s x))) = cw g (uB σ (up2 (sB σ) v s x)) ++ r :=
  cw_set (k := 5) g σ (uB σ (up2 (sB σ) v s x)) r hv (by decide) rfl (fun w hw => vcell_eq rfl rfl rfl rfl rfl rfl rfl (up2_row _ hw _ _)) (by
    rw [upd_row]
    rfl)
end CWSET
section MWAT
variable (g : GA) (σ : St) (th : Int32) (mi ti : Nat → Int32) (r : va_W)
theorem ma0 : (mw g σ th mi ti ++ r)[0]? = some (gM g, .inr (2, [.int th, .int (nI (sN σ)), .ref (gB g 0), .ref (gB g 1), .ref (gB g 2), .ref (gB g 3), .ref (gB g 4), .ref (gB g 5), .ref (gB g 6), .ref (gB g 7), .ref (gB g 8)])) := rfl
theorem ma1 : (mw g σ th mi ti ++ r)[1]? = some (gB g 0, .inl (gI g, 4, .inl (fun v => nI (sC σ v)))) := rfl
theorem ma2 : (mw g σ th mi ti ++ r)[2]? = some (gB g 1, .inl (gI g, 4, .inl (fun v => if v < sN σ then sL σ v else 0))) := rfl
theorem ma3 : (mw g σ th mi ti ++ r)[3]? = some (gB g 2, .inl (gI g, 12, .inl (fun k => nI (sM σ (k / 3) (k % 3))))) := rfl
theorem ma4 : (mw g σ th mi ti ++ r)[4]? = some (gB g 3, .inl (gI g, 96, .inl (fun k => nI (sK σ (k / 24) (k % 24))))) := rfl
theorem ma5 : (mw g σ th mi ti ++ r)[5]? = some (gB g 4, .inl (gI g, 96, .inl (fun k => sP σ (k / 24) (k % 24)))) := rfl
theorem ma6 : (mw g σ th mi ti ++ r)[6]? = some (gB g 5, .inl (gZ g, 96, .inl (fun k => bI (sR σ (k / 24) (k % 24))))) := rfl
theorem ma7 : (mw g σ th mi ti ++ r)[7]? = some (gB g 6, .inl (gI g, 96, .inl (fun k => sT σ (k / 24) (k % 24)))) := rfl
theorem ma8 : (mw g σ th mi ti ++ r)[8]? = some (gB g 7, .inl (gI g, 648, .inl mi)) := rfl
theorem ma9 : (mw g σ th mi ti ++ r)[9]? = some (gB g 8, .inl (gI g, 648, .inl ti)) := rfl
theorem ms_th (x : Int32) : (mw g σ th mi ti ++ r).set 0 (gM g, .inr (2, [.int x, .int (nI (sN σ)), .ref (gB g 0), .ref (gB g 1), .ref (gB g 2), .ref (gB g 3), .ref (gB g 4), .ref (gB g 5), .ref (gB g 6), .ref (gB g 7), .ref (gB g 8)])) = mw g σ x mi ti ++ r := rfl
theorem ms_mi (f : Nat → Int32) : (mw g σ th mi ti ++ r).set 8 (gB g 7, .inl (gI g, 648, .inl f)) = mw g σ th f ti ++ r := rfl
theorem ms_ti (f : Nat → Int32) : (mw g σ th mi ti ++ r).set 9 (gB g 8, .inl (gI g, 648, .inl f)) = mw g σ th mi f ++ r := rfl
theorem mw_c (v x : Nat) : upd (fun v => nI (sC σ v)) v (nI x) = fun w => nI (sC (uC σ v x) w) := by
  funext j
  show (if j = v then _ else _) = nI (if _ then _ else _)
  by_cases h : j = v
  · rw [if_pos h, if_pos h]
  · rw [if_neg h, if_neg h]
theorem ms_C (v x : Nat) : (mw g σ th mi ti ++ r).set 1 (gB g 0, .inl (gI g, 4, .inl (upd (fun v => nI (sC σ v)) v (nI x)))) = mw g (uC σ v x) th mi ti ++ r := by
  rw [mw_c]
  rfl
theorem ms_L (v : Nat) (x : Int32) (hv : v < sN σ) : (mw g σ th mi ti ++ r).set 2 (gB g 1, .inl (gI g, 4, .inl (upd (fun v => if v < sN σ then sL σ v else 0) v x))) = mw g (uL σ v x) th mi ti ++ r := by
  have h0 : upd (fun v => if v < sN σ then sL σ v else 0) v x = fun w => if w < sN (uL σ v x) then sL (uL σ v x) w else 0 := by
    funext j
    show (if j = v then _ else _) = if j < sN σ then (if j = v then _ else _) else 0
    by_cases h : j = v
    · rw [if_pos h, if_pos h, if_pos (by omega)]
    · rw [if_neg h, if_neg h]
  rw [h0]
  rfl
theorem at_mod {K w j v s : Nat} (hs : s < K) (h : w * K + j = v * K + s) (hj : j < K) : w = v ∧ j = s := by
  have h1 : (w * K + j) / K = (v * K + s) / K := by rw [h]
  rw [Nat.mul_comm w, Nat.mul_comm v, Nat.mul_add_div (by omega), Nat.mul_add_div (by omega), Nat.div_eq_of_lt hj, Nat.div_eq_of_lt hs] at h1
  have h2 : w = v := by omega
  subst h2
  exact ⟨rfl, by omega⟩
theorem ix24 {v s k : Nat} (hs : s < 24) : k = 24 * v + s ↔ (k / 24 = v ∧ k % 24 = s) := by omega
theorem ix3 {v s k : Nat} (hs : s < 3) : k = 3 * v + s ↔ (k / 3 = v ∧ k % 3 = s) := by omega
theorem upd24 {α : Type} (f : Nat → Nat → α) (h : α → Int32) {v s : Nat} (hs : s < 24) (x : α) : upd (fun k => h (f (k / 24) (k % 24))) (24 * v + s) (h x) = fun k => h (up2 f v s x (k / 24) (k % 24)) := by
  funext k
  show (if k = 24 * v + s then _ else _) = h (if _ then _ else _)
  by_cases q : k = 24 * v + s
  · rw [if_pos q, if_pos ((ix24 hs).mp q)]
  · rw [if_neg q, if_neg (fun z => q ((ix24 hs).mpr z))]
theorem upd3 (f : Nat → Nat → Nat) {v s : Nat} (hs : s < 3) (x : Nat) : upd (fun k => nI (f (k / 3) (k % 3))) (3 * v + s) (nI x) = fun k => nI (up2 f v s x (k / 3) (k % 3)) := by
  funext k
  show (if k = 3 * v + s then _ else _) = nI (if _ then _ else _)
  by_cases q : k = 3 * v + s
  · rw [if_pos q, if_pos ((ix3 hs).mp q)]
  · rw [if_neg q, if_neg (fun z => q ((ix3 hs).mpr z))]
theorem ms_M {v i : Nat} (x : Nat) (hi : i < 3) : (mw g σ th mi ti ++ r).set 3 (gB g 2, .inl (gI g, 12, .inl (upd (fun k => nI (sM σ (k / 3) (k % 3))) (3 * v + i) (nI x)))) = mw g (uM σ v i x) th mi ti ++ r := by
  rw [upd3 (sM σ) hi]
  rfl
theorem ms_K {v s : Nat} (x : Nat) (hs : s < 24) : (mw g σ th mi ti ++ r).set 4 (gB g 3, .inl (gI g, 96, .inl (upd (fun k => nI (sK σ (k / 24) (k % 24))) (24 * v + s) (nI x)))) = mw g (uK σ v s x) th mi ti ++ r := by
  rw [upd24 (sK σ) nI hs]
  rfl
theorem ms_P {v s : Nat} (x : Int32) (hs : s < 24) : (mw g σ th mi ti ++ r).set 5 (gB g 4, .inl (gI g, 96, .inl (upd (fun k => sP σ (k / 24) (k % 24)) (24 * v + s) x))) = mw g (uP σ v s x) th mi ti ++ r := by
  rw [upd24 (sP σ) (fun y => y) hs]
  rfl
theorem ms_R {v s : Nat} (x : Bool) (hs : s < 24) : (mw g σ th mi ti ++ r).set 6 (gB g 5, .inl (gZ g, 96, .inl (upd (fun k => bI (sR σ (k / 24) (k % 24))) (24 * v + s) (bI x)))) = mw g (uR σ v s x) th mi ti ++ r := by
  rw [upd24 (sR σ) bI hs]
  rfl
theorem ms_T {v s : Nat} (x : Int32) (hs : s < 24) : (mw g σ th mi ti ++ r).set 7 (gB g 6, .inl (gI g, 96, .inl (upd (fun k => sT σ (k / 24) (k % 24)) (24 * v + s) x))) = mw g (uT σ v s x) th mi ti ++ r := by
  rw [upd24 (sT σ) (fun y => y) hs]
  rfl
end MWAT
