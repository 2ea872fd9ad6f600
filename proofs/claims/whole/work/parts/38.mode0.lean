theorem mw_uB (g : GA) (σ : St) (b : Nat → Nat → Int32) (th : Int32) (mi ti : Nat → Int32) : mw g (uB σ b) th mi ti = mw g σ th mi ti := rfl
/-- begins as they are due, of the voice v -/
def ghB (σ X : St) (v : Nat) : Nat → Nat → Int32 := fun w s => if w = v then nI (bg X v s) else sB σ w s
theorem tfP_gh {σ X : St} {v : Nat} (h : sB X = sB σ) : tfP X v (ghB σ X v) := by
  refine ⟨fun w hw => ?_, fun s _ => ?_⟩
  · funext s
    rw [h]
    exact if_neg hw
  · exact if_pos rfl
theorem drM {t : Int32} (h : t = -1 ∨ ∃ j : Nat, j < 100 ∧ t = nI j) : (if 0 < t then t else 0) + 1 = nI (drN t) := by
  rcases h with rfl | ⟨j, hj, rfl⟩
  · rfl
  · rw [drN_n (by omega)]
    rcases Nat.eq_zero_or_pos j with q | q
    · subst q; rfl
    · rw [if_pos (show (0 : Int32) < nI j from nI_lt q (by omega)), nI_1]
theorem drN_in {σ : St} (hI : Inv σ) {v : Nat} (hc : 0 < sC σ v) : (sT σ v (sC σ v - 1) = -1 ∨ ∃ j : Nat, j < 100 ∧ sT σ v (sC σ v - 1) = nI j) ∧ drN (sT σ v (sC σ v - 1)) ≤ sC σ v := by
  rcases hI.2.2.2.2.2.1 v (sC σ v - 1) with h | ⟨j, h1, h2, h3⟩
  · exact ⟨Or.inl h, by rw [h]; exact hc⟩
  · exact ⟨Or.inr ⟨j, by omega, h3⟩, by rw [h3, drN_n (by omega)]; omega⟩
theorem ms_av (g : GA) (X : St) (th : Int32) (mi ti : Nat → Int32) (r : va_W) {n : Nat} (hn : sN X = n) (hL : sL X n = -1) : (((mw g X th mi ti ++ r).set 2 (gB g 1, .inl (gI g, 4, .inl (upd (fun v => if v < sN X then sL X v else 0) n (-1))))).set 0 (gM g, .inr (2, [.int th, .int (nI (n + 1)), .ref (gB g 0), .ref (gB g 1), .ref (gB g 2), .ref (gB g 3), .ref (gB g 4), .ref (gB g 5), .ref (gB g 6), .ref (gB g 7), .ref (gB g 8)]))) = mw g (uN X (n + 1)) th mi ti ++ r := by
  have h0 : upd (fun v => if v < sN X then sL X v else 0) n (-1) = fun w => if w < sN (uN X (n + 1)) then sL (uN X (n + 1)) w else 0 := by
    funext j
    show (if j = n then (-1 : Int32) else if j < sN X then sL X j else 0) = if j < n + 1 then sL X j else 0
    by_cases h : j = n
    · rw [if_pos h, if_pos (by omega), h, hL]
    · rw [if_neg h]
      by_cases h2 : j < n
      · rw [if_pos (by omega), if_pos (by omega)]
      · rw [if_neg (by omega), if_neg (by omega)]
  rw [h0]
  rfl
