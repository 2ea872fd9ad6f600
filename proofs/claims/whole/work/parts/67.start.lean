/-! THE START: from the cells as the constructors leave them to the state's worlds -/
abbrev U5 : Type := Nat × Nat × Nat × Nat × Nat
abbrev U9 : Type := Nat × Nat × Nat × Nat × Nat × Nat × Nat × Nat × Nat
def u5a (u : U5) (k : Nat) : Nat := match k with
  | 0 => u.1
  | 1 => u.2.1
  | 2 => u.2.2.1
  | 3 => u.2.2.2.1
  | _ => u.2.2.2.2
def u9a (u : U9) (k : Nat) : Nat := match k with
  | 0 => u.1
  | 1 => u.2.1
  | 2 => u.2.2.1
  | 3 => u.2.2.2.1
  | 4 => u.2.2.2.2.1
  | 5 => u.2.2.2.2.2.1
  | 6 => u.2.2.2.2.2.2.1
  | 7 => u.2.2.2.2.2.2.2.1
  | _ => u.2.2.2.2.2.2.2.2
def pick {α : Type} (a b c d : α) (j : Nat) : α := match j with
  | 0 => a
  | 1 => b
  | 2 => c
  | _ => d
/-- the addresses at hand, put together -/
def gMk (g0 : GA) (b q p0 p1 p2 p3 : Nat) (u0 u1 u2 u3 : U5) (b2 : Nat) (w : U9) (o : Nat) : GA := (g0.1, g0.2.1, b, q, pick p0 p1 p2 p3, (fun v k => u5a (pick u0 u1 u2 u3 v) k), b2, u9a w, o)
def vZl (g : GA) (b : Nat) (u : U5) : va_W := (b, .inr (0, [.int 0, .int 0, .int 0, .int (-1), .int 0, .ref u.1, .ref u.2.1, .ref u.2.2.1, .ref u.2.2.2.1, .ref u.2.2.2.2])) :: [(u.1, .inl (gI g, 24, .inl (fun _ => 0))), (u.2.1, .inl (gI g, 24, .inl (fun _ => 0))), (u.2.2.1, .inl (gZ g, 24, .inl (fun _ => 0))), (u.2.2.2.1, .inl (gI g, 24, .inl (fun _ => 0))), (u.2.2.2.2, .inl (gI g, 25, .inl (fun _ => 0)))]
theorem wX0Z_p (g : GA) (b : Nat) (u : U5) (R : va_W) : (R ++ vZl g b u).Perm (wX0Z g b u R) := by
  have h := List.perm_middle (a := ((b, .inr (0, [.int 0, .int 0, .int 0, .int (-1), .int 0, .ref u.1, .ref u.2.1, .ref u.2.2.1, .ref u.2.2.2.1, .ref u.2.2.2.2])) : Nat × va_E)) (l₁ := R) (l₂ := [(u.1, .inl (gI g, 24, .inl (fun _ => 0))), (u.2.1, .inl (gI g, 24, .inl (fun _ => 0))), (u.2.2.1, .inl (gZ g, 24, .inl (fun _ => 0))), (u.2.2.2.1, .inl (gI g, 24, .inl (fun _ => 0))), (u.2.2.2.2, .inl (gI g, 25, .inl (fun _ => 0)))])
  unfold wX0Z vZl
  simp only [List.append_assoc, List.cons_append, List.nil_append] at h ⊢
  exact h
def mZl (g : GA) (b : Nat) (u : U9) : va_W := (b, .inr (2, [.int 0, .int 0, .ref u.1, .ref u.2.1, .ref u.2.2.1, .ref u.2.2.2.1, .ref u.2.2.2.2.1, .ref u.2.2.2.2.2.1, .ref u.2.2.2.2.2.2.1, .ref u.2.2.2.2.2.2.2.1, .ref u.2.2.2.2.2.2.2.2])) :: [(u.1, .inl (gI g, 4, .inl (fun _ => 0))), (u.2.1, .inl (gI g, 4, .inl (fun _ => 0))), (u.2.2.1, .inl (gI g, 12, .inl (fun _ => 0))), (u.2.2.2.1, .inl (gI g, 96, .inl (fun _ => 0))), (u.2.2.2.2.1, .inl (gI g, 96, .inl (fun _ => 0))), (u.2.2.2.2.2.1, .inl (gZ g, 96, .inl (fun _ => 0))), (u.2.2.2.2.2.2.1, .inl (gI g, 96, .inl (fun _ => 0))), (u.2.2.2.2.2.2.2.1, .inl (gI g, 648, .inl (fun _ => 0))), (u.2.2.2.2.2.2.2.2, .inl (gI g, 648, .inl (fun _ => 0)))]
theorem wX2Z_p (g : GA) (b : Nat) (u : U9) (R : va_W) : (R ++ mZl g b u).Perm (wX2Z g b u R) := by
  have h := List.perm_middle (a := ((b, .inr (2, [.int 0, .int 0, .ref u.1, .ref u.2.1, .ref u.2.2.1, .ref u.2.2.2.1, .ref u.2.2.2.2.1, .ref u.2.2.2.2.2.1, .ref u.2.2.2.2.2.2.1, .ref u.2.2.2.2.2.2.2.1, .ref u.2.2.2.2.2.2.2.2])) : Nat × va_E)) (l₁ := R) (l₂ := [(u.1, .inl (gI g, 4, .inl (fun _ => 0))), (u.2.1, .inl (gI g, 4, .inl (fun _ => 0))), (u.2.2.1, .inl (gI g, 12, .inl (fun _ => 0))), (u.2.2.2.1, .inl (gI g, 96, .inl (fun _ => 0))), (u.2.2.2.2.1, .inl (gI g, 96, .inl (fun _ => 0))), (u.2.2.2.2.2.1, .inl (gZ g, 96, .inl (fun _ => 0))), (u.2.2.2.2.2.2.1, .inl (gI g, 96, .inl (fun _ => 0))), (u.2.2.2.2.2.2.2.1, .inl (gI g, 648, .inl (fun _ => 0))), (u.2.2.2.2.2.2.2.2, .inl (gI g, 648, .inl (fun _ => 0)))])
  unfold wX2Z mZl
  simp only [List.append_assoc, List.cons_append, List.nil_append] at h ⊢
  exact h
theorem st_row (g0 : GA) (b q p0 p1 p2 p3 : Nat) (u0 u1 u2 u3 : U5) (b2 : Nat) (w : U9) (o : Nat) : (fun j => if j < 4 then some (gV (gMk g0 b q p0 p1 p2 p3 u0 u1 u2 u3 b2 w o) j) else none) = va_up (va_up (va_up (va_up (fun _ => none) 0 (some p0)) 1 (some p1)) 2 (some p2)) 3 (some p3) := by
  funext j
  have h4 : j = 0 ∨ j = 1 ∨ j = 2 ∨ j = 3 ∨ 4 ≤ j := by omega
  rcases h4 with rfl | rfl | rfl | rfl | h
  · rfl
  · rfl
  · rfl
  · rfl
  · rw [if_neg (by omega)]
    unfold va_up
    rw [if_neg (by omega), if_neg (by omega), if_neg (by omega), if_neg (by omega)]
theorem st_cw (g0 : GA) (b q p0 p1 p2 p3 : Nat) (u0 u1 u2 u3 : U5) (b2 : Nat) (w : U9) (o : Nat) : cw (gMk g0 b q p0 p1 p2 p3 u0 u1 u2 u3 b2 w o) sZ = ((b, .inr (1, [.ref q, .int 0])) :: [vRow g0 q (va_up (va_up (va_up (va_up (fun _ => none) 0 (some p0)) 1 (some p1)) 2 (some p2)) 3 (some p3))]) ++ (vZl g0 p0 u0 ++ (vZl g0 p1 u1 ++ (vZl g0 p2 u2 ++ vZl g0 p3 u3))) := by
  unfold cw
  rw [st_row]
  rfl
theorem st_mw (g0 : GA) (b q p0 p1 p2 p3 : Nat) (u0 u1 u2 u3 : U5) (b2 : Nat) (w : U9) (o : Nat) : mw (gMk g0 b q p0 p1 p2 p3 u0 u1 u2 u3 b2 w o) sZ 0 (fun _ => 0) (fun _ => 0) = mZl g0 b2 w := by
  have hL : (fun v => if v < sN sZ then sL sZ v else (0 : Int32)) = fun _ => 0 := by
    funext v
    exact if_neg (Nat.not_lt_zero v)
  unfold mw
  rw [hL]
  rfl
theorem st_x1 (g0 : GA) (b q p0 p1 p2 p3 : Nat) (u0 u1 u2 u3 : U5) (R : va_W) (b2 : Nat) (w : U9) (o : Nat) : (R ++ cw (gMk g0 b q p0 p1 p2 p3 u0 u1 u2 u3 b2 w o) sZ).Perm (wX1Z g0 b q p0 p1 p2 p3 u0 u1 u2 u3 R) := by
  rw [st_cw]
  have h0 := wX0Z_p g0 p0 u0 R
  have h1 := (h0.append_right (vZl g0 p1 u1)).trans (wX0Z_p g0 p1 u1 _)
  have h2 := (h1.append_right (vZl g0 p2 u2)).trans (wX0Z_p g0 p2 u2 _)
  have h3 := (h2.append_right (vZl g0 p3 u3)).trans (wX0Z_p g0 p3 u3 _)
  have h4 : (((b, .inr (1, [.ref q, .int 0])) :: vRow g0 q (va_up (va_up (va_up (va_up (fun _ => none) 0 (some p0)) 1 (some p1)) 2 (some p2)) 3 (some p3)) :: (((R ++ vZl g0 p0 u0) ++ vZl g0 p1 u1) ++ vZl g0 p2 u2) ++ vZl g0 p3 u3)).Perm (wX1Z g0 b q p0 p1 p2 p3 u0 u1 u2 u3 R) := (h3.cons _).cons _
  refine List.Perm.trans ?_ h4
  have h5 := List.perm_append_comm_assoc R ((b, .inr (1, [.ref q, .int 0])) :: [vRow g0 q (va_up (va_up (va_up (va_up (fun _ => none) 0 (some p0)) 1 (some p1)) 2 (some p2)) 3 (some p3))]) (vZl g0 p0 u0 ++ (vZl g0 p1 u1 ++ (vZl g0 p2 u2 ++ vZl g0 p3 u3)))
  simp only [List.append_assoc, List.cons_append, List.nil_append] at h5 ⊢
  exact h5
theorem st_arrI {args : Array Value} {s : State} (h : (Cond.arrayClass .int).before args s = true) : ∃ c, ArrOfT s c .int ∧ va_RA s c .int := by
  obtain ⟨c, k, comp, h1, h2, h3⟩ := Cond.arrayClass_spec h
  exact ⟨c, fun n z => ⟨fun k h => (by cases h), k, h2, comp, h3⟩, h1⟩
theorem st_arrZ {args : Array Value} {s : State} (h : (Cond.arrayClass .boolean).before args s = true) : ∃ c, ArrOfT s c .boolean ∧ va_RA s c .boolean := by
  obtain ⟨c, k, comp, h1, h2, h3⟩ := Cond.arrayClass_spec h
  exact ⟨c, fun n z => ⟨fun k h => (by cases h), k, h2, comp, h3⟩, h1⟩
theorem st_arrJ {args : Array Value} {s : State} (h : (Cond.arrayClass .long).before args s = true) : ∃ c, ArrOfT s c .long ∧ va_RA s c .long := by
  obtain ⟨c, k, comp, h1, h2, h3⟩ := Cond.arrayClass_spec h
  exact ⟨c, fun n z => ⟨fun k h => (by cases h), k, h2, comp, h3⟩, h1⟩
theorem st_arrO {C : String} {s : State} (h : va_AO C s) : ∃ c, ArrOfT s c (.object C) ∧ va_RA s c (.object C) := by
  obtain ⟨comp, c, k, h1, h2, h3, h4, h5⟩ := Cond.arrayOver_spec (va_AO.use (A := #[]) h)
  exact ⟨c, fun n z => ⟨fun k h => (by cases h), k, h3, comp, h4⟩, k, comp, h3, h4, h1, h5⟩
/-- the classes and the array classes, known at the start; the addresses not yet -/
theorem st_K {args : Array Value} {s : State} {ws : List Cond} (hts : ∀ w ∈ ws, w.before args s = true) (h0 : ∀ w ∈ u_ws RX0 TX0 10, w ∈ ws) (h1 : ∀ w ∈ u_ws RX1 TX1 2, w ∈ ws) (h2 : ∀ w ∈ u_ws RX2 TX2 11, w ∈ ws) (i0 : (Cond.instantiable RX0 10).before args s = true) (i1 : (Cond.instantiable RX1 2).before args s = true) (i2 : (Cond.instantiable RX2 11).before args s = true)
    (aI : (Cond.arrayClass .int).before args s = true) (aZ : (Cond.arrayClass .boolean).before args s = true) (aJ : (Cond.arrayClass .long).before args s = true) (aO : va_AO RX0 s) : ∃ g0 : GA, va_K (gD g0) vwCl (gT g0) s := by
  obtain ⟨c0, iS0, k0⟩ := u_known (C := RX0) (T := TX0) (N := 10) (n := 10) hts h0 i0
  obtain ⟨c1, iS1, k1⟩ := u_known (C := RX1) (T := TX1) (N := 2) (n := 2) hts h1 i1
  obtain ⟨c2, iS2, k2⟩ := u_known (C := RX2) (T := TX2) (N := 11) (n := 11) hts h2 i2
  obtain ⟨cI, aI⟩ := st_arrI aI
  obtain ⟨cZ, aZ⟩ := st_arrZ aZ
  obtain ⟨cJ, aJ⟩ := st_arrJ aJ
  obtain ⟨cO, aO⟩ := st_arrO aO
  refine ⟨((fun k => if k = 0 then c0 else if k = 1 then c1 else c2, fun k => if k = 0 then iS0 else if k = 1 then iS1 else iS2), (cI, cZ, cO, cJ), 0, 0, (fun _ => 0), (fun _ _ => 0), 0, (fun _ => 0), 0), ?_, ?_⟩
  · intro k q hq
    match k, hq with
    | 0, hq => cases hq; exact k0
    | 1, hq => cases hq; exact k1
    | 2, hq => cases hq; exact k2
    | k + 3, hq => cases hq
  · intro k q hq
    match k, hq with
    | 0, hq => cases hq; exact aI
    | 1, hq => cases hq; exact aZ
    | 2, hq => cases hq; exact aO
    | 3, hq => cases hq; exact aJ
    | k + 4, hq => cases hq
theorem inv_sZ : Inv sZ := ⟨by decide, fun _ => Nat.zero_le _, fun _ _ => ⟨rfl, rfl⟩, fun v h => absurd h (Nat.not_lt_zero v), fun _ _ => Nat.zero_le _, fun _ s => Or.inr ⟨0, Nat.zero_le s, by decide, rfl⟩, fun v s h => by
  have h0 : s = 0 := Nat.le_zero.mp h
  subst h0
  rfl⟩
theorem st_R {args : Array Value} {s : State} {k : Nat} {tx : String} (h1 : (Cond.stringRef RX1 k tx).before args s = true) (h2 : (Cond.exactly (.string RX1 k) "java/lang/String").before args s = true) : ∃ a, vk_R RX1 k tx a s := by
  obtain ⟨a, c, cell, kk, e, -⟩ := Cond.exactly_spec h2
  exact ⟨a, vk_R.of h1 e⟩
set_option maxRecDepth 20000 in
theorem st_XS {args : Array Value} {s : State} (hts : ∀ w ∈ lw_tbl, w.before args s = true) (hgv : (Jvm.Cond.and given_1 narrow_1).before args s = true) : XS (fun q => s.heap.size ≤ q) s := by
  have hf := flat_of_before _ hgv
  refine ⟨vx_Zqof (args := args) (hts _ (by decide +kernel)) (hts _ (by decide +kernel)) (hf _ (by decide +kernel)) (fun a h q => Nat.not_le.mpr h q), vx_Zqof (args := args) (hts _ (by decide +kernel)) (hts _ (by decide +kernel)) (hf _ (by decide +kernel)) (fun a h q => Nat.not_le.mpr h q), ?_, ?_, ?_, ?_, ?_⟩
  · exact List.forall_mem_cons.mpr ⟨st_R (hts _ (by decide +kernel)) (hf _ (by decide +kernel)), List.forall_mem_cons.mpr ⟨st_R (hts _ (by decide +kernel)) (hf _ (by decide +kernel)), List.forall_mem_cons.mpr ⟨st_R (hts _ (by decide +kernel)) (hf _ (by decide +kernel)), List.forall_mem_cons.mpr ⟨st_R (hts _ (by decide +kernel)) (hf _ (by decide +kernel)), List.forall_mem_cons.mpr ⟨st_R (hts _ (by decide +kernel)) (hf _ (by decide +kernel)), List.forall_mem_cons.mpr ⟨st_R (hts _ (by decide +kernel)) (hf _ (by decide +kernel)), List.forall_mem_cons.mpr ⟨st_R (hts _ (by decide +kernel)) (hf _ (by decide +kernel)), List.forall_mem_cons.mpr ⟨st_R (hts _ (by decide +kernel)) (hf _ (by decide +kernel)), List.forall_mem_cons.mpr ⟨st_R (hts _ (by decide +kernel)) (hf _ (by decide +kernel)), fun _ h => absurd h List.not_mem_nil⟩⟩⟩⟩⟩⟩⟩⟩⟩
  · exact fun E hE => va_Nw.of (A := args) rfl (hts _ ((by decide +kernel : ∀ E ∈ [eI, eA, eS], Cond.castable E E ∈ lw_tbl) E hE))
  · exact fun q hq => va_Nw.of (A := args) rfl (hts _ ((by decide +kernel : ∀ q ∈ kNF, Cond.fieldLinkNest RX1 q.1 "ChoirNotes$Voice" q.2.1 q.2.2 RX1 ∈ lw_tbl) q hq))
  · exact fun q hq => va_Nw.of (A := args) rfl (hts _ ((by decide +kernel : ∀ q ∈ kNM, Cond.methodLinkNest RX1 q.1 q.2 RX1 ∈ lw_tbl) q hq))
  · exact fun Y hY => va_Nw.of (A := args) rfl (hts _ ((by decide +kernel : ∀ Y ∈ kDc, Cond.declares (Bundle.initS Y) ∈ lw_tbl) Y hY))
