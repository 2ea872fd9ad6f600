/-! THE MEAN LENGTH, of the class and of the reference: a quotient, which may draw -/
/-- what the mean may be: nought without voices, or the quotient (alike it, where that is none) -/
def mnP (σ : St) (r : UInt64) : Prop := (sN σ = 0 ∧ r = FP.dconst0) ∨ (sN σ ≠ 0 ∧ alike64 r (FP.ddiv (FP.i2d (nI (suml σ))) (FP.i2d (nI (sN σ)))) = true)
set_option maxHeartbeats 4000000 in
set_option maxRecDepth 100000 in
/-- the mean length -/
theorem cX1_meanLength_m (l : Launch) (g : GA) (A : Nat → Prop) (σ : St) (rest : va_W) (hI : Inv σ) : MetD lw_cs l yX1_meanLength wsX1_meanLength ({ frames := 1, cells := 0, slots := 0, locals := 20 }) (va_Pc [.ref (gX g)] (Cx g A (cw g σ ++ rest))) (va_Qd (fun (r : UInt64) (u : Unit) => mnP σ r) (fun u t => kB g A (cw g σ ++ rest) t) A) 0 0 A := by
  refine MetD.ofW (cc := cX1_meanLength) (maxL := 3) (ret := (some .double)) (by decide) rfl ?_
  intro p e s m args below meth c s₁ B hml hv0 hd0
  change W p l e _ s m _ below meth c _ _ _ _ _ _
  obtain ⟨rfl, hP, hD, hA, hK, hX⟩ := hv0
  have hx := B.exec
  have hb := B.bytes
  have hr := B.returns
  have hts := atoms_spec (ws := wsX1_meanLength) B.pre
  have hown : s.vm.findClass RX1 = some m.cls := findClass_of_methodNamed B.named
  have hlocks := B.notSynchronized
  have hS : va_S A s.heap s.heap [] := va_S.rf
  have hinX1 : ∀ w ∈ u_ws RX1 TX1 2, w ∈ wsX1_meanLength := by decide +kernel
  have hl := lv_entry ([.ref (gX g)]) (n := 3) (Nat.le_of_ble_eq_true rfl)
  rw [lg_entry_eq]
  generalize (lg_sl ([.ref (gX g)]) ++ List.replicate (3 - (lg_sl ([.ref (gX g)])).length) Slot.unset).toArray = ls at hl ⊢
  have hl : lv_has ls 3 [(0, .ref (gX g))] := hl
  have hN := hI.N
  refine lv_aload_n (pc := 0) hx hb dX1_meanLength_0 rfl (lv_at hl 0 rfl) ?_
  refine va_get (v := .int (nI (sN σ))) (pc := 1) (D := gD g) (ci := 1) (C := RX1) (T := TX1) (N := 2) hx hb hts hinX1 hown hK hP 0 (cx0 g σ rest) rfl 1 (by decide) (hts (.fieldLink RX1 20 "ChoirNotes" "voiceCount" "I") (by decide +kernel)) (fun _ h9 => h9) rfl dX1_meanLength_1 ?_
  refine lv_if_ne (tgt := 9) (pc := 4) hx hb dX1_meanLength_4 (by decide) (fun c9 => ?_) (fun c9 => ?_)
  · have c9 : ¬ (sN σ = 0) := fun z => c9 ((nI_eq (a := sN σ) (b := 0) (by omega) (by omega)).mpr z)
    refine lv_iconst (v := 0) (pc := 9) hx hb dX1_meanLength_9 (by decide) ?_
    refine lv_istore_n (lv' := [(1, .int 0), (0, .ref (gX g))]) (pc := 10) hx hb dX1_meanLength_10 rfl hl (by decide) rfl (fun ls hl => ?_)
    refine lv_iconst (v := 0) (pc := 11) hx hb dX1_meanLength_11 (by decide) ?_
    refine lv_istore_n (lv' := [(2, .int 0), (1, .int 0), (0, .ref (gX g))]) (pc := 12) hx hb dX1_meanLength_12 rfl hl (by decide) rfl (fun ls hl => ?_)
    refine k_loop2 (pc := 13) (nL := 3) (fun (i : Nat) (x : Int32) => i ≤ sN σ ∧ x = nI (sum (len σ) i)) (fun (i : Nat) (x : Int32) => sN σ - i) (fun (i : Nat) (x : Int32) => [(2, .int (nI i)), (1, .int x), (0, .ref (gX g))]) (fun i x hJ ih_13 ls hl => ?_) 0 0 ⟨Nat.zero_le _, rfl⟩ (lv_sub hl [0, 1, 2] rfl)
    obtain ⟨hi, hx0⟩ := hJ
    have hl : lv_has ls 3 [(2, .int (nI i)), (1, .int x), (0, .ref (gX g))] := hl
    refine lv_iload_n (pc := 13) hx hb dX1_meanLength_13 rfl (lv_at hl 0 rfl) ?_
    refine lv_aload_n (pc := 14) hx hb dX1_meanLength_14 rfl (lv_at hl 2 rfl) ?_
    refine va_get (v := .int (nI (sN σ))) (pc := 15) (D := gD g) (ci := 1) (C := RX1) (T := TX1) (N := 2) hx hb hts hinX1 hown hK hP 0 (cx0 g σ rest) rfl 1 (by decide) (hts (.fieldLink RX1 20 "ChoirNotes" "voiceCount" "I") (by decide +kernel)) (fun _ h9 => h9) rfl dX1_meanLength_15 ?_
    refine lv_icmp_ge (tgt := 39) (pc := 18) hx hb dX1_meanLength_18 (by decide) (fun c1 => ?_) (fun c1 => ?_)
    · have c1 : sN σ ≤ i := (nI_leI (a := sN σ) (b := i) (by omega) (by omega)).mp c1
      have hxs : x = nI (suml σ) := by rw [hx0, show i = sN σ by omega]; rfl
      subst hxs
      refine lv_iload_n (pc := 39) hx hb dX1_meanLength_39 rfl (lv_at hl 1 rfl) ?_
      refine lv_i2d (pc := 40) hx hb dX1_meanLength_40 ?_
      refine lv_aload_n (pc := 41) hx hb dX1_meanLength_41 rfl (lv_at hl 2 rfl) ?_
      refine va_get (v := .int (nI (sN σ))) (pc := 42) (D := gD g) (ci := 1) (C := RX1) (T := TX1) (N := 2) hx hb hts hinX1 hown hK hP 0 (cx0 g σ rest) rfl 1 (by decide) (hts (.fieldLink RX1 20 "ChoirNotes" "voiceCount" "I") (by decide +kernel)) (fun _ h9 => h9) rfl dX1_meanLength_42 ?_
      refine lv_i2d (pc := 45) hx hb dX1_meanLength_45 ?_
      change W p l e _ (s.setDrawn s.drawn) m _ below meth c _ _ _ _ _ _
      refine lv_ddiv_any (pc := 46) hd0 lw_bits hx hb dX1_meanLength_46 (fun r d1 hal hd1 => ?_)
      refine W.endD hd1 ?_
      exact W.dret hx hb hr (fun t ht hW => ⟨⟨_, (), rfl, Or.inr ⟨c9, hal⟩, by rw [ht]; exact hP, hD⟩, hS.F ht⟩) hS.2.2 dX1_meanLength_47
    · have c1 : ¬ (sN σ ≤ i) := fun z => c1 ((nI_leI (a := sN σ) (b := i) (by omega) (by omega)).mpr z)
      refine lv_iload_n (pc := 21) hx hb dX1_meanLength_21 rfl (lv_at hl 1 rfl) ?_
      refine lv_aload_n (pc := 22) hx hb dX1_meanLength_22 rfl (lv_at hl 2 rfl) ?_
      refine va_get (v := .ref (gK g)) (pc := 23) (D := gD g) (ci := 1) (C := RX1) (T := TX1) (N := 2) hx hb hts hinX1 hown hK hP 0 (cx0 g σ rest) rfl 0 (by decide) (hts (.fieldLink RX1 11 "ChoirNotes" "book" "[LChoirNotes$Voice;") (by decide +kernel)) (fun _ h9 => h9) rfl dX1_meanLength_23 ?_
      refine lv_iload_n (pc := 26) hx hb dX1_meanLength_26 rfl (lv_at hl 0 rfl) ?_
      refine k_aald (pc := 27) (x := gV g i) hx hb hK hP 1 2 (cx1 g σ rest) rfl i rfl (show i < 4 by omega) (by decide) (if_pos (show i < 4 by omega)) dX1_meanLength_27 ?_
      refine k_ri (pc := 28) (va_runVN (As := []) (rest := [.int x]) ⟨hx, hb, hml, hown, hts⟩ (cX0_end_m l g A σ rest i (show i < 4 by omega) hI) ⟨va_cnB 0 hts gX1_meanLength_X0_end_n89 rfl rfl rfl (nm_89 hX) (hts (.initialized RX0) (by decide +kernel)) (by decide +kernel) ⟨Nat.le_of_ble_eq_true rfl, Nat.le_of_ble_eq_true rfl⟩, hts (.instanceMethod yX0_end) (by decide +kernel), hts (.selects RX0 yX0_end yX0_end) (by decide +kernel)⟩ (cx_V (q0 := (2 + 6 * i)) (ci := 0) (r := (RX0, TX0, 10)) rfl (cv0 g σ rest (show i < 4 by omega)) hP hD hA hK hX hS) rfl rfl hl.1 rfl (lv_room (Nat.le_of_ble_eq_true rfl)) dX1_meanLength_28 ⟨Nat.le_of_ble_eq_true rfl, Nat.le_of_ble_eq_true rfl⟩) (fun r_3 hr_3 => ?_)
      subst hr_3
      refine lv_iadd (pc := 31) hx hb dX1_meanLength_31 ?_
      refine lv_istore_n (lv' := [(1, .int (x + (nI (len σ i)))), (2, .int (nI i)), (0, .ref (gX g))]) (pc := 32) hx hb dX1_meanLength_32 rfl hl (by decide) rfl (fun ls hl => ?_)
      refine lv_iinc (v := nI (i + 1)) (lv' := [(2, .int (nI (i + 1))), (1, .int (x + (nI (len σ i)))), (0, .ref (gX g))]) (pc := 33) hx hb dX1_meanLength_33 hl (k := 1) rfl (nI_1 _) (by decide) rfl (fun ls hl => ?_)
      refine lv_goto (tgt := 13) (pc := 36) hx hb dX1_meanLength_36 (by decide) ?_
      exact ih_13 (i + 1) (x + (nI (len σ i))) ⟨by omega, by rw [hx0, nI_add]; rfl⟩ (by omega) _ (lv_sub hl [0, 1, 2] rfl)
  · have c9 : sN σ = 0 := (nI_eq (a := sN σ) (b := 0) (by omega) (by omega)).mp c9
    refine lv_dconst0 (pc := 7) hx hb dX1_meanLength_7 ?_
    change W p l e _ (s.setDrawn s.drawn) m _ below meth c _ _ _ _ _ _
    refine W.endD hd0 ?_
    exact W.dret hx hb hr (fun t ht hW => ⟨⟨_, (), rfl, Or.inl ⟨c9, rfl⟩, by rw [ht]; exact hP, hD⟩, hS.F ht⟩) hS.2.2 dX1_meanLength_8
set_option maxHeartbeats 4000000 in
set_option maxRecDepth 100000 in
/-- the mean length -/
theorem cX2_meanLength_m (l : Launch) (g : GA) (A : Nat → Prop) (σ : St) (rest : va_W) (th : Int32) (mi ti : Nat → Int32) (hI : Inv σ) : MetD lw_cs l yX2_meanLength wsX2_meanLength ({ frames := 2, cells := 0, slots := 0, locals := 48 }) (va_Pc [.ref (gM g)] (Cx g A (mw g σ th mi ti ++ rest))) (va_Qd (fun (r : UInt64) (u : Unit) => mnP σ r) (fun u t => kB g A (mw g σ 0 mi ti ++ rest) t) A) 0 0 A := by
  refine MetD.ofW (cc := cX2_meanLength) (maxL := 3) (ret := (some .double)) (by decide) rfl ?_
  intro p e s m args below meth c s₁ B hml hv0 hd0
  change W p l e _ s m _ below meth c _ _ _ _ _ _
  obtain ⟨rfl, hP, hD, hA, hK, hX⟩ := hv0
  have hx := B.exec
  have hb := B.bytes
  have hr := B.returns
  have hts := atoms_spec (ws := wsX2_meanLength) B.pre
  have hown : s.vm.findClass RX2 = some m.cls := findClass_of_methodNamed B.named
  have hlocks := B.notSynchronized
  have hS : va_S A s.heap s.heap [] := va_S.rf
  have hinX2 : ∀ w ∈ u_ws RX2 TX2 11, w ∈ wsX2_meanLength := by decide +kernel
  have hl := lv_entry ([.ref (gM g)]) (n := 3) (Nat.le_of_ble_eq_true rfl)
  rw [lg_entry_eq]
  generalize (lg_sl ([.ref (gM g)]) ++ List.replicate (3 - (lg_sl ([.ref (gM g)])).length) Slot.unset).toArray = ls at hl ⊢
  have hl : lv_has ls 3 [(0, .ref (gM g))] := hl
  have hN := hI.N
  refine lv_aload_n (pc := 0) hx hb dX2_meanLength_0 rfl (lv_at hl 0 rfl) ?_
  refine lv_iconst (v := 0) (pc := 1) hx hb dX2_meanLength_1 (by decide) ?_
  refine va_put (pc := 2) (D := gD g) (ci := 2) (v := .int 0) (ty := .int) (C := RX2) (T := TX2) (N := 11) hx hb hts hinX2 tyX2 tyX2_ok nmX2 hown hK hP hD hS 0 (ma0 g σ th mi ti rest) rfl 0 (by decide) (hts (.fieldLink RX2 38 "ChoirNotesModel" "thrown" "I") (by decide +kernel)) (fun _ h9 => h9) rfl (by decide +kernel) rfl rfl (Nat.le_of_ble_eq_true rfl) dX2_meanLength_2 (fun H1 locs1 hP hD hS => ?_)
  have hP : va_P (gD g) vwCl (mw g σ 0 mi ti ++ rest) H1 := hP
  have hD : va_D A (mw g σ 0 mi ti ++ rest) := hD
  refine lv_iconst (v := 0) (pc := 5) hx hb dX2_meanLength_5 (by decide) ?_
  refine lv_istore_n (lv' := [(1, .int 0), (0, .ref (gM g))]) (pc := 6) hx hb dX2_meanLength_6 rfl hl (by decide) rfl (fun ls hl => ?_)
  refine lv_iconst (v := 0) (pc := 7) hx hb dX2_meanLength_7 (by decide) ?_
  refine lv_istore_n (lv' := [(2, .int 0), (1, .int 0), (0, .ref (gM g))]) (pc := 8) hx hb dX2_meanLength_8 rfl hl (by decide) rfl (fun ls hl => ?_)
  refine k_loop2 (pc := 9) (nL := 3) (fun (i : Nat) (x : Int32) => i ≤ sN σ ∧ x = nI (sum (len σ) i)) (fun (i : Nat) (x : Int32) => sN σ - i) (fun (i : Nat) (x : Int32) => [(2, .int (nI i)), (1, .int x), (0, .ref (gM g))]) (fun i x hJ ih_9 ls hl => ?_) 0 0 ⟨Nat.zero_le _, rfl⟩ (lv_sub hl [0, 1, 2] rfl)
  obtain ⟨hi, hx0⟩ := hJ
  have hl : lv_has ls 3 [(2, .int (nI i)), (1, .int x), (0, .ref (gM g))] := hl
  refine lv_iload_n (pc := 9) hx hb dX2_meanLength_9 rfl (lv_at hl 0 rfl) ?_
  refine lv_aload_n (pc := 10) hx hb dX2_meanLength_10 rfl (lv_at hl 2 rfl) ?_
  refine va_get (v := .int (nI (sN σ))) (pc := 11) (D := gD g) (ci := 2) (C := RX2) (T := TX2) (N := 11) hx hb hts hinX2 hown hK hP 0 (ma0 g σ 0 mi ti rest) rfl 1 (by decide) (hts (.fieldLink RX2 42 "ChoirNotesModel" "voices" "I") (by decide +kernel)) (fun _ h9 => h9) rfl dX2_meanLength_11 ?_
  refine lv_icmp_ge (tgt := 31) (pc := 14) hx hb dX2_meanLength_14 (by decide) (fun c1 => ?_) (fun c1 => ?_)
  · have c1 : sN σ ≤ i := (nI_leI (a := sN σ) (b := i) (by omega) (by omega)).mp c1
    have hxs : x = nI (suml σ) := by rw [hx0, show i = sN σ by omega]; rfl
    subst hxs
    refine lv_aload_n (pc := 31) hx hb dX2_meanLength_31 rfl (lv_at hl 2 rfl) ?_
    refine va_get (v := .int (nI (sN σ))) (pc := 32) (D := gD g) (ci := 2) (C := RX2) (T := TX2) (N := 11) hx hb hts hinX2 hown hK hP 0 (ma0 g σ 0 mi ti rest) rfl 1 (by decide) (hts (.fieldLink RX2 42 "ChoirNotesModel" "voices" "I") (by decide +kernel)) (fun _ h9 => h9) rfl dX2_meanLength_32 ?_
    refine lv_if_ne (tgt := 42) (pc := 35) hx hb dX2_meanLength_35 (by decide) (fun c9 => ?_) (fun c9 => ?_)
    · have c9 : ¬ (sN σ = 0) := fun z => c9 ((nI_eq (a := sN σ) (b := 0) (by omega) (by omega)).mpr z)
      refine lv_iload_n (pc := 42) hx hb dX2_meanLength_42 rfl (lv_at hl 1 rfl) ?_
      refine lv_i2d (pc := 43) hx hb dX2_meanLength_43 ?_
      refine lv_aload_n (pc := 44) hx hb dX2_meanLength_44 rfl (lv_at hl 2 rfl) ?_
      refine va_get (v := .int (nI (sN σ))) (pc := 45) (D := gD g) (ci := 2) (C := RX2) (T := TX2) (N := 11) hx hb hts hinX2 hown hK hP 0 (ma0 g σ 0 mi ti rest) rfl 1 (by decide) (hts (.fieldLink RX2 42 "ChoirNotesModel" "voices" "I") (by decide +kernel)) (fun _ h9 => h9) rfl dX2_meanLength_45 ?_
      refine lv_i2d (pc := 48) hx hb dX2_meanLength_48 ?_
      change W p l e _ (s.setDrawn s.drawn) m _ below meth c _ _ _ _ _ _
      refine lv_ddiv_any (pc := 49) hd0 lw_bits hx hb dX2_meanLength_49 (fun r d1 hal hd1 => ?_)
      refine W.endD hd1 ?_
      exact W.dret hx hb hr (fun t ht hW => ⟨⟨_, (), rfl, Or.inr ⟨c9, hal⟩, by rw [ht]; exact hP, hD⟩, hS.F ht⟩) hS.2.2 dX2_meanLength_50
    · have c9 : sN σ = 0 := (nI_eq (a := sN σ) (b := 0) (by omega) (by omega)).mp c9
      refine lv_dconst0 (pc := 38) hx hb dX2_meanLength_38 ?_
      refine lv_goto (tgt := 50) (pc := 39) hx hb dX2_meanLength_39 (by decide) ?_
      change W p l e _ (s.setDrawn s.drawn) m _ below meth c _ _ _ _ _ _
      refine W.endD hd0 ?_
      exact W.dret hx hb hr (fun t ht hW => ⟨⟨_, (), rfl, Or.inl ⟨c9, rfl⟩, by rw [ht]; exact hP, hD⟩, hS.F ht⟩) hS.2.2 dX2_meanLength_50
  · have c1 : ¬ (sN σ ≤ i) := fun z => c1 ((nI_leI (a := sN σ) (b := i) (by omega) (by omega)).mpr z)
    refine lv_iload_n (pc := 17) hx hb dX2_meanLength_17 rfl (lv_at hl 1 rfl) ?_
    refine lv_aload_n (pc := 18) hx hb dX2_meanLength_18 rfl (lv_at hl 2 rfl) ?_
    refine lv_iload_n (pc := 19) hx hb dX2_meanLength_19 rfl (lv_at hl 0 rfl) ?_
    refine k_ri (pc := 20) (va_runV (As := [.int (nI i)]) (rest := [.int x]) ⟨hx, hb, hml, hown, hts⟩ (cX2_all_m l g A σ rest 0 mi ti i (by omega) hI) (cwV 1 hts gX2_meanLength_X2_all rfl rfl rfl (by decide +kernel) ⟨Nat.le_of_ble_eq_true rfl, Nat.le_of_ble_eq_true rfl⟩) (cx_V (q0 := 0) (ci := 2) (r := (RX2, TX2, 11)) rfl (ma0 g σ 0 mi ti rest) hP hD hA hK hX hS) rfl rfl hl.1 rfl (lv_room (Nat.le_of_ble_eq_true rfl)) dX2_meanLength_20 ⟨Nat.le_of_ble_eq_true rfl, Nat.le_of_ble_eq_true rfl⟩) (fun r_4 hr_4 => ?_)
    subst hr_4
    refine lv_iadd (pc := 23) hx hb dX2_meanLength_23 ?_
    refine lv_istore_n (lv' := [(1, .int (x + (nI (len σ i)))), (2, .int (nI i)), (0, .ref (gM g))]) (pc := 24) hx hb dX2_meanLength_24 rfl hl (by decide) rfl (fun ls hl => ?_)
    refine lv_iinc (v := nI (i + 1)) (lv' := [(2, .int (nI (i + 1))), (1, .int (x + (nI (len σ i)))), (0, .ref (gM g))]) (pc := 25) hx hb dX2_meanLength_25 hl (k := 1) rfl (nI_1 _) (by decide) rfl (fun ls hl => ?_)
    refine lv_goto (tgt := 9) (pc := 28) hx hb dX2_meanLength_28 (by decide) ?_
    exact ih_9 (i + 1) (x + (nI (len σ i))) ⟨by omega, by rw [hx0, nI_add]; rfl⟩ (by omega) _ (lv_sub hl [0, 1, 2] rfl)
set_option maxHeartbeats 4000000 in
set_option maxRecDepth 100000 in
/-- what the last call threw -/
theorem cX2_thrown_m (l : Launch) (g : GA) (A : Nat → Prop) (σ : St) (rest : va_W) (th : Int32) (mi ti : Nat → Int32)  : Met l yX2_thrown wsX2_thrown ({ frames := 0, cells := 0, slots := 0, locals := 0 }) (va_Pc [.ref (gM g)] (Cx g A (mw g σ th mi ti ++ rest))) (vp_Si (fun r : Int32 => r = th)) 0 0 (fun _ => False) := by
  refine Met.ofW (cc := cX2_thrown) (maxL := 1) (ret := (some .int)) (by decide) rfl ?_
  intro p e s m args below meth c s₁ B hml hv0
  obtain ⟨rfl, hP, hD, hA, hK, hX⟩ := hv0
  have hx := B.exec
  have hb := B.bytes
  have hr := B.returns
  have hts := atoms_spec (ws := wsX2_thrown) B.pre
  have hown : s.vm.findClass RX2 = some m.cls := findClass_of_methodNamed B.named
  have hlocks := B.notSynchronized
  have hS : va_S A s.heap s.heap [] := va_S.rf
  have hinX2 : ∀ w ∈ u_ws RX2 TX2 11, w ∈ wsX2_thrown := by decide +kernel
  have hl := lv_entry ([.ref (gM g)]) (n := 1) (Nat.le_of_ble_eq_true rfl)
  rw [lg_entry_eq]
  generalize (lg_sl ([.ref (gM g)]) ++ List.replicate (1 - (lg_sl ([.ref (gM g)])).length) Slot.unset).toArray = ls at hl ⊢
  have hl : lv_has ls 1 [(0, .ref (gM g))] := hl
  refine lv_aload_n (pc := 0) hx hb dX2_thrown_0 rfl (lv_at hl 0 rfl) ?_
  refine va_get (v := .int th) (pc := 1) (D := gD g) (ci := 2) (C := RX2) (T := TX2) (N := 11) hx hb hts hinX2 hown hK hP 0 (ma0 g σ th mi ti rest) rfl 0 (by decide) (hts (.fieldLink RX2 38 "ChoirNotesModel" "thrown" "I") (by decide +kernel)) (fun _ h9 => h9) rfl dX2_thrown_1 ?_
  exact W.iret hx hb hr (fun t ht hW => ⟨_, rfl, rfl, ht⟩) (fun q hq => absurd hq List.not_mem_nil) dX2_thrown_4
