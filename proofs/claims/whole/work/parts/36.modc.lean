/-! THE REFERENCE: calls of a sign -/
set_option maxHeartbeats 4000000 in
set_option maxRecDepth 100000 in
/-- of K -/
theorem cX2_ofK_m (l : Launch) (g : GA) (A : Nat → Prop) (σ : St) (rest : va_W) (th : Int32) (mi ti : Nat → Int32) (p0 q0 : Int32) (hI : Inv σ) : Met l yX2_of wsX2_of ({ frames := 3, cells := 0, slots := 0, locals := 65 }) (va_Pc [.ref (gM g), .int p0, .int q0, .ref (gB g 3)] (Cx g A (mw g σ th mi ti ++ rest))) (va_Qi (fun (r : Int32) (u : (Nat → Int32) × (Nat → Int32)) => cdS σ p0 q0 = 0 → r = nI (sK σ (ix p0) (ix q0))) (fun u t => kB g A (mw g σ (nI (cdS σ p0 q0)) u.1 u.2 ++ rest) t) A) 0 0 A := by
  refine Met.ofW (cc := cX2_of) (maxL := 4) (ret := (some .int)) (by decide) rfl ?_
  intro p e s m args below meth c s₁ B hml hv0
  obtain ⟨rfl, hP, hD, hA, hK, hX⟩ := hv0
  have hx := B.exec
  have hb := B.bytes
  have hr := B.returns
  have hts := atoms_spec (ws := wsX2_of) B.pre
  have hown : s.vm.findClass RX2 = some m.cls := findClass_of_methodNamed B.named
  have hlocks := B.notSynchronized
  have hS : va_S A s.heap s.heap [] := va_S.rf
  have hinX2 : ∀ w ∈ u_ws RX2 TX2 11, w ∈ wsX2_of := by decide +kernel
  have hl := lv_entry ([.ref (gM g), .int p0, .int q0, .ref (gB g 3)]) (n := 4) (Nat.le_of_ble_eq_true rfl)
  rw [lg_entry_eq]
  generalize (lg_sl ([.ref (gM g), .int p0, .int q0, .ref (gB g 3)]) ++ List.replicate (4 - (lg_sl ([.ref (gM g), .int p0, .int q0, .ref (gB g 3)])).length) Slot.unset).toArray = ls at hl ⊢
  have hl : lv_has ls 4 [(0, .ref (gM g)), (1, .int p0), (2, .int q0), (3, .ref (gB g 3))] := hl
  refine lv_aload_n (pc := 0) hx hb dX2_of_0 rfl (lv_at hl 0 rfl) ?_
  refine lv_iconst (v := 0) (pc := 1) hx hb dX2_of_1 (by decide) ?_
  refine va_put (pc := 2) (D := gD g) (ci := 2) (v := .int 0) (ty := .int) (C := RX2) (T := TX2) (N := 11) hx hb hts hinX2 tyX2 tyX2_ok nmX2 hown hK hP hD hS 0 (ma0 g σ th mi ti rest) rfl 0 (by decide) (hts (.fieldLink RX2 38 "ChoirNotesModel" "thrown" "I") (by decide +kernel)) (fun _ h9 => h9) rfl (by decide +kernel) rfl rfl (Nat.le_of_ble_eq_true rfl) dX2_of_2 (fun H1 locs1 hP hD hS => ?_)
  have hP : va_P (gD g) vwCl (mw g σ 0 mi ti ++ rest) H1 := hP
  have hD : va_D A (mw g σ 0 mi ti ++ rest) := hD
  refine lv_aload_n (pc := 5) hx hb dX2_of_5 rfl (lv_at hl 0 rfl) ?_
  refine lv_iload_n (pc := 6) hx hb dX2_of_6 rfl (lv_at hl 1 rfl) ?_
  refine lv_iload_n (pc := 7) hx hb dX2_of_7 rfl (lv_at hl 2 rfl) ?_
  refine k_ri (pc := 8) (va_runV (As := [.int p0, .int q0]) (rest := []) ⟨hx, hb, hml, hown, hts⟩ (cX2_isSign_m l g A σ rest 0 mi ti p0 q0 hI) (cwV 2 hts gX2_of_X2_isSign rfl rfl rfl (by decide +kernel) ⟨Nat.le_of_ble_eq_true rfl, Nat.le_of_ble_eq_true rfl⟩) (cx_V (q0 := 0) (ci := 2) (r := (RX2, TX2, 11)) rfl (ma0 g σ 0 mi ti rest) hP hD hA hK hX hS) rfl rfl hl.1 rfl (lv_room (Nat.le_of_ble_eq_true rfl)) dX2_of_8 ⟨Nat.le_of_ble_eq_true rfl, Nat.le_of_ble_eq_true rfl⟩) (fun r_2 hr_2 => ?_)
  subst hr_2
  refine lv_if_eq (tgt := 25) (pc := 11) hx hb dX2_of_11 (by decide) (fun c1 => ?_) (fun c1 => ?_)
  · have c1 := bI_0.mp c1
    refine lv_aload_n (pc := 25) hx hb dX2_of_25 rfl (lv_at hl 0 rfl) ?_
    refine lv_iconst (v := 1) (pc := 26) hx hb dX2_of_26 (by decide) ?_
    refine va_calli (pc := 27) (va_runV (As := [.int 1]) (rest := []) ⟨hx, hb, hml, hown, hts⟩ (cX2_fail_m l g A σ rest 0 mi ti 1) (cwV 1 hts gX2_of_X2_fail rfl rfl rfl (by decide +kernel) ⟨Nat.le_of_ble_eq_true rfl, Nat.le_of_ble_eq_true rfl⟩) (cx_V (q0 := 0) (ci := 2) (r := (RX2, TX2, 11)) rfl (ma0 g σ 0 mi ti rest) hP hD hA hK hX hS) rfl rfl hl.1 rfl (lv_room (Nat.le_of_ble_eq_true rfl)) dX2_of_27 ⟨Nat.le_of_ble_eq_true rfl, Nat.le_of_ble_eq_true rfl⟩) hS (fun _ _ h => h) (fun _ h => h) (fun r_4 u5 t5 H5 locs5 ht5 hvm5 hw5 hB5 hz5 hk5 hS => ?_)
    obtain ⟨hP, hD⟩ := hB5
    rw [ht5] at hP
    subst hw5
    have hcd : cdS σ p0 q0 = 1 := by simp [cdS, c1]
    rw [hcd]
    exact W.iret hx hb hr (fun t ht hW => ⟨⟨_, (mi, ti), rfl, (fun q => absurd q (by decide)), by rw [ht]; exact hP, hD⟩, hS.F ht⟩) hS.2.2 dX2_of_30
  · have c1 := bI_n0.mp c1
    obtain ⟨v, s0, hvn, hs0, rfl, rfl⟩ := isS_o hI c1
    have hvv4 : v < 4 := hI.v4 hvn
    have hCv := hI.C v
    have hixv : ix (nI v) = v := ix_n (by omega)
    have hixs : ix (nI s0) = s0 := ix_n (by omega)
    rw [hixv] at c1
    rw [hixv, hixs]
    refine lv_aload_n (pc := 14) hx hb dX2_of_14 rfl (lv_at hl 3 rfl) ?_
    refine lv_bipush (v := 24) (pc := 15) hx hb dX2_of_15 (by decide) ?_
    refine lv_iload_n (pc := 17) hx hb dX2_of_17 rfl (lv_at hl 1 rfl) ?_
    refine lv_imul (pc := 18) hx hb dX2_of_18 ?_
    refine k_cong (y := nI (24 * v)) (pk_mul 24 v) ?_
    refine lv_iload_n (pc := 19) hx hb dX2_of_19 rfl (lv_at hl 2 rfl) ?_
    refine lv_iadd (pc := 20) hx hb dX2_of_20 ?_
    refine k_cong (y := nI (24 * v + s0)) (nI_add (24 * v) s0) ?_
    refine k_iald (pc := 21) (x := nI (sK σ v s0)) hx hb hK hP 4 0 (ma4 g σ 0 mi ti rest) rfl (24 * v + s0) rfl (by omega) (by decide) (a24 (fun a b => nI (sK σ a b)) (by omega)) dX2_of_21 ?_
    refine lv_goto (tgt := 30) (pc := 22) hx hb dX2_of_22 (by decide) ?_
    have hcd : cdS σ (nI v) (nI s0) = 0 := by simp [cdS, c1, hixv, hixs]
    rw [hcd]
    exact W.iret hx hb hr (fun t ht hW => ⟨⟨_, (mi, ti), rfl, (fun _ => rfl), by rw [ht]; exact hP, hD⟩, hS.F ht⟩) hS.2.2 dX2_of_30
set_option maxHeartbeats 4000000 in
set_option maxRecDepth 100000 in
/-- of P -/
theorem cX2_ofP_m (l : Launch) (g : GA) (A : Nat → Prop) (σ : St) (rest : va_W) (th : Int32) (mi ti : Nat → Int32) (p0 q0 : Int32) (hI : Inv σ) : Met l yX2_of wsX2_of ({ frames := 3, cells := 0, slots := 0, locals := 65 }) (va_Pc [.ref (gM g), .int p0, .int q0, .ref (gB g 4)] (Cx g A (mw g σ th mi ti ++ rest))) (va_Qi (fun (r : Int32) (u : (Nat → Int32) × (Nat → Int32)) => cdS σ p0 q0 = 0 → r = sP σ (ix p0) (ix q0)) (fun u t => kB g A (mw g σ (nI (cdS σ p0 q0)) u.1 u.2 ++ rest) t) A) 0 0 A := by
  refine Met.ofW (cc := cX2_of) (maxL := 4) (ret := (some .int)) (by decide) rfl ?_
  intro p e s m args below meth c s₁ B hml hv0
  obtain ⟨rfl, hP, hD, hA, hK, hX⟩ := hv0
  have hx := B.exec
  have hb := B.bytes
  have hr := B.returns
  have hts := atoms_spec (ws := wsX2_of) B.pre
  have hown : s.vm.findClass RX2 = some m.cls := findClass_of_methodNamed B.named
  have hlocks := B.notSynchronized
  have hS : va_S A s.heap s.heap [] := va_S.rf
  have hinX2 : ∀ w ∈ u_ws RX2 TX2 11, w ∈ wsX2_of := by decide +kernel
  have hl := lv_entry ([.ref (gM g), .int p0, .int q0, .ref (gB g 4)]) (n := 4) (Nat.le_of_ble_eq_true rfl)
  rw [lg_entry_eq]
  generalize (lg_sl ([.ref (gM g), .int p0, .int q0, .ref (gB g 4)]) ++ List.replicate (4 - (lg_sl ([.ref (gM g), .int p0, .int q0, .ref (gB g 4)])).length) Slot.unset).toArray = ls at hl ⊢
  have hl : lv_has ls 4 [(0, .ref (gM g)), (1, .int p0), (2, .int q0), (3, .ref (gB g 4))] := hl
  refine lv_aload_n (pc := 0) hx hb dX2_of_0 rfl (lv_at hl 0 rfl) ?_
  refine lv_iconst (v := 0) (pc := 1) hx hb dX2_of_1 (by decide) ?_
  refine va_put (pc := 2) (D := gD g) (ci := 2) (v := .int 0) (ty := .int) (C := RX2) (T := TX2) (N := 11) hx hb hts hinX2 tyX2 tyX2_ok nmX2 hown hK hP hD hS 0 (ma0 g σ th mi ti rest) rfl 0 (by decide) (hts (.fieldLink RX2 38 "ChoirNotesModel" "thrown" "I") (by decide +kernel)) (fun _ h9 => h9) rfl (by decide +kernel) rfl rfl (Nat.le_of_ble_eq_true rfl) dX2_of_2 (fun H1 locs1 hP hD hS => ?_)
  have hP : va_P (gD g) vwCl (mw g σ 0 mi ti ++ rest) H1 := hP
  have hD : va_D A (mw g σ 0 mi ti ++ rest) := hD
  refine lv_aload_n (pc := 5) hx hb dX2_of_5 rfl (lv_at hl 0 rfl) ?_
  refine lv_iload_n (pc := 6) hx hb dX2_of_6 rfl (lv_at hl 1 rfl) ?_
  refine lv_iload_n (pc := 7) hx hb dX2_of_7 rfl (lv_at hl 2 rfl) ?_
  refine k_ri (pc := 8) (va_runV (As := [.int p0, .int q0]) (rest := []) ⟨hx, hb, hml, hown, hts⟩ (cX2_isSign_m l g A σ rest 0 mi ti p0 q0 hI) (cwV 2 hts gX2_of_X2_isSign rfl rfl rfl (by decide +kernel) ⟨Nat.le_of_ble_eq_true rfl, Nat.le_of_ble_eq_true rfl⟩) (cx_V (q0 := 0) (ci := 2) (r := (RX2, TX2, 11)) rfl (ma0 g σ 0 mi ti rest) hP hD hA hK hX hS) rfl rfl hl.1 rfl (lv_room (Nat.le_of_ble_eq_true rfl)) dX2_of_8 ⟨Nat.le_of_ble_eq_true rfl, Nat.le_of_ble_eq_true rfl⟩) (fun r_2 hr_2 => ?_)
  subst hr_2
  refine lv_if_eq (tgt := 25) (pc := 11) hx hb dX2_of_11 (by decide) (fun c1 => ?_) (fun c1 => ?_)
  · have c1 := bI_0.mp c1
    refine lv_aload_n (pc := 25) hx hb dX2_of_25 rfl (lv_at hl 0 rfl) ?_
    refine lv_iconst (v := 1) (pc := 26) hx hb dX2_of_26 (by decide) ?_
    refine va_calli (pc := 27) (va_runV (As := [.int 1]) (rest := []) ⟨hx, hb, hml, hown, hts⟩ (cX2_fail_m l g A σ rest 0 mi ti 1) (cwV 1 hts gX2_of_X2_fail rfl rfl rfl (by decide +kernel) ⟨Nat.le_of_ble_eq_true rfl, Nat.le_of_ble_eq_true rfl⟩) (cx_V (q0 := 0) (ci := 2) (r := (RX2, TX2, 11)) rfl (ma0 g σ 0 mi ti rest) hP hD hA hK hX hS) rfl rfl hl.1 rfl (lv_room (Nat.le_of_ble_eq_true rfl)) dX2_of_27 ⟨Nat.le_of_ble_eq_true rfl, Nat.le_of_ble_eq_true rfl⟩) hS (fun _ _ h => h) (fun _ h => h) (fun r_4 u5 t5 H5 locs5 ht5 hvm5 hw5 hB5 hz5 hk5 hS => ?_)
    obtain ⟨hP, hD⟩ := hB5
    rw [ht5] at hP
    subst hw5
    have hcd : cdS σ p0 q0 = 1 := by simp [cdS, c1]
    rw [hcd]
    exact W.iret hx hb hr (fun t ht hW => ⟨⟨_, (mi, ti), rfl, (fun q => absurd q (by decide)), by rw [ht]; exact hP, hD⟩, hS.F ht⟩) hS.2.2 dX2_of_30
  · have c1 := bI_n0.mp c1
    obtain ⟨v, s0, hvn, hs0, rfl, rfl⟩ := isS_o hI c1
    have hvv4 : v < 4 := hI.v4 hvn
    have hCv := hI.C v
    have hixv : ix (nI v) = v := ix_n (by omega)
    have hixs : ix (nI s0) = s0 := ix_n (by omega)
    rw [hixv] at c1
    rw [hixv, hixs]
    refine lv_aload_n (pc := 14) hx hb dX2_of_14 rfl (lv_at hl 3 rfl) ?_
    refine lv_bipush (v := 24) (pc := 15) hx hb dX2_of_15 (by decide) ?_
    refine lv_iload_n (pc := 17) hx hb dX2_of_17 rfl (lv_at hl 1 rfl) ?_
    refine lv_imul (pc := 18) hx hb dX2_of_18 ?_
    refine k_cong (y := nI (24 * v)) (pk_mul 24 v) ?_
    refine lv_iload_n (pc := 19) hx hb dX2_of_19 rfl (lv_at hl 2 rfl) ?_
    refine lv_iadd (pc := 20) hx hb dX2_of_20 ?_
    refine k_cong (y := nI (24 * v + s0)) (nI_add (24 * v) s0) ?_
    refine k_iald (pc := 21) (x := sP σ v s0) hx hb hK hP 5 0 (ma5 g σ 0 mi ti rest) rfl (24 * v + s0) rfl (by omega) (by decide) (a24 (sP σ) (by omega)) dX2_of_21 ?_
    refine lv_goto (tgt := 30) (pc := 22) hx hb dX2_of_22 (by decide) ?_
    have hcd : cdS σ (nI v) (nI s0) = 0 := by simp [cdS, c1, hixv, hixs]
    rw [hcd]
    exact W.iret hx hb hr (fun t ht hW => ⟨⟨_, (mi, ti), rfl, (fun _ => rfl), by rw [ht]; exact hP, hD⟩, hS.F ht⟩) hS.2.2 dX2_of_30
set_option maxHeartbeats 4000000 in
set_option maxRecDepth 100000 in
/-- of T -/
theorem cX2_ofT_m (l : Launch) (g : GA) (A : Nat → Prop) (σ : St) (rest : va_W) (th : Int32) (mi ti : Nat → Int32) (p0 q0 : Int32) (hI : Inv σ) : Met l yX2_of wsX2_of ({ frames := 3, cells := 0, slots := 0, locals := 65 }) (va_Pc [.ref (gM g), .int p0, .int q0, .ref (gB g 6)] (Cx g A (mw g σ th mi ti ++ rest))) (va_Qi (fun (r : Int32) (u : (Nat → Int32) × (Nat → Int32)) => cdS σ p0 q0 = 0 → r = sT σ (ix p0) (ix q0)) (fun u t => kB g A (mw g σ (nI (cdS σ p0 q0)) u.1 u.2 ++ rest) t) A) 0 0 A := by
  refine Met.ofW (cc := cX2_of) (maxL := 4) (ret := (some .int)) (by decide) rfl ?_
  intro p e s m args below meth c s₁ B hml hv0
  obtain ⟨rfl, hP, hD, hA, hK, hX⟩ := hv0
  have hx := B.exec
  have hb := B.bytes
  have hr := B.returns
  have hts := atoms_spec (ws := wsX2_of) B.pre
  have hown : s.vm.findClass RX2 = some m.cls := findClass_of_methodNamed B.named
  have hlocks := B.notSynchronized
  have hS : va_S A s.heap s.heap [] := va_S.rf
  have hinX2 : ∀ w ∈ u_ws RX2 TX2 11, w ∈ wsX2_of := by decide +kernel
  have hl := lv_entry ([.ref (gM g), .int p0, .int q0, .ref (gB g 6)]) (n := 4) (Nat.le_of_ble_eq_true rfl)
  rw [lg_entry_eq]
  generalize (lg_sl ([.ref (gM g), .int p0, .int q0, .ref (gB g 6)]) ++ List.replicate (4 - (lg_sl ([.ref (gM g), .int p0, .int q0, .ref (gB g 6)])).length) Slot.unset).toArray = ls at hl ⊢
  have hl : lv_has ls 4 [(0, .ref (gM g)), (1, .int p0), (2, .int q0), (3, .ref (gB g 6))] := hl
  refine lv_aload_n (pc := 0) hx hb dX2_of_0 rfl (lv_at hl 0 rfl) ?_
  refine lv_iconst (v := 0) (pc := 1) hx hb dX2_of_1 (by decide) ?_
  refine va_put (pc := 2) (D := gD g) (ci := 2) (v := .int 0) (ty := .int) (C := RX2) (T := TX2) (N := 11) hx hb hts hinX2 tyX2 tyX2_ok nmX2 hown hK hP hD hS 0 (ma0 g σ th mi ti rest) rfl 0 (by decide) (hts (.fieldLink RX2 38 "ChoirNotesModel" "thrown" "I") (by decide +kernel)) (fun _ h9 => h9) rfl (by decide +kernel) rfl rfl (Nat.le_of_ble_eq_true rfl) dX2_of_2 (fun H1 locs1 hP hD hS => ?_)
  have hP : va_P (gD g) vwCl (mw g σ 0 mi ti ++ rest) H1 := hP
  have hD : va_D A (mw g σ 0 mi ti ++ rest) := hD
  refine lv_aload_n (pc := 5) hx hb dX2_of_5 rfl (lv_at hl 0 rfl) ?_
  refine lv_iload_n (pc := 6) hx hb dX2_of_6 rfl (lv_at hl 1 rfl) ?_
  refine lv_iload_n (pc := 7) hx hb dX2_of_7 rfl (lv_at hl 2 rfl) ?_
  refine k_ri (pc := 8) (va_runV (As := [.int p0, .int q0]) (rest := []) ⟨hx, hb, hml, hown, hts⟩ (cX2_isSign_m l g A σ rest 0 mi ti p0 q0 hI) (cwV 2 hts gX2_of_X2_isSign rfl rfl rfl (by decide +kernel) ⟨Nat.le_of_ble_eq_true rfl, Nat.le_of_ble_eq_true rfl⟩) (cx_V (q0 := 0) (ci := 2) (r := (RX2, TX2, 11)) rfl (ma0 g σ 0 mi ti rest) hP hD hA hK hX hS) rfl rfl hl.1 rfl (lv_room (Nat.le_of_ble_eq_true rfl)) dX2_of_8 ⟨Nat.le_of_ble_eq_true rfl, Nat.le_of_ble_eq_true rfl⟩) (fun r_2 hr_2 => ?_)
  subst hr_2
  refine lv_if_eq (tgt := 25) (pc := 11) hx hb dX2_of_11 (by decide) (fun c1 => ?_) (fun c1 => ?_)
  · have c1 := bI_0.mp c1
    refine lv_aload_n (pc := 25) hx hb dX2_of_25 rfl (lv_at hl 0 rfl) ?_
    refine lv_iconst (v := 1) (pc := 26) hx hb dX2_of_26 (by decide) ?_
    refine va_calli (pc := 27) (va_runV (As := [.int 1]) (rest := []) ⟨hx, hb, hml, hown, hts⟩ (cX2_fail_m l g A σ rest 0 mi ti 1) (cwV 1 hts gX2_of_X2_fail rfl rfl rfl (by decide +kernel) ⟨Nat.le_of_ble_eq_true rfl, Nat.le_of_ble_eq_true rfl⟩) (cx_V (q0 := 0) (ci := 2) (r := (RX2, TX2, 11)) rfl (ma0 g σ 0 mi ti rest) hP hD hA hK hX hS) rfl rfl hl.1 rfl (lv_room (Nat.le_of_ble_eq_true rfl)) dX2_of_27 ⟨Nat.le_of_ble_eq_true rfl, Nat.le_of_ble_eq_true rfl⟩) hS (fun _ _ h => h) (fun _ h => h) (fun r_4 u5 t5 H5 locs5 ht5 hvm5 hw5 hB5 hz5 hk5 hS => ?_)
    obtain ⟨hP, hD⟩ := hB5
    rw [ht5] at hP
    subst hw5
    have hcd : cdS σ p0 q0 = 1 := by simp [cdS, c1]
    rw [hcd]
    exact W.iret hx hb hr (fun t ht hW => ⟨⟨_, (mi, ti), rfl, (fun q => absurd q (by decide)), by rw [ht]; exact hP, hD⟩, hS.F ht⟩) hS.2.2 dX2_of_30
  · have c1 := bI_n0.mp c1
    obtain ⟨v, s0, hvn, hs0, rfl, rfl⟩ := isS_o hI c1
    have hvv4 : v < 4 := hI.v4 hvn
    have hCv := hI.C v
    have hixv : ix (nI v) = v := ix_n (by omega)
    have hixs : ix (nI s0) = s0 := ix_n (by omega)
    rw [hixv] at c1
    rw [hixv, hixs]
    refine lv_aload_n (pc := 14) hx hb dX2_of_14 rfl (lv_at hl 3 rfl) ?_
    refine lv_bipush (v := 24) (pc := 15) hx hb dX2_of_15 (by decide) ?_
    refine lv_iload_n (pc := 17) hx hb dX2_of_17 rfl (lv_at hl 1 rfl) ?_
    refine lv_imul (pc := 18) hx hb dX2_of_18 ?_
    refine k_cong (y := nI (24 * v)) (pk_mul 24 v) ?_
    refine lv_iload_n (pc := 19) hx hb dX2_of_19 rfl (lv_at hl 2 rfl) ?_
    refine lv_iadd (pc := 20) hx hb dX2_of_20 ?_
    refine k_cong (y := nI (24 * v + s0)) (nI_add (24 * v) s0) ?_
    refine k_iald (pc := 21) (x := sT σ v s0) hx hb hK hP 7 0 (ma7 g σ 0 mi ti rest) rfl (24 * v + s0) rfl (by omega) (by decide) (a24 (sT σ) (by omega)) dX2_of_21 ?_
    refine lv_goto (tgt := 30) (pc := 22) hx hb dX2_of_22 (by decide) ?_
    have hcd : cdS σ (nI v) (nI s0) = 0 := by simp [cdS, c1, hixv, hixs]
    rw [hcd]
    exact W.iret hx hb hr (fun t ht hW => ⟨⟨_, (mi, ti), rfl, (fun _ => rfl), by rw [ht]; exact hP, hD⟩, hS.F ht⟩) hS.2.2 dX2_of_30
set_option maxHeartbeats 4000000 in
set_option maxRecDepth 100000 in
/-- kindOf -/
theorem cX2_kindOf_m (l : Launch) (g : GA) (A : Nat → Prop) (σ : St) (rest : va_W) (th : Int32) (mi ti : Nat → Int32) (p0 q0 : Int32) (hI : Inv σ) : Met l yX2_kindOf wsX2_kindOf ({ frames := 4, cells := 0, slots := 0, locals := 88 }) (va_Pc [.ref (gM g), .int p0, .int q0] (Cx g A (mw g σ th mi ti ++ rest))) (va_Qi (fun (r : Int32) (u : (Nat → Int32) × (Nat → Int32)) => cdS σ p0 q0 = 0 → r = nI (sK σ (ix p0) (ix q0))) (fun u t => kB g A (mw g σ (nI (cdS σ p0 q0)) u.1 u.2 ++ rest) t) A) 0 0 A := by
  refine Met.ofW (cc := cX2_kindOf) (maxL := 3) (ret := (some .int)) (by decide) rfl ?_
  intro p e s m args below meth c s₁ B hml hv0
  obtain ⟨rfl, hP, hD, hA, hK, hX⟩ := hv0
  have hx := B.exec
  have hb := B.bytes
  have hr := B.returns
  have hts := atoms_spec (ws := wsX2_kindOf) B.pre
  have hown : s.vm.findClass RX2 = some m.cls := findClass_of_methodNamed B.named
  have hlocks := B.notSynchronized
  have hS : va_S A s.heap s.heap [] := va_S.rf
  have hinX2 : ∀ w ∈ u_ws RX2 TX2 11, w ∈ wsX2_kindOf := by decide +kernel
  have hl := lv_entry ([.ref (gM g), .int p0, .int q0]) (n := 3) (Nat.le_of_ble_eq_true rfl)
  rw [lg_entry_eq]
  generalize (lg_sl ([.ref (gM g), .int p0, .int q0]) ++ List.replicate (3 - (lg_sl ([.ref (gM g), .int p0, .int q0])).length) Slot.unset).toArray = ls at hl ⊢
  have hl : lv_has ls 3 [(0, .ref (gM g)), (1, .int p0), (2, .int q0)] := hl
  refine lv_aload_n (pc := 0) hx hb dX2_kindOf_0 rfl (lv_at hl 0 rfl) ?_
  refine lv_iload_n (pc := 1) hx hb dX2_kindOf_1 rfl (lv_at hl 1 rfl) ?_
  refine lv_iload_n (pc := 2) hx hb dX2_kindOf_2 rfl (lv_at hl 2 rfl) ?_
  refine lv_aload_n (pc := 3) hx hb dX2_kindOf_3 rfl (lv_at hl 0 rfl) ?_
  refine va_get (v := .ref (gB g 3)) (pc := 4) (D := gD g) (ci := 2) (C := RX2) (T := TX2) (N := 11) hx hb hts hinX2 hown hK hP 0 (ma0 g σ th mi ti rest) rfl 5 (by decide) (hts (.fieldLink RX2 19 "ChoirNotesModel" "kind" "[I") (by decide +kernel)) (fun _ h9 => h9) rfl dX2_kindOf_4 ?_
  refine va_calli (pc := 7) (va_runV (As := [.int p0, .int q0, .ref (gB g 3)]) (rest := []) ⟨hx, hb, hml, hown, hts⟩ (cX2_ofK_m l g A σ rest th mi ti p0 q0 hI) (cwV 3 hts gX2_kindOf_X2_of rfl rfl rfl (by decide +kernel) ⟨Nat.le_of_ble_eq_true rfl, Nat.le_of_ble_eq_true rfl⟩) (cx_V (q0 := 0) (ci := 2) (r := (RX2, TX2, 11)) rfl (ma0 g σ th mi ti rest) hP hD hA hK hX hS) rfl rfl hl.1 rfl (lv_room (Nat.le_of_ble_eq_true rfl)) dX2_kindOf_7 ⟨Nat.le_of_ble_eq_true rfl, Nat.le_of_ble_eq_true rfl⟩) hS (fun _ _ h => h) (fun _ h => h) (fun r_1 u2 t2 H2 locs2 ht2 hvm2 hw2 hB2 hz2 hk2 hS => ?_)
  obtain ⟨hP, hD⟩ := hB2
  rw [ht2] at hP
  exact W.iret hx hb hr (fun t ht hW => ⟨⟨_, u2, rfl, hw2, by rw [ht]; exact hP, hD⟩, hS.F ht⟩) hS.2.2 dX2_kindOf_10
set_option maxHeartbeats 4000000 in
set_option maxRecDepth 100000 in
/-- placeOf -/
theorem cX2_placeOf_m (l : Launch) (g : GA) (A : Nat → Prop) (σ : St) (rest : va_W) (th : Int32) (mi ti : Nat → Int32) (p0 q0 : Int32) (hI : Inv σ) : Met l yX2_placeOf wsX2_placeOf ({ frames := 4, cells := 0, slots := 0, locals := 88 }) (va_Pc [.ref (gM g), .int p0, .int q0] (Cx g A (mw g σ th mi ti ++ rest))) (va_Qi (fun (r : Int32) (u : (Nat → Int32) × (Nat → Int32)) => cdS σ p0 q0 = 0 → r = sP σ (ix p0) (ix q0)) (fun u t => kB g A (mw g σ (nI (cdS σ p0 q0)) u.1 u.2 ++ rest) t) A) 0 0 A := by
  refine Met.ofW (cc := cX2_placeOf) (maxL := 3) (ret := (some .int)) (by decide) rfl ?_
  intro p e s m args below meth c s₁ B hml hv0
  obtain ⟨rfl, hP, hD, hA, hK, hX⟩ := hv0
  have hx := B.exec
  have hb := B.bytes
  have hr := B.returns
  have hts := atoms_spec (ws := wsX2_placeOf) B.pre
  have hown : s.vm.findClass RX2 = some m.cls := findClass_of_methodNamed B.named
  have hlocks := B.notSynchronized
  have hS : va_S A s.heap s.heap [] := va_S.rf
  have hinX2 : ∀ w ∈ u_ws RX2 TX2 11, w ∈ wsX2_placeOf := by decide +kernel
  have hl := lv_entry ([.ref (gM g), .int p0, .int q0]) (n := 3) (Nat.le_of_ble_eq_true rfl)
  rw [lg_entry_eq]
  generalize (lg_sl ([.ref (gM g), .int p0, .int q0]) ++ List.replicate (3 - (lg_sl ([.ref (gM g), .int p0, .int q0])).length) Slot.unset).toArray = ls at hl ⊢
  have hl : lv_has ls 3 [(0, .ref (gM g)), (1, .int p0), (2, .int q0)] := hl
  refine lv_aload_n (pc := 0) hx hb dX2_placeOf_0 rfl (lv_at hl 0 rfl) ?_
  refine lv_iload_n (pc := 1) hx hb dX2_placeOf_1 rfl (lv_at hl 1 rfl) ?_
  refine lv_iload_n (pc := 2) hx hb dX2_placeOf_2 rfl (lv_at hl 2 rfl) ?_
  refine lv_aload_n (pc := 3) hx hb dX2_placeOf_3 rfl (lv_at hl 0 rfl) ?_
  refine va_get (v := .ref (gB g 4)) (pc := 4) (D := gD g) (ci := 2) (C := RX2) (T := TX2) (N := 11) hx hb hts hinX2 hown hK hP 0 (ma0 g σ th mi ti rest) rfl 6 (by decide) (hts (.fieldLink RX2 22 "ChoirNotesModel" "place" "[I") (by decide +kernel)) (fun _ h9 => h9) rfl dX2_placeOf_4 ?_
  refine va_calli (pc := 7) (va_runV (As := [.int p0, .int q0, .ref (gB g 4)]) (rest := []) ⟨hx, hb, hml, hown, hts⟩ (cX2_ofP_m l g A σ rest th mi ti p0 q0 hI) (cwV 3 hts gX2_placeOf_X2_of rfl rfl rfl (by decide +kernel) ⟨Nat.le_of_ble_eq_true rfl, Nat.le_of_ble_eq_true rfl⟩) (cx_V (q0 := 0) (ci := 2) (r := (RX2, TX2, 11)) rfl (ma0 g σ th mi ti rest) hP hD hA hK hX hS) rfl rfl hl.1 rfl (lv_room (Nat.le_of_ble_eq_true rfl)) dX2_placeOf_7 ⟨Nat.le_of_ble_eq_true rfl, Nat.le_of_ble_eq_true rfl⟩) hS (fun _ _ h => h) (fun _ h => h) (fun r_1 u2 t2 H2 locs2 ht2 hvm2 hw2 hB2 hz2 hk2 hS => ?_)
  obtain ⟨hP, hD⟩ := hB2
  rw [ht2] at hP
  exact W.iret hx hb hr (fun t ht hW => ⟨⟨_, u2, rfl, hw2, by rw [ht]; exact hP, hD⟩, hS.F ht⟩) hS.2.2 dX2_placeOf_10
set_option maxHeartbeats 4000000 in
set_option maxRecDepth 100000 in
/-- placeInLigature -/
theorem cX2_placeInLigature_m (l : Launch) (g : GA) (A : Nat → Prop) (σ : St) (rest : va_W) (th : Int32) (mi ti : Nat → Int32) (p0 q0 : Int32) (hI : Inv σ) : Met l yX2_placeInLigature wsX2_placeInLigature ({ frames := 4, cells := 0, slots := 0, locals := 88 }) (va_Pc [.ref (gM g), .int p0, .int q0] (Cx g A (mw g σ th mi ti ++ rest))) (va_Qi (fun (r : Int32) (u : (Nat → Int32) × (Nat → Int32)) => cdS σ p0 q0 = 0 → r = sT σ (ix p0) (ix q0)) (fun u t => kB g A (mw g σ (nI (cdS σ p0 q0)) u.1 u.2 ++ rest) t) A) 0 0 A := by
  refine Met.ofW (cc := cX2_placeInLigature) (maxL := 3) (ret := (some .int)) (by decide) rfl ?_
  intro p e s m args below meth c s₁ B hml hv0
  obtain ⟨rfl, hP, hD, hA, hK, hX⟩ := hv0
  have hx := B.exec
  have hb := B.bytes
  have hr := B.returns
  have hts := atoms_spec (ws := wsX2_placeInLigature) B.pre
  have hown : s.vm.findClass RX2 = some m.cls := findClass_of_methodNamed B.named
  have hlocks := B.notSynchronized
  have hS : va_S A s.heap s.heap [] := va_S.rf
  have hinX2 : ∀ w ∈ u_ws RX2 TX2 11, w ∈ wsX2_placeInLigature := by decide +kernel
  have hl := lv_entry ([.ref (gM g), .int p0, .int q0]) (n := 3) (Nat.le_of_ble_eq_true rfl)
  rw [lg_entry_eq]
  generalize (lg_sl ([.ref (gM g), .int p0, .int q0]) ++ List.replicate (3 - (lg_sl ([.ref (gM g), .int p0, .int q0])).length) Slot.unset).toArray = ls at hl ⊢
  have hl : lv_has ls 3 [(0, .ref (gM g)), (1, .int p0), (2, .int q0)] := hl
  refine lv_aload_n (pc := 0) hx hb dX2_placeInLigature_0 rfl (lv_at hl 0 rfl) ?_
  refine lv_iload_n (pc := 1) hx hb dX2_placeInLigature_1 rfl (lv_at hl 1 rfl) ?_
  refine lv_iload_n (pc := 2) hx hb dX2_placeInLigature_2 rfl (lv_at hl 2 rfl) ?_
  refine lv_aload_n (pc := 3) hx hb dX2_placeInLigature_3 rfl (lv_at hl 0 rfl) ?_
  refine va_get (v := .ref (gB g 6)) (pc := 4) (D := gD g) (ci := 2) (C := RX2) (T := TX2) (N := 11) hx hb hts hinX2 hown hK hP 0 (ma0 g σ th mi ti rest) rfl 8 (by decide) (hts (.fieldLink RX2 29 "ChoirNotesModel" "tied" "[I") (by decide +kernel)) (fun _ h9 => h9) rfl dX2_placeInLigature_4 ?_
  refine va_calli (pc := 7) (va_runV (As := [.int p0, .int q0, .ref (gB g 6)]) (rest := []) ⟨hx, hb, hml, hown, hts⟩ (cX2_ofT_m l g A σ rest th mi ti p0 q0 hI) (cwV 3 hts gX2_placeInLigature_X2_of rfl rfl rfl (by decide +kernel) ⟨Nat.le_of_ble_eq_true rfl, Nat.le_of_ble_eq_true rfl⟩) (cx_V (q0 := 0) (ci := 2) (r := (RX2, TX2, 11)) rfl (ma0 g σ th mi ti rest) hP hD hA hK hX hS) rfl rfl hl.1 rfl (lv_room (Nat.le_of_ble_eq_true rfl)) dX2_placeInLigature_7 ⟨Nat.le_of_ble_eq_true rfl, Nat.le_of_ble_eq_true rfl⟩) hS (fun _ _ h => h) (fun _ h => h) (fun r_1 u2 t2 H2 locs2 ht2 hvm2 hw2 hB2 hz2 hk2 hS => ?_)
  obtain ⟨hP, hD⟩ := hB2
  rw [ht2] at hP
  exact W.iret hx hb hr (fun t ht hW => ⟨⟨_, u2, rfl, hw2, by rw [ht]; exact hP, hD⟩, hS.F ht⟩) hS.2.2 dX2_placeInLigature_10
set_option maxHeartbeats 4000000 in
set_option maxRecDepth 100000 in
/-- lengthOf -/
theorem cX2_lengthOf_m (l : Launch) (g : GA) (A : Nat → Prop) (σ : St) (rest : va_W) (th : Int32) (mi ti : Nat → Int32) (p0 : Int32) (q0 : Int32) (hI : Inv σ) : Met l yX2_lengthOf wsX2_lengthOf ({ frames := 3, cells := 0, slots := 0, locals := 65 }) (va_Pc [.ref (gM g), .int p0, .int q0] (Cx g A (mw g σ th mi ti ++ rest))) (va_Qi (fun (r : Int32) (u : (Nat → Int32) × (Nat → Int32)) => cdS σ p0 q0 = 0 → r = nI (lg σ (ix p0) (ix q0))) (fun u t => kB g A (mw g σ (nI (cdS σ p0 q0)) u.1 u.2 ++ rest) t) A) 0 0 A := by
  refine Met.ofW (cc := cX2_lengthOf) (maxL := 3) (ret := (some .int)) (by decide) rfl ?_
  intro p e s m args below meth c s₁ B hml hv0
  obtain ⟨rfl, hP, hD, hA, hK, hX⟩ := hv0
  have hx := B.exec
  have hb := B.bytes
  have hr := B.returns
  have hts := atoms_spec (ws := wsX2_lengthOf) B.pre
  have hown : s.vm.findClass RX2 = some m.cls := findClass_of_methodNamed B.named
  have hlocks := B.notSynchronized
  have hS : va_S A s.heap s.heap [] := va_S.rf
  have hinX2 : ∀ w ∈ u_ws RX2 TX2 11, w ∈ wsX2_lengthOf := by decide +kernel
  have hl := lv_entry ([.ref (gM g), .int p0, .int q0]) (n := 3) (Nat.le_of_ble_eq_true rfl)
  rw [lg_entry_eq]
  generalize (lg_sl ([.ref (gM g), .int p0, .int q0]) ++ List.replicate (3 - (lg_sl ([.ref (gM g), .int p0, .int q0])).length) Slot.unset).toArray = ls at hl ⊢
  have hl : lv_has ls 3 [(0, .ref (gM g)), (1, .int p0), (2, .int q0)] := hl
  refine lv_aload_n (pc := 0) hx hb dX2_lengthOf_0 rfl (lv_at hl 0 rfl) ?_
  refine lv_iconst (v := 0) (pc := 1) hx hb dX2_lengthOf_1 (by decide) ?_
  refine va_put (pc := 2) (D := gD g) (ci := 2) (v := .int 0) (ty := .int) (C := RX2) (T := TX2) (N := 11) hx hb hts hinX2 tyX2 tyX2_ok nmX2 hown hK hP hD hS 0 (ma0 g σ th mi ti rest) rfl 0 (by decide) (hts (.fieldLink RX2 38 "ChoirNotesModel" "thrown" "I") (by decide +kernel)) (fun _ h9 => h9) rfl (by decide +kernel) rfl rfl (Nat.le_of_ble_eq_true rfl) dX2_lengthOf_2 (fun H1 locs1 hP hD hS => ?_)
  have hP : va_P (gD g) vwCl (mw g σ 0 mi ti ++ rest) H1 := hP
  have hD : va_D A (mw g σ 0 mi ti ++ rest) := hD
  refine lv_aload_n (pc := 5) hx hb dX2_lengthOf_5 rfl (lv_at hl 0 rfl) ?_
  refine lv_iload_n (pc := 6) hx hb dX2_lengthOf_6 rfl (lv_at hl 1 rfl) ?_
  refine lv_iload_n (pc := 7) hx hb dX2_lengthOf_7 rfl (lv_at hl 2 rfl) ?_
  refine k_ri (pc := 8) (va_runV (As := [.int p0, .int q0]) (rest := []) ⟨hx, hb, hml, hown, hts⟩ (cX2_isSign_m l g A σ rest 0 mi ti p0 q0 hI) (cwV 2 hts gX2_lengthOf_X2_isSign rfl rfl rfl (by decide +kernel) ⟨Nat.le_of_ble_eq_true rfl, Nat.le_of_ble_eq_true rfl⟩) (cx_V (q0 := 0) (ci := 2) (r := (RX2, TX2, 11)) rfl (ma0 g σ 0 mi ti rest) hP hD hA hK hX hS) rfl rfl hl.1 rfl (lv_room (Nat.le_of_ble_eq_true rfl)) dX2_lengthOf_8 ⟨Nat.le_of_ble_eq_true rfl, Nat.le_of_ble_eq_true rfl⟩) (fun r_2 hr_2 => ?_)
  subst hr_2
  refine lv_if_eq (tgt := 23) (pc := 11) hx hb dX2_lengthOf_11 (by decide) (fun c1 => ?_) (fun c1 => ?_)
  · have c1 := bI_0.mp c1
    refine lv_aload_n (pc := 23) hx hb dX2_lengthOf_23 rfl (lv_at hl 0 rfl) ?_
    refine lv_iconst (v := 1) (pc := 24) hx hb dX2_lengthOf_24 (by decide) ?_
    refine va_calli (pc := 25) (va_runV (As := [.int 1]) (rest := []) ⟨hx, hb, hml, hown, hts⟩ (cX2_fail_m l g A σ rest 0 mi ti 1) (cwV 1 hts gX2_lengthOf_X2_fail rfl rfl rfl (by decide +kernel) ⟨Nat.le_of_ble_eq_true rfl, Nat.le_of_ble_eq_true rfl⟩) (cx_V (q0 := 0) (ci := 2) (r := (RX2, TX2, 11)) rfl (ma0 g σ 0 mi ti rest) hP hD hA hK hX hS) rfl rfl hl.1 rfl (lv_room (Nat.le_of_ble_eq_true rfl)) dX2_lengthOf_25 ⟨Nat.le_of_ble_eq_true rfl, Nat.le_of_ble_eq_true rfl⟩) hS (fun _ _ h => h) (fun _ h => h) (fun r_4 u5 t5 H5 locs5 ht5 hvm5 hw5 hB5 hz5 hk5 hS => ?_)
    obtain ⟨hP, hD⟩ := hB5
    rw [ht5] at hP
    subst hw5
    have hcd : cdS σ p0 q0 = 1 := by simp [cdS, c1]
    rw [hcd]
    exact W.iret hx hb hr (fun t ht hW => ⟨⟨_, (mi, ti), rfl, (fun q => absurd q (by decide)), by rw [ht]; exact hP, hD⟩, hS.F ht⟩) hS.2.2 dX2_lengthOf_28
  · have c1 := bI_n0.mp c1
    obtain ⟨v, s0, hvn, hs0, rfl, rfl⟩ := isS_o hI c1
    have hvv4 : v < 4 := hI.v4 hvn
    have hCv := hI.C v
    have hixv : ix (nI v) = v := ix_n (by omega)
    have hixs : ix (nI s0) = s0 := ix_n (by omega)
    rw [hixv] at c1
    rw [hixv, hixs]
    refine lv_aload_n (pc := 14) hx hb dX2_lengthOf_14 rfl (lv_at hl 0 rfl) ?_
    refine lv_iload_n (pc := 15) hx hb dX2_lengthOf_15 rfl (lv_at hl 1 rfl) ?_
    refine lv_iload_n (pc := 16) hx hb dX2_lengthOf_16 rfl (lv_at hl 2 rfl) ?_
    refine k_ri (pc := 17) (va_runV (As := [.int (nI v), .int (nI s0)]) (rest := []) ⟨hx, hb, hml, hown, hts⟩ (cX2_lasts_m l g A σ rest 0 mi ti v s0 hvv4 (by omega) hI) (cwV 2 hts gX2_lengthOf_X2_lasts rfl rfl rfl (by decide +kernel) ⟨Nat.le_of_ble_eq_true rfl, Nat.le_of_ble_eq_true rfl⟩) (cx_V (q0 := 0) (ci := 2) (r := (RX2, TX2, 11)) rfl (ma0 g σ 0 mi ti rest) hP hD hA hK hX hS) rfl rfl hl.1 rfl (lv_room (Nat.le_of_ble_eq_true rfl)) dX2_lengthOf_17 ⟨Nat.le_of_ble_eq_true rfl, Nat.le_of_ble_eq_true rfl⟩) (fun r_6 hr_6 => ?_)
    subst hr_6
    refine lv_goto (tgt := 28) (pc := 20) hx hb dX2_lengthOf_20 (by decide) ?_
    have hcd : cdS σ (nI v) (nI s0) = 0 := by simp [cdS, c1, hixv, hixs]
    rw [hcd]
    exact W.iret hx hb hr (fun t ht hW => ⟨⟨_, (mi, ti), rfl, (fun _ => rfl), by rw [ht]; exact hP, hD⟩, hS.F ht⟩) hS.2.2 dX2_lengthOf_28
set_option maxHeartbeats 4000000 in
set_option maxRecDepth 100000 in
/-- beginOf -/
theorem cX2_beginOf_m (l : Launch) (g : GA) (A : Nat → Prop) (σ : St) (rest : va_W) (th : Int32) (mi ti : Nat → Int32) (p0 : Int32) (q0 : Int32) (hI : Inv σ) : Met l yX2_beginOf wsX2_beginOf ({ frames := 3, cells := 0, slots := 0, locals := 65 }) (va_Pc [.ref (gM g), .int p0, .int q0] (Cx g A (mw g σ th mi ti ++ rest))) (va_Qi (fun (r : Int32) (u : (Nat → Int32) × (Nat → Int32)) => cdS σ p0 q0 = 0 → r = nI (bg σ (ix p0) (ix q0))) (fun u t => kB g A (mw g σ (nI (cdS σ p0 q0)) u.1 u.2 ++ rest) t) A) 0 0 A := by
  refine Met.ofW (cc := cX2_beginOf) (maxL := 3) (ret := (some .int)) (by decide) rfl ?_
  intro p e s m args below meth c s₁ B hml hv0
  obtain ⟨rfl, hP, hD, hA, hK, hX⟩ := hv0
  have hx := B.exec
  have hb := B.bytes
  have hr := B.returns
  have hts := atoms_spec (ws := wsX2_beginOf) B.pre
  have hown : s.vm.findClass RX2 = some m.cls := findClass_of_methodNamed B.named
  have hlocks := B.notSynchronized
  have hS : va_S A s.heap s.heap [] := va_S.rf
  have hinX2 : ∀ w ∈ u_ws RX2 TX2 11, w ∈ wsX2_beginOf := by decide +kernel
  have hl := lv_entry ([.ref (gM g), .int p0, .int q0]) (n := 3) (Nat.le_of_ble_eq_true rfl)
  rw [lg_entry_eq]
  generalize (lg_sl ([.ref (gM g), .int p0, .int q0]) ++ List.replicate (3 - (lg_sl ([.ref (gM g), .int p0, .int q0])).length) Slot.unset).toArray = ls at hl ⊢
  have hl : lv_has ls 3 [(0, .ref (gM g)), (1, .int p0), (2, .int q0)] := hl
  refine lv_aload_n (pc := 0) hx hb dX2_beginOf_0 rfl (lv_at hl 0 rfl) ?_
  refine lv_iconst (v := 0) (pc := 1) hx hb dX2_beginOf_1 (by decide) ?_
  refine va_put (pc := 2) (D := gD g) (ci := 2) (v := .int 0) (ty := .int) (C := RX2) (T := TX2) (N := 11) hx hb hts hinX2 tyX2 tyX2_ok nmX2 hown hK hP hD hS 0 (ma0 g σ th mi ti rest) rfl 0 (by decide) (hts (.fieldLink RX2 38 "ChoirNotesModel" "thrown" "I") (by decide +kernel)) (fun _ h9 => h9) rfl (by decide +kernel) rfl rfl (Nat.le_of_ble_eq_true rfl) dX2_beginOf_2 (fun H1 locs1 hP hD hS => ?_)
  have hP : va_P (gD g) vwCl (mw g σ 0 mi ti ++ rest) H1 := hP
  have hD : va_D A (mw g σ 0 mi ti ++ rest) := hD
  refine lv_aload_n (pc := 5) hx hb dX2_beginOf_5 rfl (lv_at hl 0 rfl) ?_
  refine lv_iload_n (pc := 6) hx hb dX2_beginOf_6 rfl (lv_at hl 1 rfl) ?_
  refine lv_iload_n (pc := 7) hx hb dX2_beginOf_7 rfl (lv_at hl 2 rfl) ?_
  refine k_ri (pc := 8) (va_runV (As := [.int p0, .int q0]) (rest := []) ⟨hx, hb, hml, hown, hts⟩ (cX2_isSign_m l g A σ rest 0 mi ti p0 q0 hI) (cwV 2 hts gX2_beginOf_X2_isSign rfl rfl rfl (by decide +kernel) ⟨Nat.le_of_ble_eq_true rfl, Nat.le_of_ble_eq_true rfl⟩) (cx_V (q0 := 0) (ci := 2) (r := (RX2, TX2, 11)) rfl (ma0 g σ 0 mi ti rest) hP hD hA hK hX hS) rfl rfl hl.1 rfl (lv_room (Nat.le_of_ble_eq_true rfl)) dX2_beginOf_8 ⟨Nat.le_of_ble_eq_true rfl, Nat.le_of_ble_eq_true rfl⟩) (fun r_2 hr_2 => ?_)
  subst hr_2
  refine lv_if_eq (tgt := 23) (pc := 11) hx hb dX2_beginOf_11 (by decide) (fun c1 => ?_) (fun c1 => ?_)
  · have c1 := bI_0.mp c1
    refine lv_aload_n (pc := 23) hx hb dX2_beginOf_23 rfl (lv_at hl 0 rfl) ?_
    refine lv_iconst (v := 1) (pc := 24) hx hb dX2_beginOf_24 (by decide) ?_
    refine va_calli (pc := 25) (va_runV (As := [.int 1]) (rest := []) ⟨hx, hb, hml, hown, hts⟩ (cX2_fail_m l g A σ rest 0 mi ti 1) (cwV 1 hts gX2_beginOf_X2_fail rfl rfl rfl (by decide +kernel) ⟨Nat.le_of_ble_eq_true rfl, Nat.le_of_ble_eq_true rfl⟩) (cx_V (q0 := 0) (ci := 2) (r := (RX2, TX2, 11)) rfl (ma0 g σ 0 mi ti rest) hP hD hA hK hX hS) rfl rfl hl.1 rfl (lv_room (Nat.le_of_ble_eq_true rfl)) dX2_beginOf_25 ⟨Nat.le_of_ble_eq_true rfl, Nat.le_of_ble_eq_true rfl⟩) hS (fun _ _ h => h) (fun _ h => h) (fun r_4 u5 t5 H5 locs5 ht5 hvm5 hw5 hB5 hz5 hk5 hS => ?_)
    obtain ⟨hP, hD⟩ := hB5
    rw [ht5] at hP
    subst hw5
    have hcd : cdS σ p0 q0 = 1 := by simp [cdS, c1]
    rw [hcd]
    exact W.iret hx hb hr (fun t ht hW => ⟨⟨_, (mi, ti), rfl, (fun q => absurd q (by decide)), by rw [ht]; exact hP, hD⟩, hS.F ht⟩) hS.2.2 dX2_beginOf_28
  · have c1 := bI_n0.mp c1
    obtain ⟨v, s0, hvn, hs0, rfl, rfl⟩ := isS_o hI c1
    have hvv4 : v < 4 := hI.v4 hvn
    have hCv := hI.C v
    have hixv : ix (nI v) = v := ix_n (by omega)
    have hixs : ix (nI s0) = s0 := ix_n (by omega)
    rw [hixv] at c1
    rw [hixv, hixs]
    refine lv_aload_n (pc := 14) hx hb dX2_beginOf_14 rfl (lv_at hl 0 rfl) ?_
    refine lv_iload_n (pc := 15) hx hb dX2_beginOf_15 rfl (lv_at hl 1 rfl) ?_
    refine lv_iload_n (pc := 16) hx hb dX2_beginOf_16 rfl (lv_at hl 2 rfl) ?_
    refine k_ri (pc := 17) (va_runV (As := [.int (nI v), .int (nI s0)]) (rest := []) ⟨hx, hb, hml, hown, hts⟩ (cX2_begins_m l g A σ rest 0 mi ti v s0 hvv4 (by omega) hI) (cwV 2 hts gX2_beginOf_X2_begins rfl rfl rfl (by decide +kernel) ⟨Nat.le_of_ble_eq_true rfl, Nat.le_of_ble_eq_true rfl⟩) (cx_V (q0 := 0) (ci := 2) (r := (RX2, TX2, 11)) rfl (ma0 g σ 0 mi ti rest) hP hD hA hK hX hS) rfl rfl hl.1 rfl (lv_room (Nat.le_of_ble_eq_true rfl)) dX2_beginOf_17 ⟨Nat.le_of_ble_eq_true rfl, Nat.le_of_ble_eq_true rfl⟩) (fun r_6 hr_6 => ?_)
    subst hr_6
    refine lv_goto (tgt := 28) (pc := 20) hx hb dX2_beginOf_20 (by decide) ?_
    have hcd : cdS σ (nI v) (nI s0) = 0 := by simp [cdS, c1, hixv, hixs]
    rw [hcd]
    exact W.iret hx hb hr (fun t ht hW => ⟨⟨_, (mi, ti), rfl, (fun _ => rfl), by rw [ht]; exact hP, hD⟩, hS.F ht⟩) hS.2.2 dX2_beginOf_28
set_option maxHeartbeats 4000000 in
set_option maxRecDepth 100000 in
/-- isColoured -/
theorem cX2_isColoured_m (l : Launch) (g : GA) (A : Nat → Prop) (σ : St) (rest : va_W) (th : Int32) (mi ti : Nat → Int32) (p0 : Int32) (q0 : Int32) (hI : Inv σ) : Met l yX2_isColoured wsX2_isColoured ({ frames := 3, cells := 0, slots := 0, locals := 65 }) (va_Pc [.ref (gM g), .int p0, .int q0] (Cx g A (mw g σ th mi ti ++ rest))) (va_Qi (fun (r : Int32) (u : (Nat → Int32) × (Nat → Int32)) => cdS σ p0 q0 = 0 → r = bI (sR σ (ix p0) (ix q0))) (fun u t => kB g A (mw g σ (nI (cdS σ p0 q0)) u.1 u.2 ++ rest) t) A) 0 0 A := by
  refine Met.ofW (cc := cX2_isColoured) (maxL := 3) (ret := (some .boolean)) (by decide) rfl ?_
  intro p e s m args below meth c s₁ B hml hv0
  obtain ⟨rfl, hP, hD, hA, hK, hX⟩ := hv0
  have hx := B.exec
  have hb := B.bytes
  have hr := B.returns
  have hts := atoms_spec (ws := wsX2_isColoured) B.pre
  have hown : s.vm.findClass RX2 = some m.cls := findClass_of_methodNamed B.named
  have hlocks := B.notSynchronized
  have hS : va_S A s.heap s.heap [] := va_S.rf
  have hinX2 : ∀ w ∈ u_ws RX2 TX2 11, w ∈ wsX2_isColoured := by decide +kernel
  have hl := lv_entry ([.ref (gM g), .int p0, .int q0]) (n := 3) (Nat.le_of_ble_eq_true rfl)
  rw [lg_entry_eq]
  generalize (lg_sl ([.ref (gM g), .int p0, .int q0]) ++ List.replicate (3 - (lg_sl ([.ref (gM g), .int p0, .int q0])).length) Slot.unset).toArray = ls at hl ⊢
  have hl : lv_has ls 3 [(0, .ref (gM g)), (1, .int p0), (2, .int q0)] := hl
  refine lv_aload_n (pc := 0) hx hb dX2_isColoured_0 rfl (lv_at hl 0 rfl) ?_
  refine lv_aload_n (pc := 1) hx hb dX2_isColoured_1 rfl (lv_at hl 0 rfl) ?_
  refine lv_iload_n (pc := 2) hx hb dX2_isColoured_2 rfl (lv_at hl 1 rfl) ?_
  refine lv_iload_n (pc := 3) hx hb dX2_isColoured_3 rfl (lv_at hl 2 rfl) ?_
  refine k_ri (pc := 4) (va_runV (As := [.int p0, .int q0]) (rest := [.ref (gM g)]) ⟨hx, hb, hml, hown, hts⟩ (cX2_isSign_m l g A σ rest th mi ti p0 q0 hI) (cwV 2 hts gX2_isColoured_X2_isSign rfl rfl rfl (by decide +kernel) ⟨Nat.le_of_ble_eq_true rfl, Nat.le_of_ble_eq_true rfl⟩) (cx_V (q0 := 0) (ci := 2) (r := (RX2, TX2, 11)) rfl (ma0 g σ th mi ti rest) hP hD hA hK hX hS) rfl rfl hl.1 rfl (lv_room (Nat.le_of_ble_eq_true rfl)) dX2_isColoured_4 ⟨Nat.le_of_ble_eq_true rfl, Nat.le_of_ble_eq_true rfl⟩) (fun r_1 hr_1 => ?_)
  subst hr_1
  refine lv_if_eq (tgt := 14) (pc := 7) hx hb dX2_isColoured_7 (by decide) (fun c1 => ?_) (fun c1 => ?_)
  · have c1 := bI_0.mp c1
    refine lv_iconst (v := 1) (pc := 14) hx hb dX2_isColoured_14 (by decide) ?_
    refine va_put (pc := 15) (D := gD g) (ci := 2) (v := .int 1) (ty := .int) (C := RX2) (T := TX2) (N := 11) hx hb hts hinX2 tyX2 tyX2_ok nmX2 hown hK hP hD hS 0 (ma0 g σ th mi ti rest) rfl 0 (by decide) (hts (.fieldLink RX2 38 "ChoirNotesModel" "thrown" "I") (by decide +kernel)) (fun _ h9 => h9) rfl (by decide +kernel) rfl rfl (Nat.le_of_ble_eq_true rfl) dX2_isColoured_15 (fun H3 locs3 hP hD hS => ?_)
    have hP : va_P (gD g) vwCl (mw g σ 1 mi ti ++ rest) H3 := hP
    have hD : va_D A (mw g σ 1 mi ti ++ rest) := hD
    refine lv_aload_n (pc := 18) hx hb dX2_isColoured_18 rfl (lv_at hl 0 rfl) ?_
    refine va_get (v := .int 1) (pc := 19) (D := gD g) (ci := 2) (C := RX2) (T := TX2) (N := 11) hx hb hts hinX2 hown hK hP 0 (ma0 g σ 1 mi ti rest) rfl 0 (by decide) (hts (.fieldLink RX2 38 "ChoirNotesModel" "thrown" "I") (by decide +kernel)) (fun _ h9 => h9) rfl dX2_isColoured_19 ?_
    refine lv_if_ne (tgt := 43) (pc := 22) hx hb dX2_isColoured_22 (by decide) (fun c_4 => ?_) (fun c_4 => ?_)
    · refine lv_iconst (v := 0) (pc := 43) hx hb dX2_isColoured_43 (by decide) ?_
      have hcd : cdS σ p0 q0 = 1 := by simp [cdS, c1]
      rw [hcd]
      exact W.zret (v := 0) hx hb hr rfl (fun t ht hW => ⟨⟨_, (mi, ti), rfl, (fun q => absurd q (by decide)), by rw [ht]; exact hP, hD⟩, hS.F ht⟩) hS.2.2 dX2_isColoured_44
    · exact absurd c_4 (by decide)
  · have c1 := bI_n0.mp c1
    obtain ⟨v, s0, hvn, hs0, rfl, rfl⟩ := isS_o hI c1
    have hvv4 : v < 4 := hI.v4 hvn
    have hCv := hI.C v
    have hixv : ix (nI v) = v := ix_n (by omega)
    have hixs : ix (nI s0) = s0 := ix_n (by omega)
    rw [hixv] at c1
    rw [hixv, hixs]
    refine lv_iconst (v := 0) (pc := 10) hx hb dX2_isColoured_10 (by decide) ?_
    refine lv_goto (tgt := 15) (pc := 11) hx hb dX2_isColoured_11 (by decide) ?_
    refine va_put (pc := 15) (D := gD g) (ci := 2) (v := .int 0) (ty := .int) (C := RX2) (T := TX2) (N := 11) hx hb hts hinX2 tyX2 tyX2_ok nmX2 hown hK hP hD hS 0 (ma0 g σ th mi ti rest) rfl 0 (by decide) (hts (.fieldLink RX2 38 "ChoirNotesModel" "thrown" "I") (by decide +kernel)) (fun _ h9 => h9) rfl (by decide +kernel) rfl rfl (Nat.le_of_ble_eq_true rfl) dX2_isColoured_15 (fun H5 locs5 hP hD hS => ?_)
    have hP : va_P (gD g) vwCl (mw g σ 0 mi ti ++ rest) H5 := hP
    have hD : va_D A (mw g σ 0 mi ti ++ rest) := hD
    refine lv_aload_n (pc := 18) hx hb dX2_isColoured_18 rfl (lv_at hl 0 rfl) ?_
    refine va_get (v := .int 0) (pc := 19) (D := gD g) (ci := 2) (C := RX2) (T := TX2) (N := 11) hx hb hts hinX2 hown hK hP 0 (ma0 g σ 0 mi ti rest) rfl 0 (by decide) (hts (.fieldLink RX2 38 "ChoirNotesModel" "thrown" "I") (by decide +kernel)) (fun _ h9 => h9) rfl dX2_isColoured_19 ?_
    refine lv_if_ne (tgt := 43) (pc := 22) hx hb dX2_isColoured_22 (by decide) (fun c_6 => ?_) (fun c_6 => ?_)
    · exact absurd c_6 (by decide)
    · refine lv_aload_n (pc := 25) hx hb dX2_isColoured_25 rfl (lv_at hl 0 rfl) ?_
      refine va_get (v := .ref (gB g 5)) (pc := 26) (D := gD g) (ci := 2) (C := RX2) (T := TX2) (N := 11) hx hb hts hinX2 hown hK hP 0 (ma0 g σ 0 mi ti rest) rfl 7 (by decide) (hts (.fieldLink RX2 25 "ChoirNotesModel" "isRed" "[Z") (by decide +kernel)) (fun _ h9 => h9) rfl dX2_isColoured_26 ?_
      refine lv_bipush (v := 24) (pc := 29) hx hb dX2_isColoured_29 (by decide) ?_
      refine lv_iload_n (pc := 31) hx hb dX2_isColoured_31 rfl (lv_at hl 1 rfl) ?_
      refine lv_imul (pc := 32) hx hb dX2_isColoured_32 ?_
      refine k_cong (y := nI (24 * v)) (pk_mul 24 v) ?_
      refine lv_iload_n (pc := 33) hx hb dX2_isColoured_33 rfl (lv_at hl 2 rfl) ?_
      refine lv_iadd (pc := 34) hx hb dX2_isColoured_34 ?_
      refine k_cong (y := nI (24 * v + s0)) (nI_add (24 * v) s0) ?_
      refine k_zald (pc := 35) (x := bI (sR σ v s0)) hx hb hK hP 6 1 (ma6 g σ 0 mi ti rest) rfl (24 * v + s0) rfl (by omega) (by decide) (a24 (fun a b => bI (sR σ a b)) (by omega)) dX2_isColoured_35 ?_
      refine lv_if_eq (tgt := 43) (pc := 36) hx hb dX2_isColoured_36 (by decide) (fun c2 => ?_) (fun c2 => ?_)
      · have c2 := bI_0.mp c2
        refine lv_iconst (v := 0) (pc := 43) hx hb dX2_isColoured_43 (by decide) ?_
        have hcd : cdS σ (nI v) (nI s0) = 0 := by simp [cdS, c1, hixv, hixs, c2]
        rw [hcd]
        exact W.zret (v := 0) hx hb hr rfl (fun t ht hW => ⟨⟨_, (mi, ti), rfl, (fun _ => (by rw [c2]; rfl)), by rw [ht]; exact hP, hD⟩, hS.F ht⟩) hS.2.2 dX2_isColoured_44
      · have c2 := bI_n0.mp c2
        refine lv_iconst (v := 1) (pc := 39) hx hb dX2_isColoured_39 (by decide) ?_
        refine lv_goto (tgt := 44) (pc := 40) hx hb dX2_isColoured_40 (by decide) ?_
        have hcd : cdS σ (nI v) (nI s0) = 0 := by simp [cdS, c1, hixv, hixs, c2]
        rw [hcd]
        exact W.zret (v := 1) hx hb hr rfl (fun t ht hW => ⟨⟨_, (mi, ti), rfl, (fun _ => (by rw [c2]; rfl)), by rw [ht]; exact hP, hD⟩, hS.F ht⟩) hS.2.2 dX2_isColoured_44
