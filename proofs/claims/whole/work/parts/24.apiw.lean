/-! THE CLASS: calls that write -/
set_option maxHeartbeats 4000000 in
set_option maxRecDepth 100000 in
/-- addNote -/
theorem cX1_addNote_m (l : Launch) (hfl : l.stackTraces = false) (g : GA) (A : Nat → Prop) (σ : St) (rest : va_W) (p0 : Int32) (k0 : Int32) (q0 : Int32) (z0 : Bool) (hI : Inv σ) : vx_Met l yX1_addNote wsX1_addNote ({ frames := 7, cells := 4, slots := 24, locals := 112 }) (va_Pc [.ref (gX g), .int p0, .int k0, .int q0, .int (bI z0)] (Cx g A (cw g σ ++ rest))) (va_Qi (fun (r : Int32) (u : Nat → Nat → Int32) => cd_addNote σ p0 k0 q0 = 0 ∧ r = nI (sC σ (ix p0)) ∧ Inv (uB (apS σ (ix p0) (ix k0) q0 z0 (-1)) u)) (fun u t => kB g A (cw g (uB (apS σ (ix p0) (ix k0) q0 z0 (-1)) u) ++ rest) t) A) (kX (fun E => (E = eI ∧ cd_addNote σ p0 k0 q0 = 1) ∨ (E = eA ∧ cd_addNote σ p0 k0 q0 = 2) ∨ (E = eS ∧ cd_addNote σ p0 k0 q0 = 3))) 4 24 A := by
  refine vx_ofW (cc := cX1_addNote) (maxL := 6) (ret := (some .int)) (by decide) rfl ?_
  intro p e s m args below meth c s₁ B hml hno hv0
  obtain ⟨rfl, hP, hD, hA, hK, hX⟩ := hv0
  have hx := B.exec
  have hb := B.bytes
  have hr := B.returns
  have hts := atoms_spec (ws := wsX1_addNote) B.pre
  have hown : s.vm.findClass RX1 = some m.cls := findClass_of_methodNamed B.named
  have hlocks := B.notSynchronized
  have hS : va_S A s.heap s.heap [] := va_S.rf
  have hl := lv_entry ([.ref (gX g), .int p0, .int k0, .int q0, .int (bI z0)]) (n := 6) (Nat.le_of_ble_eq_true rfl)
  rw [lg_entry_eq]
  generalize (lg_sl ([.ref (gX g), .int p0, .int k0, .int q0, .int (bI z0)]) ++ List.replicate (6 - (lg_sl ([.ref (gX g), .int p0, .int k0, .int q0, .int (bI z0)])).length) Slot.unset).toArray = ls at hl ⊢
  have hl : lv_has ls 6 [(0, .ref (gX g)), (1, .int p0), (2, .int k0), (3, .int q0), (4, .int (bI z0))] := hl
  refine lv_aload_n (pc := 0) hx hb dX1_addNote_0 rfl (lv_at hl 0 rfl) ?_
  refine lv_iload_n (pc := 1) hx hb dX1_addNote_1 rfl (lv_at hl 1 rfl) ?_
  refine k_xr (pc := 2) (vx_runV (As := [.int p0]) (rest := []) ⟨hx, hb, hml, hown, hts⟩ (cX1_knownVoice_m l hfl g A σ rest p0 hI) (cwV 1 hts gX1_addNote_X1_knownVoice rfl rfl rfl (by decide +kernel) ⟨Nat.le_of_ble_eq_true rfl, Nat.le_of_ble_eq_true rfl⟩) (cx_V (q0 := 0) (ci := 1) (r := (RX1, TX1, 2)) rfl (cx0 g σ rest) hP hD hA hK hX hS) rfl rfl hl.1 rfl (lv_room (Nat.le_of_ble_eq_true rfl)) dX1_addNote_2 ⟨Nat.le_of_ble_eq_true rfl, Nat.le_of_ble_eq_true rfl⟩) hno hlocks (fun E h => Or.inl ⟨h.1, by simp [cd_addNote, h.2]⟩) (Nat.le_of_ble_eq_true rfl) (Nat.le_of_ble_eq_true rfl) (fun r_1 hr_1 => ?_)
  obtain ⟨v, hvn, rfl, rfl⟩ := hr_1
  have hv4 : v < 4 := hI.v4 hvn
  have hixv : ix (nI v) = v := ix_n (by omega)
  have hokv : okV σ (nI v) = true := okV_t hvn hI.N
  rw [hixv]
  refine lv_astore (lv' := [(5, .ref (gV g v)), (0, .ref (gX g)), (1, .int (nI v)), (2, .int k0), (3, .int q0), (4, .int (bI z0))]) (pc := 5) hx hb dX1_addNote_5 hl (by decide) rfl (fun ls hl => ?_)
  refine lv_iload_n (pc := 7) hx hb dX1_addNote_7 rfl (lv_at hl 3 rfl) ?_
  refine lv_iconst (v := 0) (pc := 8) hx hb dX1_addNote_8 (by decide) ?_
  refine lv_iconst (v := 3) (pc := 9) hx hb dX1_addNote_9 (by decide) ?_
  refine k_xv (pc := 10) (vx_runS (As := [.int k0, .int 0, .int 3]) (rest := []) ⟨hx, hb, hml, hown, hts⟩ (cX1_checkRange_m l hfl g A σ rest k0 0 3) (va_cwS 3 hts gX1_addNote_X1_checkRange rfl rfl rfl (by decide +kernel) ⟨Nat.le_of_ble_eq_true rfl, Nat.le_of_ble_eq_true rfl⟩) (cx_S hP hD hA hK hX hS) rfl rfl hl.1 rfl (lv_room (Nat.le_of_ble_eq_true rfl)) dX1_addNote_10 ⟨Nat.le_of_ble_eq_true rfl, Nat.le_of_ble_eq_true rfl⟩) hno hlocks (fun E h => Or.inr (Or.inl ⟨h.1, by simp [cd_addNote, hokv, h.2]⟩)) (Nat.le_of_ble_eq_true rfl) (Nat.le_of_ble_eq_true rfl) (fun hk1 => ?_)
  have hk1s := hk1
  obtain ⟨k, -, hk3, rfl⟩ := inr_nat (a := 0) (b := 3) rfl rfl (by decide) (by decide) hk1
  have hixk : ix (nI k) = k := ix_n (by omega)
  rw [hixk]
  refine lv_iload_n (pc := 13) hx hb dX1_addNote_13 rfl (lv_at hl 4 rfl) ?_
  refine lv_iconst (v := 0) (pc := 14) hx hb dX1_addNote_14 (by decide) ?_
  refine lv_bipush (v := 9) (pc := 15) hx hb dX1_addNote_15 (by decide) ?_
  refine k_xv (pc := 17) (vx_runS (As := [.int q0, .int 0, .int 9]) (rest := []) ⟨hx, hb, hml, hown, hts⟩ (cX1_checkRange_m l hfl g A σ rest q0 0 9) (va_cwS 3 hts gX1_addNote_X1_checkRange rfl rfl rfl (by decide +kernel) ⟨Nat.le_of_ble_eq_true rfl, Nat.le_of_ble_eq_true rfl⟩) (cx_S hP hD hA hK hX hS) rfl rfl hl.1 rfl (lv_room (Nat.le_of_ble_eq_true rfl)) dX1_addNote_17 ⟨Nat.le_of_ble_eq_true rfl, Nat.le_of_ble_eq_true rfl⟩) hno hlocks (fun E h => Or.inr (Or.inl ⟨h.1, by simp [cd_addNote, hokv, hk1s, h.2]⟩)) (Nat.le_of_ble_eq_true rfl) (Nat.le_of_ble_eq_true rfl) (fun hk2 => ?_)
  refine lv_aload (pc := 20) hx hb dX1_addNote_20 (lv_at hl 0 rfl) ?_
  refine lv_iconst (v := 1) (pc := 22) hx hb dX1_addNote_22 (by decide) ?_
  refine k_xv (pc := 23) (vx_runS (As := [.ref (gV g v), .int 1]) (rest := []) ⟨hx, hb, hml, hown, hts⟩ (cX1_checkRoom_m l hfl g A σ rest v 1 hv4 (hI.C v) (by omega)) (va_cwS 2 hts gX1_addNote_X1_checkRoom rfl rfl rfl (by decide +kernel) ⟨Nat.le_of_ble_eq_true rfl, Nat.le_of_ble_eq_true rfl⟩) (cx_S hP hD hA hK hX hS) rfl rfl hl.1 rfl (lv_room (Nat.le_of_ble_eq_true rfl)) dX1_addNote_23 ⟨Nat.le_of_ble_eq_true rfl, Nat.le_of_ble_eq_true rfl⟩) hno hlocks (fun E h => Or.inr (Or.inr ⟨h.1, by have q := h.2; simp [cd_addNote, hokv, hk1s, hk2, hixv, show ¬ sC σ v < 24 by omega]⟩)) (Nat.le_of_ble_eq_true rfl) (Nat.le_of_ble_eq_true rfl) (fun hk4 => ?_)
  have hlt : sC σ v < 24 := by omega
  refine lv_aload (pc := 26) hx hb dX1_addNote_26 (lv_at hl 0 rfl) ?_
  refine lv_iload_n (pc := 28) hx hb dX1_addNote_28 rfl (lv_at hl 3 rfl) ?_
  refine lv_iload_n (pc := 29) hx hb dX1_addNote_29 rfl (lv_at hl 4 rfl) ?_
  refine lv_iload (pc := 30) hx hb dX1_addNote_30 (lv_at hl 5 rfl) ?_
  refine lv_iconst (v := (-1)) (pc := 32) hx hb dX1_addNote_32 (by decide) ?_
  refine va_calli (pc := 33) (va_runVN (As := [.int (nI k), .int q0, .int (bI z0), .int ((-1))]) (rest := []) ⟨hx, hb, hml, hown, hts⟩ (cX0_append_m l g A σ rest v k q0 z0 ((-1)) hv4 hk3 (hI.A v) hlt) ⟨va_cnB 4 hts gX1_addNote_X0_append_n45 rfl rfl rfl (nm_45 hX) (hts (.initialized RX0) (by decide +kernel)) (by decide +kernel) ⟨Nat.le_of_ble_eq_true rfl, Nat.le_of_ble_eq_true rfl⟩, hts (.instanceMethod yX0_append) (by decide +kernel), hts (.selects RX0 yX0_append yX0_append) (by decide +kernel)⟩ (cx_V (q0 := (2 + 6 * v)) (ci := 0) (r := (RX0, TX0, 10)) rfl (cv0 g σ rest hv4) hP hD hA hK hX hS) rfl rfl hl.1 rfl (lv_room (Nat.le_of_ble_eq_true rfl)) dX1_addNote_33 ⟨Nat.le_of_ble_eq_true rfl, Nat.le_of_ble_eq_true rfl⟩) hS (fun _ _ h => h) (fun _ h => h) (fun r_5 u6 t6 H6 locs6 ht6 hvm6 hw6 hB6 hz6 hk6 hS => ?_)
  obtain ⟨hP, hD⟩ := hB6
  rw [ht6] at hP
  obtain ⟨rfl, hw6⟩ := hw6
  refine vx_ret ?_
  refine W.widen (k := 4) (n := 24) (Nat.le_of_ble_eq_true rfl) (Nat.le_of_ble_eq_true rfl) ?_
  exact W.iret hx hb hr (fun t ht hW => ⟨⟨_, u6, rfl, ⟨by simp [cd_addNote, hokv, hk1s, hk2, hixv, hlt], rfl, inv_ap hI hvn hk3 hlt (Or.inl rfl) hw6⟩, by rw [ht]; exact hP, hD⟩, hS.F ht⟩) hS.2.2 dX1_addNote_36
set_option maxHeartbeats 4000000 in
set_option maxRecDepth 100000 in
/-- addRest -/
theorem cX1_addRest_m (l : Launch) (hfl : l.stackTraces = false) (g : GA) (A : Nat → Prop) (σ : St) (rest : va_W) (p0 : Int32) (k0 : Int32) (hI : Inv σ) : vx_Met l yX1_addRest wsX1_addRest ({ frames := 7, cells := 3, slots := 18, locals := 112 }) (va_Pc [.ref (gX g), .int p0, .int k0] (Cx g A (cw g σ ++ rest))) (va_Qi (fun (r : Int32) (u : Nat → Nat → Int32) => cd_addRest σ p0 k0 = 0 ∧ r = nI (sC σ (ix p0)) ∧ Inv (uB (apS σ (ix p0) (ix k0) (-1) false (-1)) u)) (fun u t => kB g A (cw g (uB (apS σ (ix p0) (ix k0) (-1) false (-1)) u) ++ rest) t) A) (kX (fun E => (E = eI ∧ cd_addRest σ p0 k0 = 1) ∨ (E = eA ∧ cd_addRest σ p0 k0 = 2) ∨ (E = eS ∧ cd_addRest σ p0 k0 = 3))) 3 18 A := by
  refine vx_ofW (cc := cX1_addRest) (maxL := 4) (ret := (some .int)) (by decide) rfl ?_
  intro p e s m args below meth c s₁ B hml hno hv0
  obtain ⟨rfl, hP, hD, hA, hK, hX⟩ := hv0
  have hx := B.exec
  have hb := B.bytes
  have hr := B.returns
  have hts := atoms_spec (ws := wsX1_addRest) B.pre
  have hown : s.vm.findClass RX1 = some m.cls := findClass_of_methodNamed B.named
  have hlocks := B.notSynchronized
  have hS : va_S A s.heap s.heap [] := va_S.rf
  have hl := lv_entry ([.ref (gX g), .int p0, .int k0]) (n := 4) (Nat.le_of_ble_eq_true rfl)
  rw [lg_entry_eq]
  generalize (lg_sl ([.ref (gX g), .int p0, .int k0]) ++ List.replicate (4 - (lg_sl ([.ref (gX g), .int p0, .int k0])).length) Slot.unset).toArray = ls at hl ⊢
  have hl : lv_has ls 4 [(0, .ref (gX g)), (1, .int p0), (2, .int k0)] := hl
  refine lv_aload_n (pc := 0) hx hb dX1_addRest_0 rfl (lv_at hl 0 rfl) ?_
  refine lv_iload_n (pc := 1) hx hb dX1_addRest_1 rfl (lv_at hl 1 rfl) ?_
  refine k_xr (pc := 2) (vx_runV (As := [.int p0]) (rest := []) ⟨hx, hb, hml, hown, hts⟩ (cX1_knownVoice_m l hfl g A σ rest p0 hI) (cwV 1 hts gX1_addRest_X1_knownVoice rfl rfl rfl (by decide +kernel) ⟨Nat.le_of_ble_eq_true rfl, Nat.le_of_ble_eq_true rfl⟩) (cx_V (q0 := 0) (ci := 1) (r := (RX1, TX1, 2)) rfl (cx0 g σ rest) hP hD hA hK hX hS) rfl rfl hl.1 rfl (lv_room (Nat.le_of_ble_eq_true rfl)) dX1_addRest_2 ⟨Nat.le_of_ble_eq_true rfl, Nat.le_of_ble_eq_true rfl⟩) hno hlocks (fun E h => Or.inl ⟨h.1, by simp [cd_addRest, h.2]⟩) (Nat.le_of_ble_eq_true rfl) (Nat.le_of_ble_eq_true rfl) (fun r_1 hr_1 => ?_)
  obtain ⟨v, hvn, rfl, rfl⟩ := hr_1
  have hv4 : v < 4 := hI.v4 hvn
  have hixv : ix (nI v) = v := ix_n (by omega)
  have hokv : okV σ (nI v) = true := okV_t hvn hI.N
  rw [hixv]
  refine lv_astore_n (lv' := [(3, .ref (gV g v)), (0, .ref (gX g)), (1, .int (nI v)), (2, .int k0)]) (pc := 5) hx hb dX1_addRest_5 rfl hl (by decide) rfl (fun ls hl => ?_)
  refine lv_iload_n (pc := 6) hx hb dX1_addRest_6 rfl (lv_at hl 3 rfl) ?_
  refine lv_iconst (v := 0) (pc := 7) hx hb dX1_addRest_7 (by decide) ?_
  refine lv_iconst (v := 3) (pc := 8) hx hb dX1_addRest_8 (by decide) ?_
  refine k_xv (pc := 9) (vx_runS (As := [.int k0, .int 0, .int 3]) (rest := []) ⟨hx, hb, hml, hown, hts⟩ (cX1_checkRange_m l hfl g A σ rest k0 0 3) (va_cwS 3 hts gX1_addRest_X1_checkRange rfl rfl rfl (by decide +kernel) ⟨Nat.le_of_ble_eq_true rfl, Nat.le_of_ble_eq_true rfl⟩) (cx_S hP hD hA hK hX hS) rfl rfl hl.1 rfl (lv_room (Nat.le_of_ble_eq_true rfl)) dX1_addRest_9 ⟨Nat.le_of_ble_eq_true rfl, Nat.le_of_ble_eq_true rfl⟩) hno hlocks (fun E h => Or.inr (Or.inl ⟨h.1, by simp [cd_addRest, hokv, h.2]⟩)) (Nat.le_of_ble_eq_true rfl) (Nat.le_of_ble_eq_true rfl) (fun hk1 => ?_)
  have hk1s := hk1
  obtain ⟨k, -, hk3, rfl⟩ := inr_nat (a := 0) (b := 3) rfl rfl (by decide) (by decide) hk1
  have hixk : ix (nI k) = k := ix_n (by omega)
  rw [hixk]
  refine lv_aload_n (pc := 12) hx hb dX1_addRest_12 rfl (lv_at hl 0 rfl) ?_
  refine lv_iconst (v := 1) (pc := 13) hx hb dX1_addRest_13 (by decide) ?_
  refine k_xv (pc := 14) (vx_runS (As := [.ref (gV g v), .int 1]) (rest := []) ⟨hx, hb, hml, hown, hts⟩ (cX1_checkRoom_m l hfl g A σ rest v 1 hv4 (hI.C v) (by omega)) (va_cwS 2 hts gX1_addRest_X1_checkRoom rfl rfl rfl (by decide +kernel) ⟨Nat.le_of_ble_eq_true rfl, Nat.le_of_ble_eq_true rfl⟩) (cx_S hP hD hA hK hX hS) rfl rfl hl.1 rfl (lv_room (Nat.le_of_ble_eq_true rfl)) dX1_addRest_14 ⟨Nat.le_of_ble_eq_true rfl, Nat.le_of_ble_eq_true rfl⟩) hno hlocks (fun E h => Or.inr (Or.inr ⟨h.1, by have q := h.2; simp [cd_addRest, hokv, hk1s, hixv, show ¬ sC σ v < 24 by omega]⟩)) (Nat.le_of_ble_eq_true rfl) (Nat.le_of_ble_eq_true rfl) (fun hk4 => ?_)
  have hlt : sC σ v < 24 := by omega
  refine lv_aload_n (pc := 17) hx hb dX1_addRest_17 rfl (lv_at hl 0 rfl) ?_
  refine lv_iload_n (pc := 18) hx hb dX1_addRest_18 rfl (lv_at hl 3 rfl) ?_
  refine lv_iconst (v := (-1)) (pc := 19) hx hb dX1_addRest_19 (by decide) ?_
  refine lv_iconst (v := 0) (pc := 20) hx hb dX1_addRest_20 (by decide) ?_
  refine lv_iconst (v := (-1)) (pc := 21) hx hb dX1_addRest_21 (by decide) ?_
  refine va_calli (pc := 22) (va_runVN (As := [.int (nI k), .int ((-1)), .int 0, .int ((-1))]) (rest := []) ⟨hx, hb, hml, hown, hts⟩ (cX0_append_m l g A σ rest v k ((-1)) false ((-1)) hv4 hk3 (hI.A v) hlt) ⟨va_cnB 4 hts gX1_addRest_X0_append_n45 rfl rfl rfl (nm_45 hX) (hts (.initialized RX0) (by decide +kernel)) (by decide +kernel) ⟨Nat.le_of_ble_eq_true rfl, Nat.le_of_ble_eq_true rfl⟩, hts (.instanceMethod yX0_append) (by decide +kernel), hts (.selects RX0 yX0_append yX0_append) (by decide +kernel)⟩ (cx_V (q0 := (2 + 6 * v)) (ci := 0) (r := (RX0, TX0, 10)) rfl (cv0 g σ rest hv4) hP hD hA hK hX hS) rfl rfl hl.1 rfl (lv_room (Nat.le_of_ble_eq_true rfl)) dX1_addRest_22 ⟨Nat.le_of_ble_eq_true rfl, Nat.le_of_ble_eq_true rfl⟩) hS (fun _ _ h => h) (fun _ h => h) (fun r_4 u5 t5 H5 locs5 ht5 hvm5 hw5 hB5 hz5 hk5 hS => ?_)
  obtain ⟨hP, hD⟩ := hB5
  rw [ht5] at hP
  obtain ⟨rfl, hw5⟩ := hw5
  refine vx_ret ?_
  refine W.widen (k := 3) (n := 18) (Nat.le_of_ble_eq_true rfl) (Nat.le_of_ble_eq_true rfl) ?_
  exact W.iret hx hb hr (fun t ht hW => ⟨⟨_, u5, rfl, ⟨by simp [cd_addRest, hokv, hk1s, hixv, hlt], rfl, inv_ap hI hvn hk3 hlt (Or.inl rfl) hw5⟩, by rw [ht]; exact hP, hD⟩, hS.F ht⟩) hS.2.2 dX1_addRest_25
set_option maxHeartbeats 4000000 in
set_option maxRecDepth 100000 in
/-- erase -/
theorem cX1_erase_m (l : Launch) (hfl : l.stackTraces = false) (g : GA) (A : Nat → Prop) (σ : St) (rest : va_W) (p0 : Int32) (hI : Inv σ) : vx_Met l yX1_erase wsX1_erase ({ frames := 7, cells := 2, slots := 12, locals := 111 }) (va_Pc [.ref (gX g), .int p0] (Cx g A (cw g σ ++ rest))) (va_Qi (fun (r : Int32) (u : Unit) => cd_erase σ p0 = 0 ∧ r = nI (drN (sT σ (ix p0) (sC σ (ix p0) - 1))) ∧ Inv (uC σ (ix p0) (sC σ (ix p0) - drN (sT σ (ix p0) (sC σ (ix p0) - 1))))) (fun u t => kB g A (cw g (uC σ (ix p0) (sC σ (ix p0) - drN (sT σ (ix p0) (sC σ (ix p0) - 1)))) ++ rest) t) A) (kX (fun E => (E = eI ∧ cd_erase σ p0 = 1) ∨ (E = eS ∧ cd_erase σ p0 = 2))) 2 12 A := by
  refine vx_ofW (cc := cX1_erase) (maxL := 3) (ret := (some .int)) (by decide) rfl ?_
  intro p e s m args below meth c s₁ B hml hno hv0
  obtain ⟨rfl, hP, hD, hA, hK, hX⟩ := hv0
  have hx := B.exec
  have hb := B.bytes
  have hr := B.returns
  have hts := atoms_spec (ws := wsX1_erase) B.pre
  have hown : s.vm.findClass RX1 = some m.cls := findClass_of_methodNamed B.named
  have hlocks := B.notSynchronized
  have hS : va_S A s.heap s.heap [] := va_S.rf
  have hinX0 : ∀ w ∈ u_ws RX0 TX0 10, w ∈ wsX1_erase := by decide +kernel
  have hl := lv_entry ([.ref (gX g), .int p0]) (n := 3) (Nat.le_of_ble_eq_true rfl)
  rw [lg_entry_eq]
  generalize (lg_sl ([.ref (gX g), .int p0]) ++ List.replicate (3 - (lg_sl ([.ref (gX g), .int p0])).length) Slot.unset).toArray = ls at hl ⊢
  have hl : lv_has ls 3 [(0, .ref (gX g)), (1, .int p0)] := hl
  refine lv_aload_n (pc := 0) hx hb dX1_erase_0 rfl (lv_at hl 0 rfl) ?_
  refine lv_iload_n (pc := 1) hx hb dX1_erase_1 rfl (lv_at hl 1 rfl) ?_
  refine k_xr (pc := 2) (vx_runV (As := [.int p0]) (rest := []) ⟨hx, hb, hml, hown, hts⟩ (cX1_knownVoice_m l hfl g A σ rest p0 hI) (cwV 1 hts gX1_erase_X1_knownVoice rfl rfl rfl (by decide +kernel) ⟨Nat.le_of_ble_eq_true rfl, Nat.le_of_ble_eq_true rfl⟩) (cx_V (q0 := 0) (ci := 1) (r := (RX1, TX1, 2)) rfl (cx0 g σ rest) hP hD hA hK hX hS) rfl rfl hl.1 rfl (lv_room (Nat.le_of_ble_eq_true rfl)) dX1_erase_2 ⟨Nat.le_of_ble_eq_true rfl, Nat.le_of_ble_eq_true rfl⟩) hno hlocks (fun E h => Or.inl ⟨h.1, by simp [cd_erase, cdVR, h.2]⟩) (Nat.le_of_ble_eq_true rfl) (Nat.le_of_ble_eq_true rfl) (fun r_1 hr_1 => ?_)
  obtain ⟨v, hvn, rfl, rfl⟩ := hr_1
  have hv4 : v < 4 := hI.v4 hvn
  have hixv : ix (nI v) = v := ix_n (by omega)
  have hokv : okV σ (nI v) = true := okV_t hvn hI.N
  rw [hixv]
  refine lv_astore_n (lv' := [(2, .ref (gV g v)), (0, .ref (gX g)), (1, .int (nI v))]) (pc := 5) hx hb dX1_erase_5 rfl hl (by decide) rfl (fun ls hl => ?_)
  refine lv_aload_n (pc := 6) hx hb dX1_erase_6 rfl (lv_at hl 0 rfl) ?_
  refine va_getN (v := .int (nI (sC σ v))) (pc := 7) (D := gD g) (ci := 0) (C := RX0) (T := TX0) (N := 10) hx hb hts hinX0 hown hK hP (2 + 6 * v) (cv0 g σ rest hv4) rfl 4 (by decide) (va_Nw.use rfl (nf_64 hX)) (fun _ h9 => h9) rfl dX1_erase_7 ?_
  refine lv_if_ne (tgt := 23) (pc := 10) hx hb dX1_erase_10 (by decide) (fun c1 => ?_) (fun c1 => ?_)
  · have c1 : 0 < sC σ v := by
      rcases Nat.eq_zero_or_pos (sC σ v) with q | q
      · exact absurd (by rw [q]; rfl) c1
      · exact q
    refine lv_aload_n (pc := 23) hx hb dX1_erase_23 rfl (lv_at hl 0 rfl) ?_
    refine va_calli (pc := 24) (va_runVN (As := []) (rest := []) ⟨hx, hb, hml, hown, hts⟩ (cX0_dropLast_m l g A σ rest v hv4 hI c1) ⟨va_cnB 0 hts gX1_erase_X0_dropLast_n69 rfl rfl rfl (nm_69 hX) (hts (.initialized RX0) (by decide +kernel)) (by decide +kernel) ⟨Nat.le_of_ble_eq_true rfl, Nat.le_of_ble_eq_true rfl⟩, hts (.instanceMethod yX0_dropLast) (by decide +kernel), hts (.selects RX0 yX0_dropLast yX0_dropLast) (by decide +kernel)⟩ (cx_V (q0 := (2 + 6 * v)) (ci := 0) (r := (RX0, TX0, 10)) rfl (cv0 g σ rest hv4) hP hD hA hK hX hS) rfl rfl hl.1 rfl (lv_room (Nat.le_of_ble_eq_true rfl)) dX1_erase_24 ⟨Nat.le_of_ble_eq_true rfl, Nat.le_of_ble_eq_true rfl⟩) hS (fun _ _ h => h) (fun _ h => h) (fun r_3 u4 t4 H4 locs4 ht4 hvm4 hw4 hB4 hz4 hk4 hS => ?_)
    obtain ⟨hP, hD⟩ := hB4
    rw [ht4] at hP
    subst hw4
    refine vx_ret ?_
    refine W.widen (k := 2) (n := 12) (Nat.le_of_ble_eq_true rfl) (Nat.le_of_ble_eq_true rfl) ?_
    exact W.iret hx hb hr (fun t ht hW => ⟨⟨_, (), rfl, ⟨by simp [cd_erase, cdVR, hokv, hixv, c1], rfl, inv_dl hI v _⟩, by rw [ht]; exact hP, hD⟩, hS.F ht⟩) hS.2.2 dX1_erase_27
  · have c1 : ¬ 0 < sC σ v := by have q : nI (sC σ v) = nI 0 := c1; have := hI.C v; have := (nI_eq (by omega) (by omega)).mp q; omega
    refine k_throw (pc := 13) (cls := "java/lang/IllegalStateException") (text := "there is no sign to erase") (ik := 24) (is := 67) (ic := 28) hx hb hfl hown hts hX (by decide) (by decide +kernel) (by decide) (by decide +kernel) (by decide +kernel) (by decide +kernel) (by decide +kernel) (by decide +kernel) (hl.1.trans hml.symm) dX1_erase_13 dX1_erase_16 dX1_erase_17 dX1_erase_19 dX1_erase_22 hno hlocks (Nat.le_of_ble_eq_true rfl) (Nat.le_of_ble_eq_true rfl) (Nat.le_of_ble_eq_true rfl) (Nat.le_of_ble_eq_true rfl) (Nat.le_of_ble_eq_true rfl) (Nat.le_of_ble_eq_true rfl) ?_
    exact Or.inr ⟨rfl, by simp [cd_erase, cdVR, hokv, hixv, c1]⟩
set_option maxHeartbeats 4000000 in
set_option maxRecDepth 100000 in
/-- recolour -/
theorem cX1_recolour_m (l : Launch) (hfl : l.stackTraces = false) (g : GA) (A : Nat → Prop) (σ : St) (rest : va_W) (p0 : Int32) (q0 : Int32) (hI : Inv σ) : vx_Met l yX1_recolour wsX1_recolour ({ frames := 8, cells := 3, slots := 18, locals := 134 }) (va_Pc [.ref (gX g), .int p0, .int q0] (Cx g A (cw g σ ++ rest))) (va_Qi (fun (r : Int32) (u : Nat → Nat → Int32) => cd_recolour σ p0 q0 = 0 ∧ r = bI (!sR σ (ix p0) (ix q0)) ∧ Inv (uB (uR σ (ix p0) (ix q0) (!sR σ (ix p0) (ix q0))) u)) (fun u t => kB g A (cw g (uB (uR σ (ix p0) (ix q0) (!sR σ (ix p0) (ix q0))) u) ++ rest) t) A) (kX (fun E => (E = eI ∧ cd_recolour σ p0 q0 = 1) ∨ (E = eS ∧ cd_recolour σ p0 q0 = 2))) 3 18 A := by
  refine vx_ofW (cc := cX1_recolour) (maxL := 4) (ret := (some .boolean)) (by decide) rfl ?_
  intro p e s m args below meth c s₁ B hml hno hv0
  obtain ⟨rfl, hP, hD, hA, hK, hX⟩ := hv0
  have hx := B.exec
  have hb := B.bytes
  have hr := B.returns
  have hts := atoms_spec (ws := wsX1_recolour) B.pre
  have hown : s.vm.findClass RX1 = some m.cls := findClass_of_methodNamed B.named
  have hlocks := B.notSynchronized
  have hS : va_S A s.heap s.heap [] := va_S.rf
  have hl := lv_entry ([.ref (gX g), .int p0, .int q0]) (n := 4) (Nat.le_of_ble_eq_true rfl)
  rw [lg_entry_eq]
  generalize (lg_sl ([.ref (gX g), .int p0, .int q0]) ++ List.replicate (4 - (lg_sl ([.ref (gX g), .int p0, .int q0])).length) Slot.unset).toArray = ls at hl ⊢
  have hl : lv_has ls 4 [(0, .ref (gX g)), (1, .int p0), (2, .int q0)] := hl
  refine lv_aload_n (pc := 0) hx hb dX1_recolour_0 rfl (lv_at hl 0 rfl) ?_
  refine lv_iload_n (pc := 1) hx hb dX1_recolour_1 rfl (lv_at hl 1 rfl) ?_
  refine lv_iload_n (pc := 2) hx hb dX1_recolour_2 rfl (lv_at hl 2 rfl) ?_
  refine k_xr (pc := 3) (vx_runV (As := [.int p0, .int q0]) (rest := []) ⟨hx, hb, hml, hown, hts⟩ (cX1_voiceWithSign_m l hfl g A σ rest p0 q0 hI) (cwV 2 hts gX1_recolour_X1_voiceWithSign rfl rfl rfl (by decide +kernel) ⟨Nat.le_of_ble_eq_true rfl, Nat.le_of_ble_eq_true rfl⟩) (cx_V (q0 := 0) (ci := 1) (r := (RX1, TX1, 2)) rfl (cx0 g σ rest) hP hD hA hK hX hS) rfl rfl hl.1 rfl (lv_room (Nat.le_of_ble_eq_true rfl)) dX1_recolour_3 ⟨Nat.le_of_ble_eq_true rfl, Nat.le_of_ble_eq_true rfl⟩) hno hlocks (fun E h => Or.inl ⟨h.1, by have q := h.2; unfold cdS at q; unfold cd_recolour; split at q; exact absurd q (by decide); rename_i z; rw [if_neg z]⟩) (Nat.le_of_ble_eq_true rfl) (Nat.le_of_ble_eq_true rfl) (fun r_1 hr_1 => ?_)
  obtain ⟨v, s0, hvn, hs0, rfl, rfl, rfl⟩ := hr_1
  have hv4 : v < 4 := hI.v4 hvn
  have hC := hI.C v
  have hixv : ix (nI v) = v := ix_n (by omega)
  have hixs : ix (nI s0) = s0 := ix_n (by omega)
  have hokv : okV σ (nI v) = true := okV_t hvn hI.N
  have hoks : okS σ v (nI s0) = true := okS_t hs0 hC
  rw [hixv, hixs]
  refine lv_astore_n (lv' := [(3, .ref (gV g v)), (0, .ref (gX g)), (1, .int (nI v)), (2, .int (nI s0))]) (pc := 6) hx hb dX1_recolour_6 rfl hl (by decide) rfl (fun ls hl => ?_)
  refine lv_aload_n (pc := 7) hx hb dX1_recolour_7 rfl (lv_at hl 0 rfl) ?_
  refine lv_iload_n (pc := 8) hx hb dX1_recolour_8 rfl (lv_at hl 3 rfl) ?_
  refine k_ri (pc := 9) (va_runVN (As := [.int (nI s0)]) (rest := []) ⟨hx, hb, hml, hown, hts⟩ (cX0_isRest_m l g A σ rest v s0 hv4 (by omega)) ⟨va_cnB 1 hts gX1_recolour_X0_isRest_n77 rfl rfl rfl (nm_77 hX) (hts (.initialized RX0) (by decide +kernel)) (by decide +kernel) ⟨Nat.le_of_ble_eq_true rfl, Nat.le_of_ble_eq_true rfl⟩, hts (.instanceMethod yX0_isRest) (by decide +kernel), hts (.selects RX0 yX0_isRest yX0_isRest) (by decide +kernel)⟩ (cx_V (q0 := (2 + 6 * v)) (ci := 0) (r := (RX0, TX0, 10)) rfl (cv0 g σ rest hv4) hP hD hA hK hX hS) rfl rfl hl.1 rfl (lv_room (Nat.le_of_ble_eq_true rfl)) dX1_recolour_9 ⟨Nat.le_of_ble_eq_true rfl, Nat.le_of_ble_eq_true rfl⟩) (fun r_2 hr_2 => ?_)
  subst hr_2
  refine lv_if_eq (tgt := 25) (pc := 12) hx hb dX1_recolour_12 (by decide) (fun c2 => ?_) (fun c2 => ?_)
  · have c2 : isNt σ v s0 = true := by simpa using bI_0.mp c2
    refine lv_aload_n (pc := 25) hx hb dX1_recolour_25 rfl (lv_at hl 0 rfl) ?_
    refine lv_iload_n (pc := 26) hx hb dX1_recolour_26 rfl (lv_at hl 3 rfl) ?_
    refine va_calli (pc := 27) (va_runVN (As := [.int (nI s0)]) (rest := []) ⟨hx, hb, hml, hown, hts⟩ (cX0_turnColour_m l g A σ rest v s0 hv4 hI hs0) ⟨va_cnB 1 hts gX1_recolour_X0_turnColour_n83 rfl rfl rfl (nm_83 hX) (hts (.initialized RX0) (by decide +kernel)) (by decide +kernel) ⟨Nat.le_of_ble_eq_true rfl, Nat.le_of_ble_eq_true rfl⟩, hts (.instanceMethod yX0_turnColour) (by decide +kernel), hts (.selects RX0 yX0_turnColour yX0_turnColour) (by decide +kernel)⟩ (cx_V (q0 := (2 + 6 * v)) (ci := 0) (r := (RX0, TX0, 10)) rfl (cv0 g σ rest hv4) hP hD hA hK hX hS) rfl rfl hl.1 rfl (lv_room (Nat.le_of_ble_eq_true rfl)) dX1_recolour_27 ⟨Nat.le_of_ble_eq_true rfl, Nat.le_of_ble_eq_true rfl⟩) hS (fun _ _ h => h) (fun _ h => h) (fun r_4 u5 t5 H5 locs5 ht5 hvm5 hw5 hB5 hz5 hk5 hS => ?_)
    obtain ⟨hP, hD⟩ := hB5
    rw [ht5] at hP
    obtain ⟨rfl, hw5⟩ := hw5
    refine vx_ret ?_
    refine W.widen (k := 3) (n := 18) (Nat.le_of_ble_eq_true rfl) (Nat.le_of_ble_eq_true rfl) ?_
    exact W.zret (v := bI (!sR σ v s0)) hx hb hr (bI_nar _) (fun t ht hW => ⟨⟨_, u5, rfl, ⟨by simp [cd_recolour, hokv, hoks, hixv, hixs, c2], rfl, inv_tc hI hw5⟩, by rw [ht]; exact hP, hD⟩, hS.F ht⟩) hS.2.2 dX1_recolour_30
  · have c2 : isNt σ v s0 = false := by simpa using bI_n0.mp c2
    refine k_throw (pc := 15) (cls := "java/lang/IllegalStateException") (text := "a rest has no colour") (ik := 24) (is := 81) (ic := 28) hx hb hfl hown hts hX (by decide) (by decide +kernel) (by decide) (by decide +kernel) (by decide +kernel) (by decide +kernel) (by decide +kernel) (by decide +kernel) (hl.1.trans hml.symm) dX1_recolour_15 dX1_recolour_18 dX1_recolour_19 dX1_recolour_21 dX1_recolour_24 hno hlocks (Nat.le_of_ble_eq_true rfl) (Nat.le_of_ble_eq_true rfl) (Nat.le_of_ble_eq_true rfl) (Nat.le_of_ble_eq_true rfl) (Nat.le_of_ble_eq_true rfl) (Nat.le_of_ble_eq_true rfl) ?_
    exact Or.inr ⟨rfl, by simp [cd_recolour, hokv, hoks, hixv, hixs, c2]⟩
set_option maxHeartbeats 4000000 in
set_option maxRecDepth 100000 in
/-- setClef -/
theorem cX1_setClef_m (l : Launch) (hfl : l.stackTraces = false) (g : GA) (A : Nat → Prop) (σ : St) (rest : va_W) (p0 : Int32) (c0 : Int32) (hI : Inv σ) : vx_Met l yX1_setClef wsX1_setClef ({ frames := 7, cells := 2, slots := 12, locals := 112 }) (va_Pc [.ref (gX g), .int p0, .int c0] (Cx g A (cw g σ ++ rest))) (va_Qi (fun (r : Int32) (u : Unit) => cdVR σ p0 (inr (-1) 5 c0) = 0 ∧ r = sL σ (ix p0) ∧ Inv (uL σ (ix p0) c0)) (fun u t => kB g A (cw g (uL σ (ix p0) c0) ++ rest) t) A) (kX (fun E => (E = eI ∧ cdVR σ p0 (inr (-1) 5 c0) = 1) ∨ (E = eA ∧ cdVR σ p0 (inr (-1) 5 c0) = 2))) 2 12 A := by
  refine vx_ofW (cc := cX1_setClef) (maxL := 5) (ret := (some .int)) (by decide) rfl ?_
  intro p e s m args below meth c s₁ B hml hno hv0
  obtain ⟨rfl, hP, hD, hA, hK, hX⟩ := hv0
  have hx := B.exec
  have hb := B.bytes
  have hr := B.returns
  have hts := atoms_spec (ws := wsX1_setClef) B.pre
  have hown : s.vm.findClass RX1 = some m.cls := findClass_of_methodNamed B.named
  have hlocks := B.notSynchronized
  have hS : va_S A s.heap s.heap [] := va_S.rf
  have hinX0 : ∀ w ∈ u_ws RX0 TX0 10, w ∈ wsX1_setClef := by decide +kernel
  have hl := lv_entry ([.ref (gX g), .int p0, .int c0]) (n := 5) (Nat.le_of_ble_eq_true rfl)
  rw [lg_entry_eq]
  generalize (lg_sl ([.ref (gX g), .int p0, .int c0]) ++ List.replicate (5 - (lg_sl ([.ref (gX g), .int p0, .int c0])).length) Slot.unset).toArray = ls at hl ⊢
  have hl : lv_has ls 5 [(0, .ref (gX g)), (1, .int p0), (2, .int c0)] := hl
  refine lv_aload_n (pc := 0) hx hb dX1_setClef_0 rfl (lv_at hl 0 rfl) ?_
  refine lv_iload_n (pc := 1) hx hb dX1_setClef_1 rfl (lv_at hl 1 rfl) ?_
  refine k_xr (pc := 2) (vx_runV (As := [.int p0]) (rest := []) ⟨hx, hb, hml, hown, hts⟩ (cX1_knownVoice_m l hfl g A σ rest p0 hI) (cwV 1 hts gX1_setClef_X1_knownVoice rfl rfl rfl (by decide +kernel) ⟨Nat.le_of_ble_eq_true rfl, Nat.le_of_ble_eq_true rfl⟩) (cx_V (q0 := 0) (ci := 1) (r := (RX1, TX1, 2)) rfl (cx0 g σ rest) hP hD hA hK hX hS) rfl rfl hl.1 rfl (lv_room (Nat.le_of_ble_eq_true rfl)) dX1_setClef_2 ⟨Nat.le_of_ble_eq_true rfl, Nat.le_of_ble_eq_true rfl⟩) hno hlocks (fun E h => Or.inl ⟨h.1, by simp [cdVR, h.2]⟩) (Nat.le_of_ble_eq_true rfl) (Nat.le_of_ble_eq_true rfl) (fun r_1 hr_1 => ?_)
  obtain ⟨v, hvn, rfl, rfl⟩ := hr_1
  have hv4 : v < 4 := hI.v4 hvn
  have hixv : ix (nI v) = v := ix_n (by omega)
  have hokv : okV σ (nI v) = true := okV_t hvn hI.N
  rw [hixv]
  refine lv_astore_n (lv' := [(3, .ref (gV g v)), (0, .ref (gX g)), (1, .int (nI v)), (2, .int c0)]) (pc := 5) hx hb dX1_setClef_5 rfl hl (by decide) rfl (fun ls hl => ?_)
  refine lv_iload_n (pc := 6) hx hb dX1_setClef_6 rfl (lv_at hl 3 rfl) ?_
  refine lv_iconst (v := (-1)) (pc := 7) hx hb dX1_setClef_7 (by decide) ?_
  refine lv_iconst (v := 5) (pc := 8) hx hb dX1_setClef_8 (by decide) ?_
  refine k_xv (pc := 9) (vx_runS (As := [.int c0, .int ((-1)), .int 5]) (rest := []) ⟨hx, hb, hml, hown, hts⟩ (cX1_checkRange_m l hfl g A σ rest c0 ((-1)) 5) (va_cwS 3 hts gX1_setClef_X1_checkRange rfl rfl rfl (by decide +kernel) ⟨Nat.le_of_ble_eq_true rfl, Nat.le_of_ble_eq_true rfl⟩) (cx_S hP hD hA hK hX hS) rfl rfl hl.1 rfl (lv_room (Nat.le_of_ble_eq_true rfl)) dX1_setClef_9 ⟨Nat.le_of_ble_eq_true rfl, Nat.le_of_ble_eq_true rfl⟩) hno hlocks (fun E h => Or.inr ⟨h.1, by simp only [cdVR, hokv, h.2]; rfl⟩) (Nat.le_of_ble_eq_true rfl) (Nat.le_of_ble_eq_true rfl) (fun hk1 => ?_)
  refine lv_aload_n (pc := 12) hx hb dX1_setClef_12 rfl (lv_at hl 0 rfl) ?_
  refine va_getN (v := .int (sL σ v)) (pc := 13) (D := gD g) (ci := 0) (C := RX0) (T := TX0) (N := 10) hx hb hts hinX0 hown hK hP (2 + 6 * v) (cv0 g σ rest hv4) rfl 3 (by decide) (va_Nw.use rfl (nf_86 hX)) (fun _ h9 => h9) rfl dX1_setClef_13 ?_
  refine lv_istore (lv' := [(4, .int (sL σ v)), (3, .ref (gV g v)), (0, .ref (gX g)), (1, .int (nI v)), (2, .int c0)]) (pc := 16) hx hb dX1_setClef_16 hl (by decide) rfl (fun ls hl => ?_)
  refine lv_aload_n (pc := 18) hx hb dX1_setClef_18 rfl (lv_at hl 1 rfl) ?_
  refine lv_iload_n (pc := 19) hx hb dX1_setClef_19 rfl (lv_at hl 4 rfl) ?_
  refine va_putN (pc := 20) (D := gD g) (ci := 0) (v := .int c0) (ty := .int) (C := RX0) (T := TX0) (N := 10) hx hb hts hinX0 tyX0 tyX0_ok nmX0 hown hK hP hD hS (2 + 6 * v) (cv0 g σ rest hv4) rfl 3 (by decide) (va_Nw.use rfl (nf_86 hX)) (fun _ h9 => h9) rfl (by decide +kernel) rfl rfl (Nat.le_of_ble_eq_true rfl) dX1_setClef_20 (fun H3 locs3 hP hD hS => ?_)
  have hP : va_P (gD g) vwCl (cw g (uL σ v c0) ++ rest) H3 := (cs_L g σ rest c0 hv4) ▸ hP
  have hD : va_D A (cw g (uL σ v c0) ++ rest) := (cs_L g σ rest c0 hv4) ▸ hD
  refine lv_iload (pc := 23) hx hb dX1_setClef_23 (lv_at hl 0 rfl) ?_
  refine vx_ret ?_
  refine W.widen (k := 2) (n := 12) (Nat.le_of_ble_eq_true rfl) (Nat.le_of_ble_eq_true rfl) ?_
  exact W.iret hx hb hr (fun t ht hW => ⟨⟨_, (), rfl, ⟨by simp only [cdVR, hokv, hk1]; rfl, rfl, inv_uL hI hvn _⟩, by rw [ht]; exact hP, hD⟩, hS.F ht⟩) hS.2.2 dX1_setClef_25
set_option maxHeartbeats 4000000 in
set_option maxRecDepth 100000 in
/-- setMensuration -/
theorem cX1_setMensuration_m (l : Launch) (hfl : l.stackTraces = false) (g : GA) (A : Nat → Prop) (σ : St) (rest : va_W) (p0 : Int32) (a0 : Int32) (b0 : Int32) (c0 : Int32) (hI : Inv σ) : vx_Met l yX1_setMensuration wsX1_setMensuration ({ frames := 8, cells := 4, slots := 24, locals := 134 }) (va_Pc [.ref (gX g), .int p0, .int a0, .int b0, .int c0] (Cx g A (cw g σ ++ rest))) (va_Qi (fun (r : Int32) (u : Nat → Nat → Int32) => cdVR σ p0 (inM a0 b0 c0) = 0 ∧ r = nI (len (meS σ (ix p0) (ix a0) (ix b0) (ix c0)) (ix p0)) ∧ Inv (uB (meS σ (ix p0) (ix a0) (ix b0) (ix c0)) u)) (fun u t => kB g A (cw g (uB (meS σ (ix p0) (ix a0) (ix b0) (ix c0)) u) ++ rest) t) A) (kX (fun E => (E = eI ∧ cdVR σ p0 (inM a0 b0 c0) = 1) ∨ (E = eA ∧ cdVR σ p0 (inM a0 b0 c0) = 2))) 4 24 A := by
  refine vx_ofW (cc := cX1_setMensuration) (maxL := 6) (ret := (some .int)) (by decide) rfl ?_
  intro p e s m args below meth c s₁ B hml hno hv0
  obtain ⟨rfl, hP, hD, hA, hK, hX⟩ := hv0
  have hx := B.exec
  have hb := B.bytes
  have hr := B.returns
  have hts := atoms_spec (ws := wsX1_setMensuration) B.pre
  have hown : s.vm.findClass RX1 = some m.cls := findClass_of_methodNamed B.named
  have hlocks := B.notSynchronized
  have hS : va_S A s.heap s.heap [] := va_S.rf
  have hl := lv_entry ([.ref (gX g), .int p0, .int a0, .int b0, .int c0]) (n := 6) (Nat.le_of_ble_eq_true rfl)
  rw [lg_entry_eq]
  generalize (lg_sl ([.ref (gX g), .int p0, .int a0, .int b0, .int c0]) ++ List.replicate (6 - (lg_sl ([.ref (gX g), .int p0, .int a0, .int b0, .int c0])).length) Slot.unset).toArray = ls at hl ⊢
  have hl : lv_has ls 6 [(0, .ref (gX g)), (1, .int p0), (2, .int a0), (3, .int b0), (4, .int c0)] := hl
  refine lv_aload_n (pc := 0) hx hb dX1_setMensuration_0 rfl (lv_at hl 0 rfl) ?_
  refine lv_iload_n (pc := 1) hx hb dX1_setMensuration_1 rfl (lv_at hl 1 rfl) ?_
  refine k_xr (pc := 2) (vx_runV (As := [.int p0]) (rest := []) ⟨hx, hb, hml, hown, hts⟩ (cX1_knownVoice_m l hfl g A σ rest p0 hI) (cwV 1 hts gX1_setMensuration_X1_knownVoice rfl rfl rfl (by decide +kernel) ⟨Nat.le_of_ble_eq_true rfl, Nat.le_of_ble_eq_true rfl⟩) (cx_V (q0 := 0) (ci := 1) (r := (RX1, TX1, 2)) rfl (cx0 g σ rest) hP hD hA hK hX hS) rfl rfl hl.1 rfl (lv_room (Nat.le_of_ble_eq_true rfl)) dX1_setMensuration_2 ⟨Nat.le_of_ble_eq_true rfl, Nat.le_of_ble_eq_true rfl⟩) hno hlocks (fun E h => Or.inl ⟨h.1, by simp [cdVR, h.2]⟩) (Nat.le_of_ble_eq_true rfl) (Nat.le_of_ble_eq_true rfl) (fun r_1 hr_1 => ?_)
  obtain ⟨v, hvn, rfl, rfl⟩ := hr_1
  have hv4 : v < 4 := hI.v4 hvn
  have hixv : ix (nI v) = v := ix_n (by omega)
  have hokv : okV σ (nI v) = true := okV_t hvn hI.N
  rw [hixv]
  refine lv_astore (lv' := [(5, .ref (gV g v)), (0, .ref (gX g)), (1, .int (nI v)), (2, .int a0), (3, .int b0), (4, .int c0)]) (pc := 5) hx hb dX1_setMensuration_5 hl (by decide) rfl (fun ls hl => ?_)
  refine lv_iload_n (pc := 7) hx hb dX1_setMensuration_7 rfl (lv_at hl 3 rfl) ?_
  refine lv_iload_n (pc := 8) hx hb dX1_setMensuration_8 rfl (lv_at hl 4 rfl) ?_
  refine lv_iload (pc := 9) hx hb dX1_setMensuration_9 (lv_at hl 5 rfl) ?_
  refine k_xv (pc := 11) (vx_runS (As := [.int a0, .int b0, .int c0]) (rest := []) ⟨hx, hb, hml, hown, hts⟩ (cX1_checkMensuration_m l hfl g A σ rest a0 b0 c0) (va_cwS 3 hts gX1_setMensuration_X1_checkMensuration rfl rfl rfl (by decide +kernel) ⟨Nat.le_of_ble_eq_true rfl, Nat.le_of_ble_eq_true rfl⟩) (cx_S hP hD hA hK hX hS) rfl rfl hl.1 rfl (lv_room (Nat.le_of_ble_eq_true rfl)) dX1_setMensuration_11 ⟨Nat.le_of_ble_eq_true rfl, Nat.le_of_ble_eq_true rfl⟩) hno hlocks (fun E h => Or.inr ⟨h.1, by simp only [cdVR, hokv, h.2]; rfl⟩) (Nat.le_of_ble_eq_true rfl) (Nat.le_of_ble_eq_true rfl) (fun hk1 => ?_)
  have hk1s := hk1
  obtain ⟨i, j, k, rfl, rfl, rfl, hi23, hj23, hk23⟩ := inM_nat hk1
  have hixi : ix (nI i) = i := ix_n (by omega)
  have hixj : ix (nI j) = j := ix_n (by omega)
  have hixk : ix (nI k) = k := ix_n (by omega)
  rw [hixi, hixj, hixk]
  refine lv_aload (pc := 14) hx hb dX1_setMensuration_14 (lv_at hl 0 rfl) ?_
  refine lv_iload_n (pc := 16) hx hb dX1_setMensuration_16 rfl (lv_at hl 3 rfl) ?_
  refine lv_iload_n (pc := 17) hx hb dX1_setMensuration_17 rfl (lv_at hl 4 rfl) ?_
  refine lv_iload (pc := 18) hx hb dX1_setMensuration_18 (lv_at hl 5 rfl) ?_
  refine va_callv (pc := 20) (va_runVN (As := [.int (nI i), .int (nI j), .int (nI k)]) (rest := []) ⟨hx, hb, hml, hown, hts⟩ (cX0_measure_m l g A σ rest v i j k hv4 hI) ⟨va_cnB 3 hts gX1_setMensuration_X0_measure_n31 rfl rfl rfl (nm_31 hX) (hts (.initialized RX0) (by decide +kernel)) (by decide +kernel) ⟨Nat.le_of_ble_eq_true rfl, Nat.le_of_ble_eq_true rfl⟩, hts (.instanceMethod yX0_measure) (by decide +kernel), hts (.selects RX0 yX0_measure yX0_measure) (by decide +kernel)⟩ (cx_V (q0 := (2 + 6 * v)) (ci := 0) (r := (RX0, TX0, 10)) rfl (cv0 g σ rest hv4) hP hD hA hK hX hS) rfl rfl hl.1 rfl (lv_room (Nat.le_of_ble_eq_true rfl)) dX1_setMensuration_20 ⟨Nat.le_of_ble_eq_true rfl, Nat.le_of_ble_eq_true rfl⟩) hS (fun _ _ h => h) (fun _ h => h) (fun u4 t4 H4 locs4 ht4 hvm4 hw4 hB4 hz4 hk4 hS => ?_)
  obtain ⟨hP, hD⟩ := hB4
  rw [ht4] at hP
  have hI2 := inv_me hI hi23 hj23 hk23 hw4
  obtain ⟨σ1, hσ1⟩ : ∃ z, z = (uB (meS σ v i j k) u4) := ⟨_, rfl⟩
  rw [← hσ1] at hP hD
  rw [← hσ1] at hI2
  refine lv_aload (pc := 23) hx hb dX1_setMensuration_23 (lv_at hl 0 rfl) ?_
  refine k_ri (pc := 25) (va_runVN (As := []) (rest := []) ⟨hx, hb, hml, hown, hts⟩ (cX0_end_m l g A σ1 rest v hv4 hI2) ⟨va_cnB 0 hts gX1_setMensuration_X0_end_n89 rfl rfl rfl (nm_89 hX) (hts (.initialized RX0) (by decide +kernel)) (by decide +kernel) ⟨Nat.le_of_ble_eq_true rfl, Nat.le_of_ble_eq_true rfl⟩, hts (.instanceMethod yX0_end) (by decide +kernel), hts (.selects RX0 yX0_end yX0_end) (by decide +kernel)⟩ (cx_V (q0 := (2 + 6 * v)) (ci := 0) (r := (RX0, TX0, 10)) rfl (cv0 g σ1 rest hv4) hP hD hA hK hX hS) rfl rfl hl.1 rfl (lv_room (Nat.le_of_ble_eq_true rfl)) dX1_setMensuration_25 ⟨Nat.le_of_ble_eq_true rfl, Nat.le_of_ble_eq_true rfl⟩) (fun r_5 hr_5 => ?_)
  subst hr_5
  subst hσ1
  refine vx_ret ?_
  refine W.widen (k := 4) (n := 24) (Nat.le_of_ble_eq_true rfl) (Nat.le_of_ble_eq_true rfl) ?_
  exact W.iret hx hb hr (fun t ht hW => ⟨⟨_, u4, rfl, ⟨by simp only [cdVR, hokv, hk1s]; rfl, congrArg nI (by unfold len; rw [bg_uB, sC_uB]), hI2⟩, by rw [ht]; exact hP, hD⟩, hS.F ht⟩) hS.2.2 dX1_setMensuration_28
set_option maxHeartbeats 4000000 in
set_option maxRecDepth 100000 in
/-- addVoice -/
theorem cX1_addVoice_m (l : Launch) (hfl : l.stackTraces = false) (g : GA) (A : Nat → Prop) (σ : St) (rest : va_W) (a0 : Int32) (b0 : Int32) (c0 : Int32) (hI : Inv σ) : vx_Met l yX1_addVoice wsX1_addVoice ({ frames := 8, cells := 4, slots := 24, locals := 134 }) (va_Pc [.ref (gX g), .int a0, .int b0, .int c0] (Cx g A (cw g σ ++ rest))) (va_Qi (fun (r : Int32) (u : Nat → Nat → Int32) => cd_addVoice σ a0 b0 c0 = 0 ∧ r = nI (sN σ) ∧ Inv (uB (ef_addVoice σ a0 b0 c0) u)) (fun u t => kB g A (cw g (uB (ef_addVoice σ a0 b0 c0) u) ++ rest) t) A) (kX (fun E => (E = eA ∧ cd_addVoice σ a0 b0 c0 = 1) ∨ (E = eS ∧ cd_addVoice σ a0 b0 c0 = 2))) 4 24 A := by
  refine vx_ofW (cc := cX1_addVoice) (maxL := 4) (ret := (some .int)) (by decide) rfl ?_
  intro p e s m args below meth c s₁ B hml hno hv0
  obtain ⟨rfl, hP, hD, hA, hK, hX⟩ := hv0
  have hx := B.exec
  have hb := B.bytes
  have hr := B.returns
  have hts := atoms_spec (ws := wsX1_addVoice) B.pre
  have hown : s.vm.findClass RX1 = some m.cls := findClass_of_methodNamed B.named
  have hlocks := B.notSynchronized
  have hS : va_S A s.heap s.heap [] := va_S.rf
  have hinX1 : ∀ w ∈ u_ws RX1 TX1 2, w ∈ wsX1_addVoice := by decide +kernel
  have hl := lv_entry ([.ref (gX g), .int a0, .int b0, .int c0]) (n := 4) (Nat.le_of_ble_eq_true rfl)
  rw [lg_entry_eq]
  generalize (lg_sl ([.ref (gX g), .int a0, .int b0, .int c0]) ++ List.replicate (4 - (lg_sl ([.ref (gX g), .int a0, .int b0, .int c0])).length) Slot.unset).toArray = ls at hl ⊢
  have hl : lv_has ls 4 [(0, .ref (gX g)), (1, .int a0), (2, .int b0), (3, .int c0)] := hl
  refine lv_iload_n (pc := 0) hx hb dX1_addVoice_0 rfl (lv_at hl 1 rfl) ?_
  refine lv_iload_n (pc := 1) hx hb dX1_addVoice_1 rfl (lv_at hl 2 rfl) ?_
  refine lv_iload_n (pc := 2) hx hb dX1_addVoice_2 rfl (lv_at hl 3 rfl) ?_
  refine k_xv (pc := 3) (vx_runS (As := [.int a0, .int b0, .int c0]) (rest := []) ⟨hx, hb, hml, hown, hts⟩ (cX1_checkMensuration_m l hfl g A σ rest a0 b0 c0) (va_cwS 3 hts gX1_addVoice_X1_checkMensuration rfl rfl rfl (by decide +kernel) ⟨Nat.le_of_ble_eq_true rfl, Nat.le_of_ble_eq_true rfl⟩) (cx_S hP hD hA hK hX hS) rfl rfl hl.1 rfl (lv_room (Nat.le_of_ble_eq_true rfl)) dX1_addVoice_3 ⟨Nat.le_of_ble_eq_true rfl, Nat.le_of_ble_eq_true rfl⟩) hno hlocks (fun E h => Or.inl ⟨h.1, by simp [cd_addVoice, h.2]⟩) (Nat.le_of_ble_eq_true rfl) (Nat.le_of_ble_eq_true rfl) (fun hk1 => ?_)
  have hk1s := hk1
  obtain ⟨i, j, k, rfl, rfl, rfl, hi23, hj23, hk23⟩ := inM_nat hk1
  have hixi : ix (nI i) = i := ix_n (by omega)
  have hixj : ix (nI j) = j := ix_n (by omega)
  have hixk : ix (nI k) = k := ix_n (by omega)
  have hef : ef_addVoice σ (nI i) (nI j) (nI k) = uN (meS σ (sN σ) i j k) (sN σ + 1) := by unfold ef_addVoice; rw [hixi, hixj, hixk]
  rw [hef]
  have hN := hI.N
  refine lv_aload_n (pc := 6) hx hb dX1_addVoice_6 rfl (lv_at hl 0 rfl) ?_
  refine va_get (v := .int (nI (sN σ))) (pc := 7) (D := gD g) (ci := 1) (C := RX1) (T := TX1) (N := 2) hx hb hts hinX1 hown hK hP 0 (cx0 g σ rest) rfl 1 (by decide) (hts (.fieldLink RX1 20 "ChoirNotes" "voiceCount" "I") (by decide +kernel)) (fun _ h9 => h9) rfl dX1_addVoice_7 ?_
  refine lv_iconst (v := 4) (pc := 10) hx hb dX1_addVoice_10 (by decide) ?_
  refine lv_icmp_lt (tgt := 24) (pc := 11) hx hb dX1_addVoice_11 (by decide) (fun c1 => ?_) (fun c1 => ?_)
  · have c1 : sN σ < 4 := (nI_ltI (a := sN σ) (b := 4) (by omega) (by omega)).mp c1
    refine lv_aload_n (pc := 24) hx hb dX1_addVoice_24 rfl (lv_at hl 0 rfl) ?_
    refine va_get (v := .ref (gK g)) (pc := 25) (D := gD g) (ci := 1) (C := RX1) (T := TX1) (N := 2) hx hb hts hinX1 hown hK hP 0 (cx0 g σ rest) rfl 0 (by decide) (hts (.fieldLink RX1 11 "ChoirNotes" "book" "[LChoirNotes$Voice;") (by decide +kernel)) (fun _ h9 => h9) rfl dX1_addVoice_25 ?_
    refine lv_aload_n (pc := 28) hx hb dX1_addVoice_28 rfl (lv_at hl 0 rfl) ?_
    refine va_get (v := .int (nI (sN σ))) (pc := 29) (D := gD g) (ci := 1) (C := RX1) (T := TX1) (N := 2) hx hb hts hinX1 hown hK hP 0 (cx0 g σ rest) rfl 1 (by decide) (hts (.fieldLink RX1 20 "ChoirNotes" "voiceCount" "I") (by decide +kernel)) (fun _ h9 => h9) rfl dX1_addVoice_29 ?_
    refine k_aald (pc := 32) (x := gV g (sN σ)) hx hb hK hP 1 2 (cx1 g σ rest) rfl (sN σ) rfl c1 (by decide) (if_pos c1) dX1_addVoice_32 ?_
    refine lv_iload_n (pc := 33) hx hb dX1_addVoice_33 rfl (lv_at hl 1 rfl) ?_
    refine lv_iload_n (pc := 34) hx hb dX1_addVoice_34 rfl (lv_at hl 2 rfl) ?_
    refine lv_iload_n (pc := 35) hx hb dX1_addVoice_35 rfl (lv_at hl 3 rfl) ?_
    refine va_callv (pc := 36) (va_runVN (As := [.int (nI i), .int (nI j), .int (nI k)]) (rest := []) ⟨hx, hb, hml, hown, hts⟩ (cX0_measure_m l g A σ rest (sN σ) i j k c1 hI) ⟨va_cnB 3 hts gX1_addVoice_X0_measure_n31 rfl rfl rfl (nm_31 hX) (hts (.initialized RX0) (by decide +kernel)) (by decide +kernel) ⟨Nat.le_of_ble_eq_true rfl, Nat.le_of_ble_eq_true rfl⟩, hts (.instanceMethod yX0_measure) (by decide +kernel), hts (.selects RX0 yX0_measure yX0_measure) (by decide +kernel)⟩ (cx_V (q0 := (2 + 6 * (sN σ))) (ci := 0) (r := (RX0, TX0, 10)) rfl (cv0 g σ rest c1) hP hD hA hK hX hS) rfl rfl hl.1 rfl (lv_room (Nat.le_of_ble_eq_true rfl)) dX1_addVoice_36 ⟨Nat.le_of_ble_eq_true rfl, Nat.le_of_ble_eq_true rfl⟩) hS (fun _ _ h => h) (fun _ h => h) (fun u4 t4 H4 locs4 ht4 hvm4 hw4 hB4 hz4 hk4 hS => ?_)
    obtain ⟨hP, hD⟩ := hB4
    rw [ht4] at hP
    have hI2 := inv_av hI c1 hi23 hj23 hk23 hw4
    obtain ⟨σ1, hσ1⟩ : ∃ z, z = (uB (meS σ (sN σ) i j k) u4) := ⟨_, rfl⟩
    rw [← hσ1] at hP hD
    have hN1 : sN σ1 = sN σ := by rw [hσ1, sN_uB, sN_meS]
    refine lv_aload_n (pc := 39) hx hb dX1_addVoice_39 rfl (lv_at hl 0 rfl) ?_
    refine lv_dup (pc := 40) hx hb dX1_addVoice_40 rfl ?_
    refine va_get (v := .int (nI (sN σ1))) (pc := 41) (D := gD g) (ci := 1) (C := RX1) (T := TX1) (N := 2) hx hb hts hinX1 hown hK hP 0 (cx0 g σ1 rest) rfl 1 (by decide) (hts (.fieldLink RX1 20 "ChoirNotes" "voiceCount" "I") (by decide +kernel)) (fun _ h9 => h9) rfl dX1_addVoice_41 ?_
    refine lv_iconst (v := 1) (pc := 44) hx hb dX1_addVoice_44 (by decide) ?_
    refine lv_iadd (pc := 45) hx hb dX1_addVoice_45 ?_
    refine k_cong (y := nI (sN σ + 1)) (by rw [hN1]; exact nI_1 _) ?_
    refine va_put (pc := 46) (D := gD g) (ci := 1) (v := .int (nI (sN σ + 1))) (ty := .int) (C := RX1) (T := TX1) (N := 2) hx hb hts hinX1 tyX1 tyX1_ok nmX1 hown hK hP hD hS 0 (cx0 g σ1 rest) rfl 1 (by decide) (hts (.fieldLink RX1 20 "ChoirNotes" "voiceCount" "I") (by decide +kernel)) (fun _ h9 => h9) rfl (by decide +kernel) rfl rfl (Nat.le_of_ble_eq_true rfl) dX1_addVoice_46 (fun H5 locs5 hP hD hS => ?_)
    have hP : va_P (gD g) vwCl (cw g (uN σ1 (sN σ + 1)) ++ rest) H5 := (cs_N g σ1 rest _) ▸ hP
    have hD : va_D A (cw g (uN σ1 (sN σ + 1)) ++ rest) := (cs_N g σ1 rest _) ▸ hD
    rw [hσ1, uN_uB] at hP hD
    refine lv_aload_n (pc := 49) hx hb dX1_addVoice_49 rfl (lv_at hl 0 rfl) ?_
    refine va_get (v := .int (nI (sN (uN (meS σ (sN σ) i j k) (sN σ + 1))))) (pc := 50) (D := gD g) (ci := 1) (C := RX1) (T := TX1) (N := 2) hx hb hts hinX1 hown hK hP 0 (cx0 g (uB (uN (meS σ (sN σ) i j k) (sN σ + 1)) u4) rest) rfl 1 (by decide) (hts (.fieldLink RX1 20 "ChoirNotes" "voiceCount" "I") (by decide +kernel)) (fun _ h9 => h9) rfl dX1_addVoice_50 ?_
    refine lv_iconst (v := 1) (pc := 53) hx hb dX1_addVoice_53 (by decide) ?_
    refine lv_isub (pc := 54) hx hb dX1_addVoice_54 ?_
    refine k_cong (y := nI (sN σ)) (by simp only [sN_uB, sN_uN]; exact nI_pred _) ?_
    refine vx_ret ?_
    refine W.widen (k := 4) (n := 24) (Nat.le_of_ble_eq_true rfl) (Nat.le_of_ble_eq_true rfl) ?_
    exact W.iret hx hb hr (fun t ht hW => ⟨⟨_, u4, rfl, ⟨by simp [cd_addVoice, hk1s, c1], rfl, hI2⟩, by rw [ht]; exact hP, hD⟩, hS.F ht⟩) hS.2.2 dX1_addVoice_55
  · have c1 : ¬ (sN σ < 4) := fun z => c1 ((nI_ltI (a := sN σ) (b := 4) (by omega) (by omega)).mpr z)
    refine k_throw (pc := 14) (cls := "java/lang/IllegalStateException") (text := "the book has all its voices") (ik := 24) (is := 26) (ic := 28) hx hb hfl hown hts hX (by decide) (by decide +kernel) (by decide) (by decide +kernel) (by decide +kernel) (by decide +kernel) (by decide +kernel) (by decide +kernel) (hl.1.trans hml.symm) dX1_addVoice_14 dX1_addVoice_17 dX1_addVoice_18 dX1_addVoice_20 dX1_addVoice_23 hno hlocks (Nat.le_of_ble_eq_true rfl) (Nat.le_of_ble_eq_true rfl) (Nat.le_of_ble_eq_true rfl) (Nat.le_of_ble_eq_true rfl) (Nat.le_of_ble_eq_true rfl) (Nat.le_of_ble_eq_true rfl) ?_
    exact Or.inr ⟨rfl, by simp [cd_addVoice, hk1s, c1]⟩
