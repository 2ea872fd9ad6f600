/-! THE CLASS: calls that write nothing -/
set_option maxHeartbeats 4000000 in
set_option maxRecDepth 100000 in
/-- signs -/
theorem cX1_signs_m (l : Launch) (hfl : l.stackTraces = false) (g : GA) (A : Nat → Prop) (σ : St) (rest : va_W) (p0 : Int32) (hI : Inv σ) : vx_Met l yX1_signs wsX1_signs ({ frames := 7, cells := 1, slots := 6, locals := 111 }) (va_Pc [.ref (gX g), .int p0] (Cx g A (cw g σ ++ rest))) (vp_Si (fun r : Int32 => cdV σ p0 = 0 ∧ r = nI (sC σ (ix p0)))) (kX (fun E => (E = eI ∧ cdV σ p0 = 1))) 1 6 (fun _ => False) := by
  refine vx_ofW (cc := cX1_signs) (maxL := 2) (ret := (some .int)) (by decide) rfl ?_
  intro p e s m args below meth c s₁ B hml hno hv0
  obtain ⟨rfl, hP, hD, hA, hK, hX⟩ := hv0
  have hx := B.exec
  have hb := B.bytes
  have hr := B.returns
  have hts := atoms_spec (ws := wsX1_signs) B.pre
  have hown : s.vm.findClass RX1 = some m.cls := findClass_of_methodNamed B.named
  have hlocks := B.notSynchronized
  have hS : va_S A s.heap s.heap [] := va_S.rf
  have hinX0 : ∀ w ∈ u_ws RX0 TX0 10, w ∈ wsX1_signs := by decide +kernel
  have hl := lv_entry ([.ref (gX g), .int p0]) (n := 2) (Nat.le_of_ble_eq_true rfl)
  rw [lg_entry_eq]
  generalize (lg_sl ([.ref (gX g), .int p0]) ++ List.replicate (2 - (lg_sl ([.ref (gX g), .int p0])).length) Slot.unset).toArray = ls at hl ⊢
  have hl : lv_has ls 2 [(0, .ref (gX g)), (1, .int p0)] := hl
  refine lv_aload_n (pc := 0) hx hb dX1_signs_0 rfl (lv_at hl 0 rfl) ?_
  refine lv_iload_n (pc := 1) hx hb dX1_signs_1 rfl (lv_at hl 1 rfl) ?_
  refine k_xr (pc := 2) (vx_runV (As := [.int p0]) (rest := []) ⟨hx, hb, hml, hown, hts⟩ (cX1_knownVoice_m l hfl g A σ rest p0 hI) (cwV 1 hts gX1_signs_X1_knownVoice rfl rfl rfl (by decide +kernel) ⟨Nat.le_of_ble_eq_true rfl, Nat.le_of_ble_eq_true rfl⟩) (cx_V (q0 := 0) (ci := 1) (r := (RX1, TX1, 2)) rfl (cx0 g σ rest) hP hD hA hK hX hS) rfl rfl hl.1 rfl (lv_room (Nat.le_of_ble_eq_true rfl)) dX1_signs_2 ⟨Nat.le_of_ble_eq_true rfl, Nat.le_of_ble_eq_true rfl⟩) hno hlocks (fun E h => ⟨h.1, by simp [cdV, h.2]⟩) (Nat.le_of_ble_eq_true rfl) (Nat.le_of_ble_eq_true rfl) (fun r_1 hr_1 => ?_)
  obtain ⟨v, hvn, rfl, rfl⟩ := hr_1
  have hv4 : v < 4 := hI.v4 hvn
  have hixv : ix (nI v) = v := ix_n (by omega)
  have hokv : okV σ (nI v) = true := okV_t hvn hI.N
  refine va_getN (v := .int (nI (sC σ v))) (pc := 5) (D := gD g) (ci := 0) (C := RX0) (T := TX0) (N := 10) hx hb hts hinX0 hown hK hP (2 + 6 * v) (cv0 g σ rest hv4) rfl 4 (by decide) (va_Nw.use rfl (nf_64 hX)) (fun _ h9 => h9) rfl dX1_signs_5 ?_
  refine vx_ret ?_
  refine W.widen (k := 1) (n := 6) (Nat.le_of_ble_eq_true rfl) (Nat.le_of_ble_eq_true rfl) ?_
  exact W.iret hx hb hr (fun t ht hW => ⟨_, rfl, ⟨by simp [cdV, hokv], by simp only [hixv]⟩, ht⟩) (fun q hq => absurd hq List.not_mem_nil) dX1_signs_8
set_option maxHeartbeats 4000000 in
set_option maxRecDepth 100000 in
/-- notes -/
theorem cX1_notes_m (l : Launch) (hfl : l.stackTraces = false) (g : GA) (A : Nat → Prop) (σ : St) (rest : va_W) (p0 : Int32) (hI : Inv σ) : vx_Met l yX1_notes wsX1_notes ({ frames := 7, cells := 1, slots := 6, locals := 111 }) (va_Pc [.ref (gX g), .int p0] (Cx g A (cw g σ ++ rest))) (vp_Si (fun r : Int32 => cdV σ p0 = 0 ∧ r = nI (cnt (isNt σ (ix p0)) (sC σ (ix p0))))) (kX (fun E => (E = eI ∧ cdV σ p0 = 1))) 1 6 (fun _ => False) := by
  refine vx_ofW (cc := cX1_notes) (maxL := 2) (ret := (some .int)) (by decide) rfl ?_
  intro p e s m args below meth c s₁ B hml hno hv0
  obtain ⟨rfl, hP, hD, hA, hK, hX⟩ := hv0
  have hx := B.exec
  have hb := B.bytes
  have hr := B.returns
  have hts := atoms_spec (ws := wsX1_notes) B.pre
  have hown : s.vm.findClass RX1 = some m.cls := findClass_of_methodNamed B.named
  have hlocks := B.notSynchronized
  have hS : va_S A s.heap s.heap [] := va_S.rf
  have hl := lv_entry ([.ref (gX g), .int p0]) (n := 2) (Nat.le_of_ble_eq_true rfl)
  rw [lg_entry_eq]
  generalize (lg_sl ([.ref (gX g), .int p0]) ++ List.replicate (2 - (lg_sl ([.ref (gX g), .int p0])).length) Slot.unset).toArray = ls at hl ⊢
  have hl : lv_has ls 2 [(0, .ref (gX g)), (1, .int p0)] := hl
  refine lv_aload_n (pc := 0) hx hb dX1_notes_0 rfl (lv_at hl 0 rfl) ?_
  refine lv_iload_n (pc := 1) hx hb dX1_notes_1 rfl (lv_at hl 1 rfl) ?_
  refine k_xr (pc := 2) (vx_runV (As := [.int p0]) (rest := []) ⟨hx, hb, hml, hown, hts⟩ (cX1_knownVoice_m l hfl g A σ rest p0 hI) (cwV 1 hts gX1_notes_X1_knownVoice rfl rfl rfl (by decide +kernel) ⟨Nat.le_of_ble_eq_true rfl, Nat.le_of_ble_eq_true rfl⟩) (cx_V (q0 := 0) (ci := 1) (r := (RX1, TX1, 2)) rfl (cx0 g σ rest) hP hD hA hK hX hS) rfl rfl hl.1 rfl (lv_room (Nat.le_of_ble_eq_true rfl)) dX1_notes_2 ⟨Nat.le_of_ble_eq_true rfl, Nat.le_of_ble_eq_true rfl⟩) hno hlocks (fun E h => ⟨h.1, by simp [cdV, h.2]⟩) (Nat.le_of_ble_eq_true rfl) (Nat.le_of_ble_eq_true rfl) (fun r_1 hr_1 => ?_)
  obtain ⟨v, hvn, rfl, rfl⟩ := hr_1
  have hv4 : v < 4 := hI.v4 hvn
  have hixv : ix (nI v) = v := ix_n (by omega)
  have hokv : okV σ (nI v) = true := okV_t hvn hI.N
  refine k_ri (pc := 5) (va_runVN (As := []) (rest := []) ⟨hx, hb, hml, hown, hts⟩ (cX0_countNotes_m l g A σ rest v hv4 hI) ⟨va_cnB 0 hts gX1_notes_X0_countNotes_n92 rfl rfl rfl (nm_92 hX) (hts (.initialized RX0) (by decide +kernel)) (by decide +kernel) ⟨Nat.le_of_ble_eq_true rfl, Nat.le_of_ble_eq_true rfl⟩, hts (.instanceMethod yX0_countNotes) (by decide +kernel), hts (.selects RX0 yX0_countNotes yX0_countNotes) (by decide +kernel)⟩ (cx_V (q0 := (2 + 6 * v)) (ci := 0) (r := (RX0, TX0, 10)) rfl (cv0 g σ rest hv4) hP hD hA hK hX hS) rfl rfl hl.1 rfl (lv_room (Nat.le_of_ble_eq_true rfl)) dX1_notes_5 ⟨Nat.le_of_ble_eq_true rfl, Nat.le_of_ble_eq_true rfl⟩) (fun r_2 hr_2 => ?_)
  subst hr_2
  refine vx_ret ?_
  refine W.widen (k := 1) (n := 6) (Nat.le_of_ble_eq_true rfl) (Nat.le_of_ble_eq_true rfl) ?_
  exact W.iret hx hb hr (fun t ht hW => ⟨_, rfl, ⟨by simp [cdV, hokv], by simp only [hixv]⟩, ht⟩) (fun q hq => absurd hq List.not_mem_nil) dX1_notes_8
set_option maxHeartbeats 4000000 in
set_option maxRecDepth 100000 in
/-- ligatures -/
theorem cX1_ligatures_m (l : Launch) (hfl : l.stackTraces = false) (g : GA) (A : Nat → Prop) (σ : St) (rest : va_W) (p0 : Int32) (hI : Inv σ) : vx_Met l yX1_ligatures wsX1_ligatures ({ frames := 7, cells := 1, slots := 6, locals := 111 }) (va_Pc [.ref (gX g), .int p0] (Cx g A (cw g σ ++ rest))) (vp_Si (fun r : Int32 => cdV σ p0 = 0 ∧ r = nI (cnt (isLg σ (ix p0)) (sC σ (ix p0))))) (kX (fun E => (E = eI ∧ cdV σ p0 = 1))) 1 6 (fun _ => False) := by
  refine vx_ofW (cc := cX1_ligatures) (maxL := 2) (ret := (some .int)) (by decide) rfl ?_
  intro p e s m args below meth c s₁ B hml hno hv0
  obtain ⟨rfl, hP, hD, hA, hK, hX⟩ := hv0
  have hx := B.exec
  have hb := B.bytes
  have hr := B.returns
  have hts := atoms_spec (ws := wsX1_ligatures) B.pre
  have hown : s.vm.findClass RX1 = some m.cls := findClass_of_methodNamed B.named
  have hlocks := B.notSynchronized
  have hS : va_S A s.heap s.heap [] := va_S.rf
  have hl := lv_entry ([.ref (gX g), .int p0]) (n := 2) (Nat.le_of_ble_eq_true rfl)
  rw [lg_entry_eq]
  generalize (lg_sl ([.ref (gX g), .int p0]) ++ List.replicate (2 - (lg_sl ([.ref (gX g), .int p0])).length) Slot.unset).toArray = ls at hl ⊢
  have hl : lv_has ls 2 [(0, .ref (gX g)), (1, .int p0)] := hl
  refine lv_aload_n (pc := 0) hx hb dX1_ligatures_0 rfl (lv_at hl 0 rfl) ?_
  refine lv_iload_n (pc := 1) hx hb dX1_ligatures_1 rfl (lv_at hl 1 rfl) ?_
  refine k_xr (pc := 2) (vx_runV (As := [.int p0]) (rest := []) ⟨hx, hb, hml, hown, hts⟩ (cX1_knownVoice_m l hfl g A σ rest p0 hI) (cwV 1 hts gX1_ligatures_X1_knownVoice rfl rfl rfl (by decide +kernel) ⟨Nat.le_of_ble_eq_true rfl, Nat.le_of_ble_eq_true rfl⟩) (cx_V (q0 := 0) (ci := 1) (r := (RX1, TX1, 2)) rfl (cx0 g σ rest) hP hD hA hK hX hS) rfl rfl hl.1 rfl (lv_room (Nat.le_of_ble_eq_true rfl)) dX1_ligatures_2 ⟨Nat.le_of_ble_eq_true rfl, Nat.le_of_ble_eq_true rfl⟩) hno hlocks (fun E h => ⟨h.1, by simp [cdV, h.2]⟩) (Nat.le_of_ble_eq_true rfl) (Nat.le_of_ble_eq_true rfl) (fun r_1 hr_1 => ?_)
  obtain ⟨v, hvn, rfl, rfl⟩ := hr_1
  have hv4 : v < 4 := hI.v4 hvn
  have hixv : ix (nI v) = v := ix_n (by omega)
  have hokv : okV σ (nI v) = true := okV_t hvn hI.N
  refine k_ri (pc := 5) (va_runVN (As := []) (rest := []) ⟨hx, hb, hml, hown, hts⟩ (cX0_countLigatures_m l g A σ rest v hv4 hI) ⟨va_cnB 0 hts gX1_ligatures_X0_countLigatures_n95 rfl rfl rfl (nm_95 hX) (hts (.initialized RX0) (by decide +kernel)) (by decide +kernel) ⟨Nat.le_of_ble_eq_true rfl, Nat.le_of_ble_eq_true rfl⟩, hts (.instanceMethod yX0_countLigatures) (by decide +kernel), hts (.selects RX0 yX0_countLigatures yX0_countLigatures) (by decide +kernel)⟩ (cx_V (q0 := (2 + 6 * v)) (ci := 0) (r := (RX0, TX0, 10)) rfl (cv0 g σ rest hv4) hP hD hA hK hX hS) rfl rfl hl.1 rfl (lv_room (Nat.le_of_ble_eq_true rfl)) dX1_ligatures_5 ⟨Nat.le_of_ble_eq_true rfl, Nat.le_of_ble_eq_true rfl⟩) (fun r_2 hr_2 => ?_)
  subst hr_2
  refine vx_ret ?_
  refine W.widen (k := 1) (n := 6) (Nat.le_of_ble_eq_true rfl) (Nat.le_of_ble_eq_true rfl) ?_
  exact W.iret hx hb hr (fun t ht hW => ⟨_, rfl, ⟨by simp [cdV, hokv], by simp only [hixv]⟩, ht⟩) (fun q hq => absurd hq List.not_mem_nil) dX1_ligatures_8
set_option maxHeartbeats 4000000 in
set_option maxRecDepth 100000 in
/-- length -/
theorem cX1_length_m (l : Launch) (hfl : l.stackTraces = false) (g : GA) (A : Nat → Prop) (σ : St) (rest : va_W) (p0 : Int32) (hI : Inv σ) : vx_Met l yX1_length wsX1_length ({ frames := 7, cells := 1, slots := 6, locals := 111 }) (va_Pc [.ref (gX g), .int p0] (Cx g A (cw g σ ++ rest))) (vp_Si (fun r : Int32 => cdV σ p0 = 0 ∧ r = nI (len σ (ix p0)))) (kX (fun E => (E = eI ∧ cdV σ p0 = 1))) 1 6 (fun _ => False) := by
  refine vx_ofW (cc := cX1_length) (maxL := 2) (ret := (some .int)) (by decide) rfl ?_
  intro p e s m args below meth c s₁ B hml hno hv0
  obtain ⟨rfl, hP, hD, hA, hK, hX⟩ := hv0
  have hx := B.exec
  have hb := B.bytes
  have hr := B.returns
  have hts := atoms_spec (ws := wsX1_length) B.pre
  have hown : s.vm.findClass RX1 = some m.cls := findClass_of_methodNamed B.named
  have hlocks := B.notSynchronized
  have hS : va_S A s.heap s.heap [] := va_S.rf
  have hl := lv_entry ([.ref (gX g), .int p0]) (n := 2) (Nat.le_of_ble_eq_true rfl)
  rw [lg_entry_eq]
  generalize (lg_sl ([.ref (gX g), .int p0]) ++ List.replicate (2 - (lg_sl ([.ref (gX g), .int p0])).length) Slot.unset).toArray = ls at hl ⊢
  have hl : lv_has ls 2 [(0, .ref (gX g)), (1, .int p0)] := hl
  refine lv_aload_n (pc := 0) hx hb dX1_length_0 rfl (lv_at hl 0 rfl) ?_
  refine lv_iload_n (pc := 1) hx hb dX1_length_1 rfl (lv_at hl 1 rfl) ?_
  refine k_xr (pc := 2) (vx_runV (As := [.int p0]) (rest := []) ⟨hx, hb, hml, hown, hts⟩ (cX1_knownVoice_m l hfl g A σ rest p0 hI) (cwV 1 hts gX1_length_X1_knownVoice rfl rfl rfl (by decide +kernel) ⟨Nat.le_of_ble_eq_true rfl, Nat.le_of_ble_eq_true rfl⟩) (cx_V (q0 := 0) (ci := 1) (r := (RX1, TX1, 2)) rfl (cx0 g σ rest) hP hD hA hK hX hS) rfl rfl hl.1 rfl (lv_room (Nat.le_of_ble_eq_true rfl)) dX1_length_2 ⟨Nat.le_of_ble_eq_true rfl, Nat.le_of_ble_eq_true rfl⟩) hno hlocks (fun E h => ⟨h.1, by simp [cdV, h.2]⟩) (Nat.le_of_ble_eq_true rfl) (Nat.le_of_ble_eq_true rfl) (fun r_1 hr_1 => ?_)
  obtain ⟨v, hvn, rfl, rfl⟩ := hr_1
  have hv4 : v < 4 := hI.v4 hvn
  have hixv : ix (nI v) = v := ix_n (by omega)
  have hokv : okV σ (nI v) = true := okV_t hvn hI.N
  refine k_ri (pc := 5) (va_runVN (As := []) (rest := []) ⟨hx, hb, hml, hown, hts⟩ (cX0_end_m l g A σ rest v hv4 hI) ⟨va_cnB 0 hts gX1_length_X0_end_n89 rfl rfl rfl (nm_89 hX) (hts (.initialized RX0) (by decide +kernel)) (by decide +kernel) ⟨Nat.le_of_ble_eq_true rfl, Nat.le_of_ble_eq_true rfl⟩, hts (.instanceMethod yX0_end) (by decide +kernel), hts (.selects RX0 yX0_end yX0_end) (by decide +kernel)⟩ (cx_V (q0 := (2 + 6 * v)) (ci := 0) (r := (RX0, TX0, 10)) rfl (cv0 g σ rest hv4) hP hD hA hK hX hS) rfl rfl hl.1 rfl (lv_room (Nat.le_of_ble_eq_true rfl)) dX1_length_5 ⟨Nat.le_of_ble_eq_true rfl, Nat.le_of_ble_eq_true rfl⟩) (fun r_2 hr_2 => ?_)
  subst hr_2
  refine vx_ret ?_
  refine W.widen (k := 1) (n := 6) (Nat.le_of_ble_eq_true rfl) (Nat.le_of_ble_eq_true rfl) ?_
  exact W.iret hx hb hr (fun t ht hW => ⟨_, rfl, ⟨by simp [cdV, hokv], by simp only [hixv]⟩, ht⟩) (fun q hq => absurd hq List.not_mem_nil) dX1_length_8
set_option maxHeartbeats 4000000 in
set_option maxRecDepth 100000 in
/-- clefOf -/
theorem cX1_clefOf_m (l : Launch) (hfl : l.stackTraces = false) (g : GA) (A : Nat → Prop) (σ : St) (rest : va_W) (p0 : Int32) (hI : Inv σ) : vx_Met l yX1_clefOf wsX1_clefOf ({ frames := 7, cells := 1, slots := 6, locals := 111 }) (va_Pc [.ref (gX g), .int p0] (Cx g A (cw g σ ++ rest))) (vp_Si (fun r : Int32 => cdV σ p0 = 0 ∧ r = sL σ (ix p0))) (kX (fun E => (E = eI ∧ cdV σ p0 = 1))) 1 6 (fun _ => False) := by
  refine vx_ofW (cc := cX1_clefOf) (maxL := 2) (ret := (some .int)) (by decide) rfl ?_
  intro p e s m args below meth c s₁ B hml hno hv0
  obtain ⟨rfl, hP, hD, hA, hK, hX⟩ := hv0
  have hx := B.exec
  have hb := B.bytes
  have hr := B.returns
  have hts := atoms_spec (ws := wsX1_clefOf) B.pre
  have hown : s.vm.findClass RX1 = some m.cls := findClass_of_methodNamed B.named
  have hlocks := B.notSynchronized
  have hS : va_S A s.heap s.heap [] := va_S.rf
  have hinX0 : ∀ w ∈ u_ws RX0 TX0 10, w ∈ wsX1_clefOf := by decide +kernel
  have hl := lv_entry ([.ref (gX g), .int p0]) (n := 2) (Nat.le_of_ble_eq_true rfl)
  rw [lg_entry_eq]
  generalize (lg_sl ([.ref (gX g), .int p0]) ++ List.replicate (2 - (lg_sl ([.ref (gX g), .int p0])).length) Slot.unset).toArray = ls at hl ⊢
  have hl : lv_has ls 2 [(0, .ref (gX g)), (1, .int p0)] := hl
  refine lv_aload_n (pc := 0) hx hb dX1_clefOf_0 rfl (lv_at hl 0 rfl) ?_
  refine lv_iload_n (pc := 1) hx hb dX1_clefOf_1 rfl (lv_at hl 1 rfl) ?_
  refine k_xr (pc := 2) (vx_runV (As := [.int p0]) (rest := []) ⟨hx, hb, hml, hown, hts⟩ (cX1_knownVoice_m l hfl g A σ rest p0 hI) (cwV 1 hts gX1_clefOf_X1_knownVoice rfl rfl rfl (by decide +kernel) ⟨Nat.le_of_ble_eq_true rfl, Nat.le_of_ble_eq_true rfl⟩) (cx_V (q0 := 0) (ci := 1) (r := (RX1, TX1, 2)) rfl (cx0 g σ rest) hP hD hA hK hX hS) rfl rfl hl.1 rfl (lv_room (Nat.le_of_ble_eq_true rfl)) dX1_clefOf_2 ⟨Nat.le_of_ble_eq_true rfl, Nat.le_of_ble_eq_true rfl⟩) hno hlocks (fun E h => ⟨h.1, by simp [cdV, h.2]⟩) (Nat.le_of_ble_eq_true rfl) (Nat.le_of_ble_eq_true rfl) (fun r_1 hr_1 => ?_)
  obtain ⟨v, hvn, rfl, rfl⟩ := hr_1
  have hv4 : v < 4 := hI.v4 hvn
  have hixv : ix (nI v) = v := ix_n (by omega)
  have hokv : okV σ (nI v) = true := okV_t hvn hI.N
  refine va_getN (v := .int (sL σ v)) (pc := 5) (D := gD g) (ci := 0) (C := RX0) (T := TX0) (N := 10) hx hb hts hinX0 hown hK hP (2 + 6 * v) (cv0 g σ rest hv4) rfl 3 (by decide) (va_Nw.use rfl (nf_86 hX)) (fun _ h9 => h9) rfl dX1_clefOf_5 ?_
  refine vx_ret ?_
  refine W.widen (k := 1) (n := 6) (Nat.le_of_ble_eq_true rfl) (Nat.le_of_ble_eq_true rfl) ?_
  exact W.iret hx hb hr (fun t ht hW => ⟨_, rfl, ⟨by simp [cdV, hokv], by simp only [hixv]⟩, ht⟩) (fun q hq => absurd hq List.not_mem_nil) dX1_clefOf_8
set_option maxHeartbeats 4000000 in
set_option maxRecDepth 100000 in
/-- clefsThatFit -/
theorem cX1_clefsThatFit_m (l : Launch) (hfl : l.stackTraces = false) (g : GA) (A : Nat → Prop) (σ : St) (rest : va_W) (p0 : Int32) (hI : Inv σ) : vx_Met l yX1_clefsThatFit wsX1_clefsThatFit ({ frames := 7, cells := 1, slots := 6, locals := 111 }) (va_Pc [.ref (gX g), .int p0] (Cx g A (cw g σ ++ rest))) (vp_Si (fun r : Int32 => cdV σ p0 = 0 ∧ r = nI (fct σ (ix p0)))) (kX (fun E => (E = eI ∧ cdV σ p0 = 1))) 1 6 (fun _ => False) := by
  refine vx_ofW (cc := cX1_clefsThatFit) (maxL := 2) (ret := (some .int)) (by decide) rfl ?_
  intro p e s m args below meth c s₁ B hml hno hv0
  obtain ⟨rfl, hP, hD, hA, hK, hX⟩ := hv0
  have hx := B.exec
  have hb := B.bytes
  have hr := B.returns
  have hts := atoms_spec (ws := wsX1_clefsThatFit) B.pre
  have hown : s.vm.findClass RX1 = some m.cls := findClass_of_methodNamed B.named
  have hlocks := B.notSynchronized
  have hS : va_S A s.heap s.heap [] := va_S.rf
  have hl := lv_entry ([.ref (gX g), .int p0]) (n := 2) (Nat.le_of_ble_eq_true rfl)
  rw [lg_entry_eq]
  generalize (lg_sl ([.ref (gX g), .int p0]) ++ List.replicate (2 - (lg_sl ([.ref (gX g), .int p0])).length) Slot.unset).toArray = ls at hl ⊢
  have hl : lv_has ls 2 [(0, .ref (gX g)), (1, .int p0)] := hl
  refine lv_aload_n (pc := 0) hx hb dX1_clefsThatFit_0 rfl (lv_at hl 0 rfl) ?_
  refine lv_iload_n (pc := 1) hx hb dX1_clefsThatFit_1 rfl (lv_at hl 1 rfl) ?_
  refine k_xr (pc := 2) (vx_runV (As := [.int p0]) (rest := []) ⟨hx, hb, hml, hown, hts⟩ (cX1_knownVoice_m l hfl g A σ rest p0 hI) (cwV 1 hts gX1_clefsThatFit_X1_knownVoice rfl rfl rfl (by decide +kernel) ⟨Nat.le_of_ble_eq_true rfl, Nat.le_of_ble_eq_true rfl⟩) (cx_V (q0 := 0) (ci := 1) (r := (RX1, TX1, 2)) rfl (cx0 g σ rest) hP hD hA hK hX hS) rfl rfl hl.1 rfl (lv_room (Nat.le_of_ble_eq_true rfl)) dX1_clefsThatFit_2 ⟨Nat.le_of_ble_eq_true rfl, Nat.le_of_ble_eq_true rfl⟩) hno hlocks (fun E h => ⟨h.1, by simp [cdV, h.2]⟩) (Nat.le_of_ble_eq_true rfl) (Nat.le_of_ble_eq_true rfl) (fun r_1 hr_1 => ?_)
  obtain ⟨v, hvn, rfl, rfl⟩ := hr_1
  have hv4 : v < 4 := hI.v4 hvn
  have hixv : ix (nI v) = v := ix_n (by omega)
  have hokv : okV σ (nI v) = true := okV_t hvn hI.N
  refine k_ri (pc := 5) (va_runVN (As := []) (rest := []) ⟨hx, hb, hml, hown, hts⟩ (cX0_countFittingClefs_m l g A σ rest v hv4 hI) ⟨va_cnB 0 hts gX1_clefsThatFit_X0_countFittingClefs_n137 rfl rfl rfl (nm_137 hX) (hts (.initialized RX0) (by decide +kernel)) (by decide +kernel) ⟨Nat.le_of_ble_eq_true rfl, Nat.le_of_ble_eq_true rfl⟩, hts (.instanceMethod yX0_countFittingClefs) (by decide +kernel), hts (.selects RX0 yX0_countFittingClefs yX0_countFittingClefs) (by decide +kernel)⟩ (cx_V (q0 := (2 + 6 * v)) (ci := 0) (r := (RX0, TX0, 10)) rfl (cv0 g σ rest hv4) hP hD hA hK hX hS) rfl rfl hl.1 rfl (lv_room (Nat.le_of_ble_eq_true rfl)) dX1_clefsThatFit_5 ⟨Nat.le_of_ble_eq_true rfl, Nat.le_of_ble_eq_true rfl⟩) (fun r_2 hr_2 => ?_)
  subst hr_2
  refine vx_ret ?_
  refine W.widen (k := 1) (n := 6) (Nat.le_of_ble_eq_true rfl) (Nat.le_of_ble_eq_true rfl) ?_
  exact W.iret hx hb hr (fun t ht hW => ⟨_, rfl, ⟨by simp [cdV, hokv], by simp only [hixv]⟩, ht⟩) (fun q hq => absurd hq List.not_mem_nil) dX1_clefsThatFit_8
set_option maxHeartbeats 4000000 in
set_option maxRecDepth 100000 in
/-- kindOf -/
theorem cX1_kindOf_m (l : Launch) (hfl : l.stackTraces = false) (g : GA) (A : Nat → Prop) (σ : St) (rest : va_W) (p0 : Int32) (q0 : Int32) (hI : Inv σ) : vx_Met l yX1_kindOf wsX1_kindOf ({ frames := 8, cells := 2, slots := 12, locals := 134 }) (va_Pc [.ref (gX g), .int p0, .int q0] (Cx g A (cw g σ ++ rest))) (vp_Si (fun r : Int32 => cdS σ p0 q0 = 0 ∧ r = nI (sK σ (ix p0) (ix q0)))) (kX (fun E => (E = eI ∧ cdS σ p0 q0 = 1))) 2 12 (fun _ => False) := by
  refine vx_ofW (cc := cX1_kindOf) (maxL := 3) (ret := (some .int)) (by decide) rfl ?_
  intro p e s m args below meth c s₁ B hml hno hv0
  obtain ⟨rfl, hP, hD, hA, hK, hX⟩ := hv0
  have hx := B.exec
  have hb := B.bytes
  have hr := B.returns
  have hts := atoms_spec (ws := wsX1_kindOf) B.pre
  have hown : s.vm.findClass RX1 = some m.cls := findClass_of_methodNamed B.named
  have hlocks := B.notSynchronized
  have hS : va_S A s.heap s.heap [] := va_S.rf
  have hinX0 : ∀ w ∈ u_ws RX0 TX0 10, w ∈ wsX1_kindOf := by decide +kernel
  have hl := lv_entry ([.ref (gX g), .int p0, .int q0]) (n := 3) (Nat.le_of_ble_eq_true rfl)
  rw [lg_entry_eq]
  generalize (lg_sl ([.ref (gX g), .int p0, .int q0]) ++ List.replicate (3 - (lg_sl ([.ref (gX g), .int p0, .int q0])).length) Slot.unset).toArray = ls at hl ⊢
  have hl : lv_has ls 3 [(0, .ref (gX g)), (1, .int p0), (2, .int q0)] := hl
  refine lv_aload_n (pc := 0) hx hb dX1_kindOf_0 rfl (lv_at hl 0 rfl) ?_
  refine lv_iload_n (pc := 1) hx hb dX1_kindOf_1 rfl (lv_at hl 1 rfl) ?_
  refine lv_iload_n (pc := 2) hx hb dX1_kindOf_2 rfl (lv_at hl 2 rfl) ?_
  refine k_xr (pc := 3) (vx_runV (As := [.int p0, .int q0]) (rest := []) ⟨hx, hb, hml, hown, hts⟩ (cX1_voiceWithSign_m l hfl g A σ rest p0 q0 hI) (cwV 2 hts gX1_kindOf_X1_voiceWithSign rfl rfl rfl (by decide +kernel) ⟨Nat.le_of_ble_eq_true rfl, Nat.le_of_ble_eq_true rfl⟩) (cx_V (q0 := 0) (ci := 1) (r := (RX1, TX1, 2)) rfl (cx0 g σ rest) hP hD hA hK hX hS) rfl rfl hl.1 rfl (lv_room (Nat.le_of_ble_eq_true rfl)) dX1_kindOf_3 ⟨Nat.le_of_ble_eq_true rfl, Nat.le_of_ble_eq_true rfl⟩) hno hlocks (fun _ h => h) (Nat.le_of_ble_eq_true rfl) (Nat.le_of_ble_eq_true rfl) (fun r_1 hr_1 => ?_)
  obtain ⟨v, s0, hvn, hs0, rfl, rfl, rfl⟩ := hr_1
  have hv4 : v < 4 := hI.v4 hvn
  have hC := hI.C v
  have hixv : ix (nI v) = v := ix_n (by omega)
  have hixs : ix (nI s0) = s0 := ix_n (by omega)
  have hokv : okV σ (nI v) = true := okV_t hvn hI.N
  have hoks : okS σ v (nI s0) = true := okS_t hs0 hC
  refine va_getN (v := .ref (gA g v 0)) (pc := 6) (D := gD g) (ci := 0) (C := RX0) (T := TX0) (N := 10) hx hb hts hinX0 hown hK hP (2 + 6 * v) (cv0 g σ rest hv4) rfl 5 (by decide) (va_Nw.use rfl (nf_98 hX)) (fun _ h9 => h9) rfl dX1_kindOf_6 ?_
  refine lv_iload_n (pc := 9) hx hb dX1_kindOf_9 rfl (lv_at hl 2 rfl) ?_
  refine k_iald (pc := 10) (x := nI (sK σ v s0)) hx hb hK hP (3 + 6 * v) 0 (cv1 g σ rest hv4) rfl s0 rfl (by omega) (by decide) rfl dX1_kindOf_10 ?_
  refine vx_ret ?_
  refine W.widen (k := 2) (n := 12) (Nat.le_of_ble_eq_true rfl) (Nat.le_of_ble_eq_true rfl) ?_
  exact W.iret hx hb hr (fun t ht hW => ⟨_, rfl, ⟨by simp [cdS, hokv, hoks, hixv], by simp only [hixv, hixs]⟩, ht⟩) (fun q hq => absurd hq List.not_mem_nil) dX1_kindOf_11
set_option maxHeartbeats 4000000 in
set_option maxRecDepth 100000 in
/-- placeOf -/
theorem cX1_placeOf_m (l : Launch) (hfl : l.stackTraces = false) (g : GA) (A : Nat → Prop) (σ : St) (rest : va_W) (p0 : Int32) (q0 : Int32) (hI : Inv σ) : vx_Met l yX1_placeOf wsX1_placeOf ({ frames := 8, cells := 2, slots := 12, locals := 134 }) (va_Pc [.ref (gX g), .int p0, .int q0] (Cx g A (cw g σ ++ rest))) (vp_Si (fun r : Int32 => cdS σ p0 q0 = 0 ∧ r = sP σ (ix p0) (ix q0))) (kX (fun E => (E = eI ∧ cdS σ p0 q0 = 1))) 2 12 (fun _ => False) := by
  refine vx_ofW (cc := cX1_placeOf) (maxL := 3) (ret := (some .int)) (by decide) rfl ?_
  intro p e s m args below meth c s₁ B hml hno hv0
  obtain ⟨rfl, hP, hD, hA, hK, hX⟩ := hv0
  have hx := B.exec
  have hb := B.bytes
  have hr := B.returns
  have hts := atoms_spec (ws := wsX1_placeOf) B.pre
  have hown : s.vm.findClass RX1 = some m.cls := findClass_of_methodNamed B.named
  have hlocks := B.notSynchronized
  have hS : va_S A s.heap s.heap [] := va_S.rf
  have hinX0 : ∀ w ∈ u_ws RX0 TX0 10, w ∈ wsX1_placeOf := by decide +kernel
  have hl := lv_entry ([.ref (gX g), .int p0, .int q0]) (n := 3) (Nat.le_of_ble_eq_true rfl)
  rw [lg_entry_eq]
  generalize (lg_sl ([.ref (gX g), .int p0, .int q0]) ++ List.replicate (3 - (lg_sl ([.ref (gX g), .int p0, .int q0])).length) Slot.unset).toArray = ls at hl ⊢
  have hl : lv_has ls 3 [(0, .ref (gX g)), (1, .int p0), (2, .int q0)] := hl
  refine lv_aload_n (pc := 0) hx hb dX1_placeOf_0 rfl (lv_at hl 0 rfl) ?_
  refine lv_iload_n (pc := 1) hx hb dX1_placeOf_1 rfl (lv_at hl 1 rfl) ?_
  refine lv_iload_n (pc := 2) hx hb dX1_placeOf_2 rfl (lv_at hl 2 rfl) ?_
  refine k_xr (pc := 3) (vx_runV (As := [.int p0, .int q0]) (rest := []) ⟨hx, hb, hml, hown, hts⟩ (cX1_voiceWithSign_m l hfl g A σ rest p0 q0 hI) (cwV 2 hts gX1_placeOf_X1_voiceWithSign rfl rfl rfl (by decide +kernel) ⟨Nat.le_of_ble_eq_true rfl, Nat.le_of_ble_eq_true rfl⟩) (cx_V (q0 := 0) (ci := 1) (r := (RX1, TX1, 2)) rfl (cx0 g σ rest) hP hD hA hK hX hS) rfl rfl hl.1 rfl (lv_room (Nat.le_of_ble_eq_true rfl)) dX1_placeOf_3 ⟨Nat.le_of_ble_eq_true rfl, Nat.le_of_ble_eq_true rfl⟩) hno hlocks (fun _ h => h) (Nat.le_of_ble_eq_true rfl) (Nat.le_of_ble_eq_true rfl) (fun r_1 hr_1 => ?_)
  obtain ⟨v, s0, hvn, hs0, rfl, rfl, rfl⟩ := hr_1
  have hv4 : v < 4 := hI.v4 hvn
  have hC := hI.C v
  have hixv : ix (nI v) = v := ix_n (by omega)
  have hixs : ix (nI s0) = s0 := ix_n (by omega)
  have hokv : okV σ (nI v) = true := okV_t hvn hI.N
  have hoks : okS σ v (nI s0) = true := okS_t hs0 hC
  refine va_getN (v := .ref (gA g v 1)) (pc := 6) (D := gD g) (ci := 0) (C := RX0) (T := TX0) (N := 10) hx hb hts hinX0 hown hK hP (2 + 6 * v) (cv0 g σ rest hv4) rfl 6 (by decide) (va_Nw.use rfl (nf_102 hX)) (fun _ h9 => h9) rfl dX1_placeOf_6 ?_
  refine lv_iload_n (pc := 9) hx hb dX1_placeOf_9 rfl (lv_at hl 2 rfl) ?_
  refine k_iald (pc := 10) (x := sP σ v s0) hx hb hK hP (4 + 6 * v) 0 (cv2 g σ rest hv4) rfl s0 rfl (by omega) (by decide) rfl dX1_placeOf_10 ?_
  refine vx_ret ?_
  refine W.widen (k := 2) (n := 12) (Nat.le_of_ble_eq_true rfl) (Nat.le_of_ble_eq_true rfl) ?_
  exact W.iret hx hb hr (fun t ht hW => ⟨_, rfl, ⟨by simp [cdS, hokv, hoks, hixv], by simp only [hixv, hixs]⟩, ht⟩) (fun q hq => absurd hq List.not_mem_nil) dX1_placeOf_11
set_option maxHeartbeats 4000000 in
set_option maxRecDepth 100000 in
/-- isColoured -/
theorem cX1_isColoured_m (l : Launch) (hfl : l.stackTraces = false) (g : GA) (A : Nat → Prop) (σ : St) (rest : va_W) (p0 : Int32) (q0 : Int32) (hI : Inv σ) : vx_Met l yX1_isColoured wsX1_isColoured ({ frames := 8, cells := 2, slots := 12, locals := 134 }) (va_Pc [.ref (gX g), .int p0, .int q0] (Cx g A (cw g σ ++ rest))) (vp_Si (fun r : Int32 => cdS σ p0 q0 = 0 ∧ r = bI (sR σ (ix p0) (ix q0)))) (kX (fun E => (E = eI ∧ cdS σ p0 q0 = 1))) 2 12 (fun _ => False) := by
  refine vx_ofW (cc := cX1_isColoured) (maxL := 3) (ret := (some .boolean)) (by decide) rfl ?_
  intro p e s m args below meth c s₁ B hml hno hv0
  obtain ⟨rfl, hP, hD, hA, hK, hX⟩ := hv0
  have hx := B.exec
  have hb := B.bytes
  have hr := B.returns
  have hts := atoms_spec (ws := wsX1_isColoured) B.pre
  have hown : s.vm.findClass RX1 = some m.cls := findClass_of_methodNamed B.named
  have hlocks := B.notSynchronized
  have hS : va_S A s.heap s.heap [] := va_S.rf
  have hinX0 : ∀ w ∈ u_ws RX0 TX0 10, w ∈ wsX1_isColoured := by decide +kernel
  have hl := lv_entry ([.ref (gX g), .int p0, .int q0]) (n := 3) (Nat.le_of_ble_eq_true rfl)
  rw [lg_entry_eq]
  generalize (lg_sl ([.ref (gX g), .int p0, .int q0]) ++ List.replicate (3 - (lg_sl ([.ref (gX g), .int p0, .int q0])).length) Slot.unset).toArray = ls at hl ⊢
  have hl : lv_has ls 3 [(0, .ref (gX g)), (1, .int p0), (2, .int q0)] := hl
  refine lv_aload_n (pc := 0) hx hb dX1_isColoured_0 rfl (lv_at hl 0 rfl) ?_
  refine lv_iload_n (pc := 1) hx hb dX1_isColoured_1 rfl (lv_at hl 1 rfl) ?_
  refine lv_iload_n (pc := 2) hx hb dX1_isColoured_2 rfl (lv_at hl 2 rfl) ?_
  refine k_xr (pc := 3) (vx_runV (As := [.int p0, .int q0]) (rest := []) ⟨hx, hb, hml, hown, hts⟩ (cX1_voiceWithSign_m l hfl g A σ rest p0 q0 hI) (cwV 2 hts gX1_isColoured_X1_voiceWithSign rfl rfl rfl (by decide +kernel) ⟨Nat.le_of_ble_eq_true rfl, Nat.le_of_ble_eq_true rfl⟩) (cx_V (q0 := 0) (ci := 1) (r := (RX1, TX1, 2)) rfl (cx0 g σ rest) hP hD hA hK hX hS) rfl rfl hl.1 rfl (lv_room (Nat.le_of_ble_eq_true rfl)) dX1_isColoured_3 ⟨Nat.le_of_ble_eq_true rfl, Nat.le_of_ble_eq_true rfl⟩) hno hlocks (fun _ h => h) (Nat.le_of_ble_eq_true rfl) (Nat.le_of_ble_eq_true rfl) (fun r_1 hr_1 => ?_)
  obtain ⟨v, s0, hvn, hs0, rfl, rfl, rfl⟩ := hr_1
  have hv4 : v < 4 := hI.v4 hvn
  have hC := hI.C v
  have hixv : ix (nI v) = v := ix_n (by omega)
  have hixs : ix (nI s0) = s0 := ix_n (by omega)
  have hokv : okV σ (nI v) = true := okV_t hvn hI.N
  have hoks : okS σ v (nI s0) = true := okS_t hs0 hC
  refine va_getN (v := .ref (gA g v 2)) (pc := 6) (D := gD g) (ci := 0) (C := RX0) (T := TX0) (N := 10) hx hb hts hinX0 hown hK hP (2 + 6 * v) (cv0 g σ rest hv4) rfl 7 (by decide) (va_Nw.use rfl (nf_105 hX)) (fun _ h9 => h9) rfl dX1_isColoured_6 ?_
  refine lv_iload_n (pc := 9) hx hb dX1_isColoured_9 rfl (lv_at hl 2 rfl) ?_
  refine k_zald (pc := 10) (x := bI (sR σ v s0)) hx hb hK hP (5 + 6 * v) 1 (cv3 g σ rest hv4) rfl s0 rfl (by omega) (by decide) rfl dX1_isColoured_10 ?_
  refine vx_ret ?_
  refine W.widen (k := 2) (n := 12) (Nat.le_of_ble_eq_true rfl) (Nat.le_of_ble_eq_true rfl) ?_
  exact W.zret (v := bI (sR σ v s0)) hx hb hr (bI_nar _) (fun t ht hW => ⟨_, rfl, ⟨by simp [cdS, hokv, hoks, hixv], by simp only [hixv, hixs]⟩, ht⟩) (fun q hq => absurd hq List.not_mem_nil) dX1_isColoured_11
set_option maxHeartbeats 4000000 in
set_option maxRecDepth 100000 in
/-- placeInLigature -/
theorem cX1_placeInLigature_m (l : Launch) (hfl : l.stackTraces = false) (g : GA) (A : Nat → Prop) (σ : St) (rest : va_W) (p0 : Int32) (q0 : Int32) (hI : Inv σ) : vx_Met l yX1_placeInLigature wsX1_placeInLigature ({ frames := 8, cells := 2, slots := 12, locals := 134 }) (va_Pc [.ref (gX g), .int p0, .int q0] (Cx g A (cw g σ ++ rest))) (vp_Si (fun r : Int32 => cdS σ p0 q0 = 0 ∧ r = sT σ (ix p0) (ix q0))) (kX (fun E => (E = eI ∧ cdS σ p0 q0 = 1))) 2 12 (fun _ => False) := by
  refine vx_ofW (cc := cX1_placeInLigature) (maxL := 3) (ret := (some .int)) (by decide) rfl ?_
  intro p e s m args below meth c s₁ B hml hno hv0
  obtain ⟨rfl, hP, hD, hA, hK, hX⟩ := hv0
  have hx := B.exec
  have hb := B.bytes
  have hr := B.returns
  have hts := atoms_spec (ws := wsX1_placeInLigature) B.pre
  have hown : s.vm.findClass RX1 = some m.cls := findClass_of_methodNamed B.named
  have hlocks := B.notSynchronized
  have hS : va_S A s.heap s.heap [] := va_S.rf
  have hinX0 : ∀ w ∈ u_ws RX0 TX0 10, w ∈ wsX1_placeInLigature := by decide +kernel
  have hl := lv_entry ([.ref (gX g), .int p0, .int q0]) (n := 3) (Nat.le_of_ble_eq_true rfl)
  rw [lg_entry_eq]
  generalize (lg_sl ([.ref (gX g), .int p0, .int q0]) ++ List.replicate (3 - (lg_sl ([.ref (gX g), .int p0, .int q0])).length) Slot.unset).toArray = ls at hl ⊢
  have hl : lv_has ls 3 [(0, .ref (gX g)), (1, .int p0), (2, .int q0)] := hl
  refine lv_aload_n (pc := 0) hx hb dX1_placeInLigature_0 rfl (lv_at hl 0 rfl) ?_
  refine lv_iload_n (pc := 1) hx hb dX1_placeInLigature_1 rfl (lv_at hl 1 rfl) ?_
  refine lv_iload_n (pc := 2) hx hb dX1_placeInLigature_2 rfl (lv_at hl 2 rfl) ?_
  refine k_xr (pc := 3) (vx_runV (As := [.int p0, .int q0]) (rest := []) ⟨hx, hb, hml, hown, hts⟩ (cX1_voiceWithSign_m l hfl g A σ rest p0 q0 hI) (cwV 2 hts gX1_placeInLigature_X1_voiceWithSign rfl rfl rfl (by decide +kernel) ⟨Nat.le_of_ble_eq_true rfl, Nat.le_of_ble_eq_true rfl⟩) (cx_V (q0 := 0) (ci := 1) (r := (RX1, TX1, 2)) rfl (cx0 g σ rest) hP hD hA hK hX hS) rfl rfl hl.1 rfl (lv_room (Nat.le_of_ble_eq_true rfl)) dX1_placeInLigature_3 ⟨Nat.le_of_ble_eq_true rfl, Nat.le_of_ble_eq_true rfl⟩) hno hlocks (fun _ h => h) (Nat.le_of_ble_eq_true rfl) (Nat.le_of_ble_eq_true rfl) (fun r_1 hr_1 => ?_)
  obtain ⟨v, s0, hvn, hs0, rfl, rfl, rfl⟩ := hr_1
  have hv4 : v < 4 := hI.v4 hvn
  have hC := hI.C v
  have hixv : ix (nI v) = v := ix_n (by omega)
  have hixs : ix (nI s0) = s0 := ix_n (by omega)
  have hokv : okV σ (nI v) = true := okV_t hvn hI.N
  have hoks : okS σ v (nI s0) = true := okS_t hs0 hC
  refine va_getN (v := .ref (gA g v 3)) (pc := 6) (D := gD g) (ci := 0) (C := RX0) (T := TX0) (N := 10) hx hb hts hinX0 hown hK hP (2 + 6 * v) (cv0 g σ rest hv4) rfl 8 (by decide) (va_Nw.use rfl (nf_109 hX)) (fun _ h9 => h9) rfl dX1_placeInLigature_6 ?_
  refine lv_iload_n (pc := 9) hx hb dX1_placeInLigature_9 rfl (lv_at hl 2 rfl) ?_
  refine k_iald (pc := 10) (x := sT σ v s0) hx hb hK hP (6 + 6 * v) 0 (cv4 g σ rest hv4) rfl s0 rfl (by omega) (by decide) rfl dX1_placeInLigature_10 ?_
  refine vx_ret ?_
  refine W.widen (k := 2) (n := 12) (Nat.le_of_ble_eq_true rfl) (Nat.le_of_ble_eq_true rfl) ?_
  exact W.iret hx hb hr (fun t ht hW => ⟨_, rfl, ⟨by simp [cdS, hokv, hoks, hixv], by simp only [hixv, hixs]⟩, ht⟩) (fun q hq => absurd hq List.not_mem_nil) dX1_placeInLigature_11
set_option maxHeartbeats 4000000 in
set_option maxRecDepth 100000 in
/-- lengthOf -/
theorem cX1_lengthOf_m (l : Launch) (hfl : l.stackTraces = false) (g : GA) (A : Nat → Prop) (σ : St) (rest : va_W) (p0 : Int32) (q0 : Int32) (hI : Inv σ) : vx_Met l yX1_lengthOf wsX1_lengthOf ({ frames := 8, cells := 2, slots := 12, locals := 134 }) (va_Pc [.ref (gX g), .int p0, .int q0] (Cx g A (cw g σ ++ rest))) (vp_Si (fun r : Int32 => cdS σ p0 q0 = 0 ∧ r = nI (lg σ (ix p0) (ix q0)))) (kX (fun E => (E = eI ∧ cdS σ p0 q0 = 1))) 2 12 (fun _ => False) := by
  refine vx_ofW (cc := cX1_lengthOf) (maxL := 3) (ret := (some .int)) (by decide) rfl ?_
  intro p e s m args below meth c s₁ B hml hno hv0
  obtain ⟨rfl, hP, hD, hA, hK, hX⟩ := hv0
  have hx := B.exec
  have hb := B.bytes
  have hr := B.returns
  have hts := atoms_spec (ws := wsX1_lengthOf) B.pre
  have hown : s.vm.findClass RX1 = some m.cls := findClass_of_methodNamed B.named
  have hlocks := B.notSynchronized
  have hS : va_S A s.heap s.heap [] := va_S.rf
  have hl := lv_entry ([.ref (gX g), .int p0, .int q0]) (n := 3) (Nat.le_of_ble_eq_true rfl)
  rw [lg_entry_eq]
  generalize (lg_sl ([.ref (gX g), .int p0, .int q0]) ++ List.replicate (3 - (lg_sl ([.ref (gX g), .int p0, .int q0])).length) Slot.unset).toArray = ls at hl ⊢
  have hl : lv_has ls 3 [(0, .ref (gX g)), (1, .int p0), (2, .int q0)] := hl
  refine lv_aload_n (pc := 0) hx hb dX1_lengthOf_0 rfl (lv_at hl 0 rfl) ?_
  refine lv_iload_n (pc := 1) hx hb dX1_lengthOf_1 rfl (lv_at hl 1 rfl) ?_
  refine lv_iload_n (pc := 2) hx hb dX1_lengthOf_2 rfl (lv_at hl 2 rfl) ?_
  refine k_xr (pc := 3) (vx_runV (As := [.int p0, .int q0]) (rest := []) ⟨hx, hb, hml, hown, hts⟩ (cX1_voiceWithSign_m l hfl g A σ rest p0 q0 hI) (cwV 2 hts gX1_lengthOf_X1_voiceWithSign rfl rfl rfl (by decide +kernel) ⟨Nat.le_of_ble_eq_true rfl, Nat.le_of_ble_eq_true rfl⟩) (cx_V (q0 := 0) (ci := 1) (r := (RX1, TX1, 2)) rfl (cx0 g σ rest) hP hD hA hK hX hS) rfl rfl hl.1 rfl (lv_room (Nat.le_of_ble_eq_true rfl)) dX1_lengthOf_3 ⟨Nat.le_of_ble_eq_true rfl, Nat.le_of_ble_eq_true rfl⟩) hno hlocks (fun _ h => h) (Nat.le_of_ble_eq_true rfl) (Nat.le_of_ble_eq_true rfl) (fun r_1 hr_1 => ?_)
  obtain ⟨v, s0, hvn, hs0, rfl, rfl, rfl⟩ := hr_1
  have hv4 : v < 4 := hI.v4 hvn
  have hC := hI.C v
  have hixv : ix (nI v) = v := ix_n (by omega)
  have hixs : ix (nI s0) = s0 := ix_n (by omega)
  have hokv : okV σ (nI v) = true := okV_t hvn hI.N
  have hoks : okS σ v (nI s0) = true := okS_t hs0 hC
  refine lv_iload_n (pc := 6) hx hb dX1_lengthOf_6 rfl (lv_at hl 2 rfl) ?_
  refine k_ri (pc := 7) (va_runVN (As := [.int (nI s0)]) (rest := []) ⟨hx, hb, hml, hown, hts⟩ (cX0_minimsOf_m l g A σ rest v s0 hv4 hI hs0) ⟨va_cnB 1 hts gX1_lengthOf_X0_minimsOf_n112 rfl rfl rfl (nm_112 hX) (hts (.initialized RX0) (by decide +kernel)) (by decide +kernel) ⟨Nat.le_of_ble_eq_true rfl, Nat.le_of_ble_eq_true rfl⟩, hts (.instanceMethod yX0_minimsOf) (by decide +kernel), hts (.selects RX0 yX0_minimsOf yX0_minimsOf) (by decide +kernel)⟩ (cx_V (q0 := (2 + 6 * v)) (ci := 0) (r := (RX0, TX0, 10)) rfl (cv0 g σ rest hv4) hP hD hA hK hX hS) rfl rfl hl.1 rfl (lv_room (Nat.le_of_ble_eq_true rfl)) dX1_lengthOf_7 ⟨Nat.le_of_ble_eq_true rfl, Nat.le_of_ble_eq_true rfl⟩) (fun r_2 hr_2 => ?_)
  subst hr_2
  refine vx_ret ?_
  refine W.widen (k := 2) (n := 12) (Nat.le_of_ble_eq_true rfl) (Nat.le_of_ble_eq_true rfl) ?_
  exact W.iret hx hb hr (fun t ht hW => ⟨_, rfl, ⟨by simp [cdS, hokv, hoks, hixv], by simp only [hixv, hixs]⟩, ht⟩) (fun q hq => absurd hq List.not_mem_nil) dX1_lengthOf_10
set_option maxHeartbeats 4000000 in
set_option maxRecDepth 100000 in
/-- beginOf -/
theorem cX1_beginOf_m (l : Launch) (hfl : l.stackTraces = false) (g : GA) (A : Nat → Prop) (σ : St) (rest : va_W) (p0 : Int32) (q0 : Int32) (hI : Inv σ) : vx_Met l yX1_beginOf wsX1_beginOf ({ frames := 8, cells := 2, slots := 12, locals := 134 }) (va_Pc [.ref (gX g), .int p0, .int q0] (Cx g A (cw g σ ++ rest))) (vp_Si (fun r : Int32 => cdS σ p0 q0 = 0 ∧ r = nI (bg σ (ix p0) (ix q0)))) (kX (fun E => (E = eI ∧ cdS σ p0 q0 = 1))) 2 12 (fun _ => False) := by
  refine vx_ofW (cc := cX1_beginOf) (maxL := 3) (ret := (some .int)) (by decide) rfl ?_
  intro p e s m args below meth c s₁ B hml hno hv0
  obtain ⟨rfl, hP, hD, hA, hK, hX⟩ := hv0
  have hx := B.exec
  have hb := B.bytes
  have hr := B.returns
  have hts := atoms_spec (ws := wsX1_beginOf) B.pre
  have hown : s.vm.findClass RX1 = some m.cls := findClass_of_methodNamed B.named
  have hlocks := B.notSynchronized
  have hS : va_S A s.heap s.heap [] := va_S.rf
  have hinX0 : ∀ w ∈ u_ws RX0 TX0 10, w ∈ wsX1_beginOf := by decide +kernel
  have hl := lv_entry ([.ref (gX g), .int p0, .int q0]) (n := 3) (Nat.le_of_ble_eq_true rfl)
  rw [lg_entry_eq]
  generalize (lg_sl ([.ref (gX g), .int p0, .int q0]) ++ List.replicate (3 - (lg_sl ([.ref (gX g), .int p0, .int q0])).length) Slot.unset).toArray = ls at hl ⊢
  have hl : lv_has ls 3 [(0, .ref (gX g)), (1, .int p0), (2, .int q0)] := hl
  refine lv_aload_n (pc := 0) hx hb dX1_beginOf_0 rfl (lv_at hl 0 rfl) ?_
  refine lv_iload_n (pc := 1) hx hb dX1_beginOf_1 rfl (lv_at hl 1 rfl) ?_
  refine lv_iload_n (pc := 2) hx hb dX1_beginOf_2 rfl (lv_at hl 2 rfl) ?_
  refine k_xr (pc := 3) (vx_runV (As := [.int p0, .int q0]) (rest := []) ⟨hx, hb, hml, hown, hts⟩ (cX1_voiceWithSign_m l hfl g A σ rest p0 q0 hI) (cwV 2 hts gX1_beginOf_X1_voiceWithSign rfl rfl rfl (by decide +kernel) ⟨Nat.le_of_ble_eq_true rfl, Nat.le_of_ble_eq_true rfl⟩) (cx_V (q0 := 0) (ci := 1) (r := (RX1, TX1, 2)) rfl (cx0 g σ rest) hP hD hA hK hX hS) rfl rfl hl.1 rfl (lv_room (Nat.le_of_ble_eq_true rfl)) dX1_beginOf_3 ⟨Nat.le_of_ble_eq_true rfl, Nat.le_of_ble_eq_true rfl⟩) hno hlocks (fun _ h => h) (Nat.le_of_ble_eq_true rfl) (Nat.le_of_ble_eq_true rfl) (fun r_1 hr_1 => ?_)
  obtain ⟨v, s0, hvn, hs0, rfl, rfl, rfl⟩ := hr_1
  have hv4 : v < 4 := hI.v4 hvn
  have hC := hI.C v
  have hixv : ix (nI v) = v := ix_n (by omega)
  have hixs : ix (nI s0) = s0 := ix_n (by omega)
  have hokv : okV σ (nI v) = true := okV_t hvn hI.N
  have hoks : okS σ v (nI s0) = true := okS_t hs0 hC
  refine va_getN (v := .ref (gA g v 4)) (pc := 6) (D := gD g) (ci := 0) (C := RX0) (T := TX0) (N := 10) hx hb hts hinX0 hown hK hP (2 + 6 * v) (cv0 g σ rest hv4) rfl 9 (by decide) (va_Nw.use rfl (nf_116 hX)) (fun _ h9 => h9) rfl dX1_beginOf_6 ?_
  refine lv_iload_n (pc := 9) hx hb dX1_beginOf_9 rfl (lv_at hl 2 rfl) ?_
  refine k_iald (pc := 10) (x := sB σ v s0) hx hb hK hP (7 + 6 * v) 0 (cv5 g σ rest hv4) rfl s0 rfl (by omega) (by decide) rfl dX1_beginOf_10 ?_
  refine k_cong (y := nI (bg σ v s0)) (hI.B (by omega)) ?_
  refine vx_ret ?_
  refine W.widen (k := 2) (n := 12) (Nat.le_of_ble_eq_true rfl) (Nat.le_of_ble_eq_true rfl) ?_
  exact W.iret hx hb hr (fun t ht hW => ⟨_, rfl, ⟨by simp [cdS, hokv, hoks, hixv], by simp only [hixv, hixs]⟩, ht⟩) (fun q hq => absurd hq List.not_mem_nil) dX1_beginOf_11
set_option maxHeartbeats 4000000 in
set_option maxRecDepth 100000 in
/-- signAt -/
theorem cX1_signAt_m (l : Launch) (hfl : l.stackTraces = false) (g : GA) (A : Nat → Prop) (σ : St) (rest : va_W) (p0 : Int32) (t0 : Int32) (hI : Inv σ) : vx_Met l yX1_signAt wsX1_signAt ({ frames := 7, cells := 2, slots := 12, locals := 112 }) (va_Pc [.ref (gX g), .int p0, .int t0] (Cx g A (cw g σ ++ rest))) (vp_Si (fun r : Int32 => cdVR σ p0 (!decide (t0 < 0)) = 0 ∧ r = sgAt σ (ix p0) t0 (sC σ (ix p0)))) (kX (fun E => (E = eI ∧ cdVR σ p0 (!decide (t0 < 0)) = 1) ∨ (E = eA ∧ cdVR σ p0 (!decide (t0 < 0)) = 2))) 2 12 (fun _ => False) := by
  refine vx_ofW (cc := cX1_signAt) (maxL := 4) (ret := (some .int)) (by decide) rfl ?_
  intro p e s m args below meth c s₁ B hml hno hv0
  obtain ⟨rfl, hP, hD, hA, hK, hX⟩ := hv0
  have hx := B.exec
  have hb := B.bytes
  have hr := B.returns
  have hts := atoms_spec (ws := wsX1_signAt) B.pre
  have hown : s.vm.findClass RX1 = some m.cls := findClass_of_methodNamed B.named
  have hlocks := B.notSynchronized
  have hS : va_S A s.heap s.heap [] := va_S.rf
  have hl := lv_entry ([.ref (gX g), .int p0, .int t0]) (n := 4) (Nat.le_of_ble_eq_true rfl)
  rw [lg_entry_eq]
  generalize (lg_sl ([.ref (gX g), .int p0, .int t0]) ++ List.replicate (4 - (lg_sl ([.ref (gX g), .int p0, .int t0])).length) Slot.unset).toArray = ls at hl ⊢
  have hl : lv_has ls 4 [(0, .ref (gX g)), (1, .int p0), (2, .int t0)] := hl
  refine lv_aload_n (pc := 0) hx hb dX1_signAt_0 rfl (lv_at hl 0 rfl) ?_
  refine lv_iload_n (pc := 1) hx hb dX1_signAt_1 rfl (lv_at hl 1 rfl) ?_
  refine k_xr (pc := 2) (vx_runV (As := [.int p0]) (rest := []) ⟨hx, hb, hml, hown, hts⟩ (cX1_knownVoice_m l hfl g A σ rest p0 hI) (cwV 1 hts gX1_signAt_X1_knownVoice rfl rfl rfl (by decide +kernel) ⟨Nat.le_of_ble_eq_true rfl, Nat.le_of_ble_eq_true rfl⟩) (cx_V (q0 := 0) (ci := 1) (r := (RX1, TX1, 2)) rfl (cx0 g σ rest) hP hD hA hK hX hS) rfl rfl hl.1 rfl (lv_room (Nat.le_of_ble_eq_true rfl)) dX1_signAt_2 ⟨Nat.le_of_ble_eq_true rfl, Nat.le_of_ble_eq_true rfl⟩) hno hlocks (fun E h => Or.inl ⟨h.1, by simp [cdVR, h.2]⟩) (Nat.le_of_ble_eq_true rfl) (Nat.le_of_ble_eq_true rfl) (fun r_1 hr_1 => ?_)
  obtain ⟨v, hvn, rfl, rfl⟩ := hr_1
  have hv4 : v < 4 := hI.v4 hvn
  have hixv : ix (nI v) = v := ix_n (by omega)
  have hokv : okV σ (nI v) = true := okV_t hvn hI.N
  refine lv_astore_n (lv' := [(3, .ref (gV g v)), (0, .ref (gX g)), (1, .int (nI v)), (2, .int t0)]) (pc := 5) hx hb dX1_signAt_5 rfl hl (by decide) rfl (fun ls hl => ?_)
  refine lv_iload_n (pc := 6) hx hb dX1_signAt_6 rfl (lv_at hl 3 rfl) ?_
  refine lv_iconst (v := 0) (pc := 7) hx hb dX1_signAt_7 (by decide) ?_
  refine lv_ldc (pc := 8) (v := 2147483647) hx hb hown (hts (.constant RX1 126 2147483647) (by decide +kernel)) dX1_signAt_8 ?_
  refine k_xv (pc := 10) (vx_runS (As := [.int t0, .int 0, .int 2147483647]) (rest := []) ⟨hx, hb, hml, hown, hts⟩ (cX1_checkRange_m l hfl g A σ rest t0 0 2147483647) (va_cwS 3 hts gX1_signAt_X1_checkRange rfl rfl rfl (by decide +kernel) ⟨Nat.le_of_ble_eq_true rfl, Nat.le_of_ble_eq_true rfl⟩) (cx_S hP hD hA hK hX hS) rfl rfl hl.1 rfl (lv_room (Nat.le_of_ble_eq_true rfl)) dX1_signAt_10 ⟨Nat.le_of_ble_eq_true rfl, Nat.le_of_ble_eq_true rfl⟩) hno hlocks (fun E h => Or.inr ⟨h.1, by simp only [cdVR, hokv]; rw [← inr_max, h.2]; rfl⟩) (Nat.le_of_ble_eq_true rfl) (Nat.le_of_ble_eq_true rfl) (fun hk1 => ?_)
  refine lv_aload_n (pc := 13) hx hb dX1_signAt_13 rfl (lv_at hl 0 rfl) ?_
  refine lv_iload_n (pc := 14) hx hb dX1_signAt_14 rfl (lv_at hl 3 rfl) ?_
  refine k_ri (pc := 15) (va_runVN (As := [.int t0]) (rest := []) ⟨hx, hb, hml, hown, hts⟩ (cX0_signLastingAt_m l g A σ rest v t0 hv4 hI) ⟨va_cnB 1 hts gX1_signAt_X0_signLastingAt_n127 rfl rfl rfl (nm_127 hX) (hts (.initialized RX0) (by decide +kernel)) (by decide +kernel) ⟨Nat.le_of_ble_eq_true rfl, Nat.le_of_ble_eq_true rfl⟩, hts (.instanceMethod yX0_signLastingAt) (by decide +kernel), hts (.selects RX0 yX0_signLastingAt yX0_signLastingAt) (by decide +kernel)⟩ (cx_V (q0 := (2 + 6 * v)) (ci := 0) (r := (RX0, TX0, 10)) rfl (cv0 g σ rest hv4) hP hD hA hK hX hS) rfl rfl hl.1 rfl (lv_room (Nat.le_of_ble_eq_true rfl)) dX1_signAt_15 ⟨Nat.le_of_ble_eq_true rfl, Nat.le_of_ble_eq_true rfl⟩) (fun r_3 hr_3 => ?_)
  subst hr_3
  refine vx_ret ?_
  refine W.widen (k := 2) (n := 12) (Nat.le_of_ble_eq_true rfl) (Nat.le_of_ble_eq_true rfl) ?_
  exact W.iret hx hb hr (fun t ht hW => ⟨_, rfl, ⟨by simp only [cdVR, hokv]; rw [← inr_max, hk1]; rfl, by simp only [hixv]⟩, ht⟩) (fun q hq => absurd hq List.not_mem_nil) dX1_signAt_18
set_option maxHeartbeats 4000000 in
set_option maxRecDepth 100000 in
/-- fits -/
theorem cX1_fits_m (l : Launch) (hfl : l.stackTraces = false) (g : GA) (A : Nat → Prop) (σ : St) (rest : va_W) (p0 : Int32) (c0 : Int32) (hI : Inv σ) : vx_Met l yX1_fits wsX1_fits ({ frames := 7, cells := 2, slots := 12, locals := 112 }) (va_Pc [.ref (gX g), .int p0, .int c0] (Cx g A (cw g σ ++ rest))) (vp_Si (fun r : Int32 => cdVR σ p0 (inr 0 5 c0) = 0 ∧ r = bI (ft σ (ix p0) c0))) (kX (fun E => (E = eI ∧ cdVR σ p0 (inr 0 5 c0) = 1) ∨ (E = eA ∧ cdVR σ p0 (inr 0 5 c0) = 2))) 2 12 (fun _ => False) := by
  refine vx_ofW (cc := cX1_fits) (maxL := 4) (ret := (some .boolean)) (by decide) rfl ?_
  intro p e s m args below meth c s₁ B hml hno hv0
  obtain ⟨rfl, hP, hD, hA, hK, hX⟩ := hv0
  have hx := B.exec
  have hb := B.bytes
  have hr := B.returns
  have hts := atoms_spec (ws := wsX1_fits) B.pre
  have hown : s.vm.findClass RX1 = some m.cls := findClass_of_methodNamed B.named
  have hlocks := B.notSynchronized
  have hS : va_S A s.heap s.heap [] := va_S.rf
  have hl := lv_entry ([.ref (gX g), .int p0, .int c0]) (n := 4) (Nat.le_of_ble_eq_true rfl)
  rw [lg_entry_eq]
  generalize (lg_sl ([.ref (gX g), .int p0, .int c0]) ++ List.replicate (4 - (lg_sl ([.ref (gX g), .int p0, .int c0])).length) Slot.unset).toArray = ls at hl ⊢
  have hl : lv_has ls 4 [(0, .ref (gX g)), (1, .int p0), (2, .int c0)] := hl
  refine lv_aload_n (pc := 0) hx hb dX1_fits_0 rfl (lv_at hl 0 rfl) ?_
  refine lv_iload_n (pc := 1) hx hb dX1_fits_1 rfl (lv_at hl 1 rfl) ?_
  refine k_xr (pc := 2) (vx_runV (As := [.int p0]) (rest := []) ⟨hx, hb, hml, hown, hts⟩ (cX1_knownVoice_m l hfl g A σ rest p0 hI) (cwV 1 hts gX1_fits_X1_knownVoice rfl rfl rfl (by decide +kernel) ⟨Nat.le_of_ble_eq_true rfl, Nat.le_of_ble_eq_true rfl⟩) (cx_V (q0 := 0) (ci := 1) (r := (RX1, TX1, 2)) rfl (cx0 g σ rest) hP hD hA hK hX hS) rfl rfl hl.1 rfl (lv_room (Nat.le_of_ble_eq_true rfl)) dX1_fits_2 ⟨Nat.le_of_ble_eq_true rfl, Nat.le_of_ble_eq_true rfl⟩) hno hlocks (fun E h => Or.inl ⟨h.1, by simp [cdVR, h.2]⟩) (Nat.le_of_ble_eq_true rfl) (Nat.le_of_ble_eq_true rfl) (fun r_1 hr_1 => ?_)
  obtain ⟨v, hvn, rfl, rfl⟩ := hr_1
  have hv4 : v < 4 := hI.v4 hvn
  have hixv : ix (nI v) = v := ix_n (by omega)
  have hokv : okV σ (nI v) = true := okV_t hvn hI.N
  refine lv_astore_n (lv' := [(3, .ref (gV g v)), (0, .ref (gX g)), (1, .int (nI v)), (2, .int c0)]) (pc := 5) hx hb dX1_fits_5 rfl hl (by decide) rfl (fun ls hl => ?_)
  refine lv_iload_n (pc := 6) hx hb dX1_fits_6 rfl (lv_at hl 3 rfl) ?_
  refine lv_iconst (v := 0) (pc := 7) hx hb dX1_fits_7 (by decide) ?_
  refine lv_iconst (v := 5) (pc := 8) hx hb dX1_fits_8 (by decide) ?_
  refine k_xv (pc := 9) (vx_runS (As := [.int c0, .int 0, .int 5]) (rest := []) ⟨hx, hb, hml, hown, hts⟩ (cX1_checkRange_m l hfl g A σ rest c0 0 5) (va_cwS 3 hts gX1_fits_X1_checkRange rfl rfl rfl (by decide +kernel) ⟨Nat.le_of_ble_eq_true rfl, Nat.le_of_ble_eq_true rfl⟩) (cx_S hP hD hA hK hX hS) rfl rfl hl.1 rfl (lv_room (Nat.le_of_ble_eq_true rfl)) dX1_fits_9 ⟨Nat.le_of_ble_eq_true rfl, Nat.le_of_ble_eq_true rfl⟩) hno hlocks (fun E h => Or.inr ⟨h.1, by simp only [cdVR, hokv, h.2]; rfl⟩) (Nat.le_of_ble_eq_true rfl) (Nat.le_of_ble_eq_true rfl) (fun hk1 => ?_)
  refine lv_aload_n (pc := 12) hx hb dX1_fits_12 rfl (lv_at hl 0 rfl) ?_
  refine lv_iload_n (pc := 13) hx hb dX1_fits_13 rfl (lv_at hl 3 rfl) ?_
  refine k_ri (pc := 14) (va_runVN (As := [.int c0]) (rest := []) ⟨hx, hb, hml, hown, hts⟩ (cX0_wouldFit_m l g A σ rest v c0 hv4 hI) ⟨va_cnB 1 hts gX1_fits_X0_wouldFit_n134 rfl rfl rfl (nm_134 hX) (hts (.initialized RX0) (by decide +kernel)) (by decide +kernel) ⟨Nat.le_of_ble_eq_true rfl, Nat.le_of_ble_eq_true rfl⟩, hts (.instanceMethod yX0_wouldFit) (by decide +kernel), hts (.selects RX0 yX0_wouldFit yX0_wouldFit) (by decide +kernel)⟩ (cx_V (q0 := (2 + 6 * v)) (ci := 0) (r := (RX0, TX0, 10)) rfl (cv0 g σ rest hv4) hP hD hA hK hX hS) rfl rfl hl.1 rfl (lv_room (Nat.le_of_ble_eq_true rfl)) dX1_fits_14 ⟨Nat.le_of_ble_eq_true rfl, Nat.le_of_ble_eq_true rfl⟩) (fun r_3 hr_3 => ?_)
  subst hr_3
  refine vx_ret ?_
  refine W.widen (k := 2) (n := 12) (Nat.le_of_ble_eq_true rfl) (Nat.le_of_ble_eq_true rfl) ?_
  exact W.zret (v := bI (ft σ v c0)) hx hb hr (bI_nar _) (fun t ht hW => ⟨_, rfl, ⟨by simp only [cdVR, hokv, hk1]; rfl, by simp only [hixv]⟩, ht⟩) (fun q hq => absurd hq List.not_mem_nil) dX1_fits_17
set_option maxHeartbeats 4000000 in
set_option maxRecDepth 100000 in
/-- clashesWith -/
theorem cX1_clashesWith_m (l : Launch) (hfl : l.stackTraces = false) (g : GA) (A : Nat → Prop) (σ : St) (rest : va_W) (p0 : Int32) (c0 : Int32) (hI : Inv σ) : vx_Met l yX1_clashesWith wsX1_clashesWith ({ frames := 7, cells := 2, slots := 12, locals := 112 }) (va_Pc [.ref (gX g), .int p0, .int c0] (Cx g A (cw g σ ++ rest))) (vp_Si (fun r : Int32 => cdVR σ p0 (inr 0 5 c0) = 0 ∧ r = nI (cwN σ (ix p0) c0))) (kX (fun E => (E = eI ∧ cdVR σ p0 (inr 0 5 c0) = 1) ∨ (E = eA ∧ cdVR σ p0 (inr 0 5 c0) = 2))) 2 12 (fun _ => False) := by
  refine vx_ofW (cc := cX1_clashesWith) (maxL := 4) (ret := (some .int)) (by decide) rfl ?_
  intro p e s m args below meth c s₁ B hml hno hv0
  obtain ⟨rfl, hP, hD, hA, hK, hX⟩ := hv0
  have hx := B.exec
  have hb := B.bytes
  have hr := B.returns
  have hts := atoms_spec (ws := wsX1_clashesWith) B.pre
  have hown : s.vm.findClass RX1 = some m.cls := findClass_of_methodNamed B.named
  have hlocks := B.notSynchronized
  have hS : va_S A s.heap s.heap [] := va_S.rf
  have hl := lv_entry ([.ref (gX g), .int p0, .int c0]) (n := 4) (Nat.le_of_ble_eq_true rfl)
  rw [lg_entry_eq]
  generalize (lg_sl ([.ref (gX g), .int p0, .int c0]) ++ List.replicate (4 - (lg_sl ([.ref (gX g), .int p0, .int c0])).length) Slot.unset).toArray = ls at hl ⊢
  have hl : lv_has ls 4 [(0, .ref (gX g)), (1, .int p0), (2, .int c0)] := hl
  refine lv_aload_n (pc := 0) hx hb dX1_clashesWith_0 rfl (lv_at hl 0 rfl) ?_
  refine lv_iload_n (pc := 1) hx hb dX1_clashesWith_1 rfl (lv_at hl 1 rfl) ?_
  refine k_xr (pc := 2) (vx_runV (As := [.int p0]) (rest := []) ⟨hx, hb, hml, hown, hts⟩ (cX1_knownVoice_m l hfl g A σ rest p0 hI) (cwV 1 hts gX1_clashesWith_X1_knownVoice rfl rfl rfl (by decide +kernel) ⟨Nat.le_of_ble_eq_true rfl, Nat.le_of_ble_eq_true rfl⟩) (cx_V (q0 := 0) (ci := 1) (r := (RX1, TX1, 2)) rfl (cx0 g σ rest) hP hD hA hK hX hS) rfl rfl hl.1 rfl (lv_room (Nat.le_of_ble_eq_true rfl)) dX1_clashesWith_2 ⟨Nat.le_of_ble_eq_true rfl, Nat.le_of_ble_eq_true rfl⟩) hno hlocks (fun E h => Or.inl ⟨h.1, by simp [cdVR, h.2]⟩) (Nat.le_of_ble_eq_true rfl) (Nat.le_of_ble_eq_true rfl) (fun r_1 hr_1 => ?_)
  obtain ⟨v, hvn, rfl, rfl⟩ := hr_1
  have hv4 : v < 4 := hI.v4 hvn
  have hixv : ix (nI v) = v := ix_n (by omega)
  have hokv : okV σ (nI v) = true := okV_t hvn hI.N
  refine lv_astore_n (lv' := [(3, .ref (gV g v)), (0, .ref (gX g)), (1, .int (nI v)), (2, .int c0)]) (pc := 5) hx hb dX1_clashesWith_5 rfl hl (by decide) rfl (fun ls hl => ?_)
  refine lv_iload_n (pc := 6) hx hb dX1_clashesWith_6 rfl (lv_at hl 3 rfl) ?_
  refine lv_iconst (v := 0) (pc := 7) hx hb dX1_clashesWith_7 (by decide) ?_
  refine lv_iconst (v := 5) (pc := 8) hx hb dX1_clashesWith_8 (by decide) ?_
  refine k_xv (pc := 9) (vx_runS (As := [.int c0, .int 0, .int 5]) (rest := []) ⟨hx, hb, hml, hown, hts⟩ (cX1_checkRange_m l hfl g A σ rest c0 0 5) (va_cwS 3 hts gX1_clashesWith_X1_checkRange rfl rfl rfl (by decide +kernel) ⟨Nat.le_of_ble_eq_true rfl, Nat.le_of_ble_eq_true rfl⟩) (cx_S hP hD hA hK hX hS) rfl rfl hl.1 rfl (lv_room (Nat.le_of_ble_eq_true rfl)) dX1_clashesWith_9 ⟨Nat.le_of_ble_eq_true rfl, Nat.le_of_ble_eq_true rfl⟩) hno hlocks (fun E h => Or.inr ⟨h.1, by simp only [cdVR, hokv, h.2]; rfl⟩) (Nat.le_of_ble_eq_true rfl) (Nat.le_of_ble_eq_true rfl) (fun hk1 => ?_)
  refine lv_aload_n (pc := 12) hx hb dX1_clashesWith_12 rfl (lv_at hl 1 rfl) ?_
  refine lv_aload_n (pc := 13) hx hb dX1_clashesWith_13 rfl (lv_at hl 0 rfl) ?_
  refine lv_iload_n (pc := 14) hx hb dX1_clashesWith_14 rfl (lv_at hl 3 rfl) ?_
  refine k_ri (pc := 15) (va_runV (As := [.ref (gV g v), .int c0]) (rest := []) ⟨hx, hb, hml, hown, hts⟩ (cX1_clashesIfClef_m l g A σ rest v c0 hv4 hI) (cwV 2 hts gX1_clashesWith_X1_clashesIfClef rfl rfl rfl (by decide +kernel) ⟨Nat.le_of_ble_eq_true rfl, Nat.le_of_ble_eq_true rfl⟩) (cx_V (q0 := 0) (ci := 1) (r := (RX1, TX1, 2)) rfl (cx0 g σ rest) hP hD hA hK hX hS) rfl rfl hl.1 rfl (lv_room (Nat.le_of_ble_eq_true rfl)) dX1_clashesWith_15 ⟨Nat.le_of_ble_eq_true rfl, Nat.le_of_ble_eq_true rfl⟩) (fun r_3 hr_3 => ?_)
  subst hr_3
  refine vx_ret ?_
  refine W.widen (k := 2) (n := 12) (Nat.le_of_ble_eq_true rfl) (Nat.le_of_ble_eq_true rfl) ?_
  exact W.iret hx hb hr (fun t ht hW => ⟨_, rfl, ⟨by simp only [cdVR, hokv, hk1]; rfl, by simp only [hixv]⟩, ht⟩) (fun q hq => absurd hq List.not_mem_nil) dX1_clashesWith_18
set_option maxHeartbeats 4000000 in
set_option maxRecDepth 100000 in
/-- bestClef -/
theorem cX1_bestClef_m (l : Launch) (hfl : l.stackTraces = false) (g : GA) (A : Nat → Prop) (σ : St) (rest : va_W) (p0 : Int32) (hI : Inv σ) : vx_Met l yX1_bestClef wsX1_bestClef ({ frames := 7, cells := 1, slots := 6, locals := 126 }) (va_Pc [.ref (gX g), .int p0] (Cx g A (cw g σ ++ rest))) (vp_Si (fun r : Int32 => cdV σ p0 = 0 ∧ r = bcl σ (ix p0))) (kX (fun E => (E = eI ∧ cdV σ p0 = 1))) 1 6 (fun _ => False) := by
  refine vx_ofW (cc := cX1_bestClef) (maxL := 2) (ret := (some .int)) (by decide) rfl ?_
  intro p e s m args below meth c s₁ B hml hno hv0
  obtain ⟨rfl, hP, hD, hA, hK, hX⟩ := hv0
  have hx := B.exec
  have hb := B.bytes
  have hr := B.returns
  have hts := atoms_spec (ws := wsX1_bestClef) B.pre
  have hown : s.vm.findClass RX1 = some m.cls := findClass_of_methodNamed B.named
  have hlocks := B.notSynchronized
  have hS : va_S A s.heap s.heap [] := va_S.rf
  have hl := lv_entry ([.ref (gX g), .int p0]) (n := 2) (Nat.le_of_ble_eq_true rfl)
  rw [lg_entry_eq]
  generalize (lg_sl ([.ref (gX g), .int p0]) ++ List.replicate (2 - (lg_sl ([.ref (gX g), .int p0])).length) Slot.unset).toArray = ls at hl ⊢
  have hl : lv_has ls 2 [(0, .ref (gX g)), (1, .int p0)] := hl
  refine lv_aload_n (pc := 0) hx hb dX1_bestClef_0 rfl (lv_at hl 0 rfl) ?_
  refine lv_aload_n (pc := 1) hx hb dX1_bestClef_1 rfl (lv_at hl 0 rfl) ?_
  refine lv_iload_n (pc := 2) hx hb dX1_bestClef_2 rfl (lv_at hl 1 rfl) ?_
  refine k_xr (pc := 3) (vx_runV (As := [.int p0]) (rest := [.ref (gX g)]) ⟨hx, hb, hml, hown, hts⟩ (cX1_knownVoice_m l hfl g A σ rest p0 hI) (cwV 1 hts gX1_bestClef_X1_knownVoice rfl rfl rfl (by decide +kernel) ⟨Nat.le_of_ble_eq_true rfl, Nat.le_of_ble_eq_true rfl⟩) (cx_V (q0 := 0) (ci := 1) (r := (RX1, TX1, 2)) rfl (cx0 g σ rest) hP hD hA hK hX hS) rfl rfl hl.1 rfl (lv_room (Nat.le_of_ble_eq_true rfl)) dX1_bestClef_3 ⟨Nat.le_of_ble_eq_true rfl, Nat.le_of_ble_eq_true rfl⟩) hno hlocks (fun E h => ⟨h.1, by simp [cdV, h.2]⟩) (Nat.le_of_ble_eq_true rfl) (Nat.le_of_ble_eq_true rfl) (fun r_1 hr_1 => ?_)
  obtain ⟨v, hvn, rfl, rfl⟩ := hr_1
  have hv4 : v < 4 := hI.v4 hvn
  have hixv : ix (nI v) = v := ix_n (by omega)
  have hokv : okV σ (nI v) = true := okV_t hvn hI.N
  refine k_ri (pc := 6) (va_runV (As := [.ref (gV g v)]) (rest := []) ⟨hx, hb, hml, hown, hts⟩ (cX1_clefWithFewestClashes_m l g A σ rest v hv4 hI) (cwV 1 hts gX1_bestClef_X1_clefWithFewestClashes rfl rfl rfl (by decide +kernel) ⟨Nat.le_of_ble_eq_true rfl, Nat.le_of_ble_eq_true rfl⟩) (cx_V (q0 := 0) (ci := 1) (r := (RX1, TX1, 2)) rfl (cx0 g σ rest) hP hD hA hK hX hS) rfl rfl hl.1 rfl (lv_room (Nat.le_of_ble_eq_true rfl)) dX1_bestClef_6 ⟨Nat.le_of_ble_eq_true rfl, Nat.le_of_ble_eq_true rfl⟩) (fun r_2 hr_2 => ?_)
  subst hr_2
  refine vx_ret ?_
  refine W.widen (k := 1) (n := 6) (Nat.le_of_ble_eq_true rfl) (Nat.le_of_ble_eq_true rfl) ?_
  exact W.iret hx hb hr (fun t ht hW => ⟨_, rfl, ⟨by simp [cdV, hokv], by simp only [hixv]⟩, ht⟩) (fun q hq => absurd hq List.not_mem_nil) dX1_bestClef_9
set_option maxHeartbeats 4000000 in
set_option maxRecDepth 100000 in
/-- bestDelay -/
theorem cX1_bestDelay_m (l : Launch) (hfl : l.stackTraces = false) (g : GA) (A : Nat → Prop) (σ : St) (rest : va_W) (p0 : Int32) (u0 : Int32) (hI : Inv σ) : vx_Met l yX1_bestDelay wsX1_bestDelay ({ frames := 7, cells := 2, slots := 12, locals := 112 }) (va_Pc [.ref (gX g), .int p0, .int u0] (Cx g A (cw g σ ++ rest))) (vp_Si (fun r : Int32 => cdVR σ p0 (inr (-7) 7 u0) = 0 ∧ r = bdl σ (ix p0) u0)) (kX (fun E => (E = eI ∧ cdVR σ p0 (inr (-7) 7 u0) = 1) ∨ (E = eA ∧ cdVR σ p0 (inr (-7) 7 u0) = 2))) 2 12 (fun _ => False) := by
  refine vx_ofW (cc := cX1_bestDelay) (maxL := 4) (ret := (some .int)) (by decide) rfl ?_
  intro p e s m args below meth c s₁ B hml hno hv0
  obtain ⟨rfl, hP, hD, hA, hK, hX⟩ := hv0
  have hx := B.exec
  have hb := B.bytes
  have hr := B.returns
  have hts := atoms_spec (ws := wsX1_bestDelay) B.pre
  have hown : s.vm.findClass RX1 = some m.cls := findClass_of_methodNamed B.named
  have hlocks := B.notSynchronized
  have hS : va_S A s.heap s.heap [] := va_S.rf
  have hl := lv_entry ([.ref (gX g), .int p0, .int u0]) (n := 4) (Nat.le_of_ble_eq_true rfl)
  rw [lg_entry_eq]
  generalize (lg_sl ([.ref (gX g), .int p0, .int u0]) ++ List.replicate (4 - (lg_sl ([.ref (gX g), .int p0, .int u0])).length) Slot.unset).toArray = ls at hl ⊢
  have hl : lv_has ls 4 [(0, .ref (gX g)), (1, .int p0), (2, .int u0)] := hl
  refine lv_aload_n (pc := 0) hx hb dX1_bestDelay_0 rfl (lv_at hl 0 rfl) ?_
  refine lv_iload_n (pc := 1) hx hb dX1_bestDelay_1 rfl (lv_at hl 1 rfl) ?_
  refine k_xr (pc := 2) (vx_runV (As := [.int p0]) (rest := []) ⟨hx, hb, hml, hown, hts⟩ (cX1_knownVoice_m l hfl g A σ rest p0 hI) (cwV 1 hts gX1_bestDelay_X1_knownVoice rfl rfl rfl (by decide +kernel) ⟨Nat.le_of_ble_eq_true rfl, Nat.le_of_ble_eq_true rfl⟩) (cx_V (q0 := 0) (ci := 1) (r := (RX1, TX1, 2)) rfl (cx0 g σ rest) hP hD hA hK hX hS) rfl rfl hl.1 rfl (lv_room (Nat.le_of_ble_eq_true rfl)) dX1_bestDelay_2 ⟨Nat.le_of_ble_eq_true rfl, Nat.le_of_ble_eq_true rfl⟩) hno hlocks (fun E h => Or.inl ⟨h.1, by simp [cdVR, h.2]⟩) (Nat.le_of_ble_eq_true rfl) (Nat.le_of_ble_eq_true rfl) (fun r_1 hr_1 => ?_)
  obtain ⟨v, hvn, rfl, rfl⟩ := hr_1
  have hv4 : v < 4 := hI.v4 hvn
  have hixv : ix (nI v) = v := ix_n (by omega)
  have hokv : okV σ (nI v) = true := okV_t hvn hI.N
  refine lv_astore_n (lv' := [(3, .ref (gV g v)), (0, .ref (gX g)), (1, .int (nI v)), (2, .int u0)]) (pc := 5) hx hb dX1_bestDelay_5 rfl hl (by decide) rfl (fun ls hl => ?_)
  refine lv_iload_n (pc := 6) hx hb dX1_bestDelay_6 rfl (lv_at hl 3 rfl) ?_
  refine lv_bipush (v := (-7)) (pc := 7) hx hb dX1_bestDelay_7 (by decide) ?_
  refine lv_bipush (v := 7) (pc := 9) hx hb dX1_bestDelay_9 (by decide) ?_
  refine k_xv (pc := 11) (vx_runS (As := [.int u0, .int ((-7)), .int 7]) (rest := []) ⟨hx, hb, hml, hown, hts⟩ (cX1_checkRange_m l hfl g A σ rest u0 ((-7)) 7) (va_cwS 3 hts gX1_bestDelay_X1_checkRange rfl rfl rfl (by decide +kernel) ⟨Nat.le_of_ble_eq_true rfl, Nat.le_of_ble_eq_true rfl⟩) (cx_S hP hD hA hK hX hS) rfl rfl hl.1 rfl (lv_room (Nat.le_of_ble_eq_true rfl)) dX1_bestDelay_11 ⟨Nat.le_of_ble_eq_true rfl, Nat.le_of_ble_eq_true rfl⟩) hno hlocks (fun E h => Or.inr ⟨h.1, by simp only [cdVR, hokv, h.2]; rfl⟩) (Nat.le_of_ble_eq_true rfl) (Nat.le_of_ble_eq_true rfl) (fun hk1 => ?_)
  refine lv_aload_n (pc := 14) hx hb dX1_bestDelay_14 rfl (lv_at hl 0 rfl) ?_
  refine lv_iload_n (pc := 15) hx hb dX1_bestDelay_15 rfl (lv_at hl 3 rfl) ?_
  refine k_ri (pc := 16) (va_runS (As := [.ref (gV g v), .int u0]) (rest := []) ⟨hx, hb, hml, hown, hts⟩ (cX1_delayWithFewestClashes_m l g A σ rest v u0 hv4 hI) (va_cwS 2 hts gX1_bestDelay_X1_delayWithFewestClashes rfl rfl rfl (by decide +kernel) ⟨Nat.le_of_ble_eq_true rfl, Nat.le_of_ble_eq_true rfl⟩) (cx_S hP hD hA hK hX hS) rfl rfl hl.1 rfl (lv_room (Nat.le_of_ble_eq_true rfl)) dX1_bestDelay_16 ⟨Nat.le_of_ble_eq_true rfl, Nat.le_of_ble_eq_true rfl⟩) (fun r_3 hr_3 => ?_)
  subst hr_3
  refine vx_ret ?_
  refine W.widen (k := 2) (n := 12) (Nat.le_of_ble_eq_true rfl) (Nat.le_of_ble_eq_true rfl) ?_
  exact W.iret hx hb hr (fun t ht hW => ⟨_, rfl, ⟨by simp only [cdVR, hokv, hk1]; rfl, by simp only [hixv]⟩, ht⟩) (fun q hq => absurd hq List.not_mem_nil) dX1_bestDelay_19
set_option maxHeartbeats 4000000 in
set_option maxRecDepth 100000 in
/-- canonClashes -/
theorem cX1_canonClashes_m (l : Launch) (hfl : l.stackTraces = false) (g : GA) (A : Nat → Prop) (σ : St) (rest : va_W) (p0 : Int32) (d0 : Int32) (u0 : Int32) (hI : Inv σ) : vx_Met l yX1_canonClashes wsX1_canonClashes ({ frames := 7, cells := 3, slots := 18, locals := 112 }) (va_Pc [.ref (gX g), .int p0, .int d0, .int u0] (Cx g A (cw g σ ++ rest))) (vp_Si (fun r : Int32 => cd_canon σ p0 d0 u0 = 0 ∧ r = nI (clN σ (ix p0) (ix p0) (ix d0) u0))) (kX (fun E => (E = eI ∧ cd_canon σ p0 d0 u0 = 1) ∨ (E = eA ∧ cd_canon σ p0 d0 u0 = 2))) 3 18 (fun _ => False) := by
  refine vx_ofW (cc := cX1_canonClashes) (maxL := 5) (ret := (some .int)) (by decide) rfl ?_
  intro p e s m args below meth c s₁ B hml hno hv0
  obtain ⟨rfl, hP, hD, hA, hK, hX⟩ := hv0
  have hx := B.exec
  have hb := B.bytes
  have hr := B.returns
  have hts := atoms_spec (ws := wsX1_canonClashes) B.pre
  have hown : s.vm.findClass RX1 = some m.cls := findClass_of_methodNamed B.named
  have hlocks := B.notSynchronized
  have hS : va_S A s.heap s.heap [] := va_S.rf
  have hl := lv_entry ([.ref (gX g), .int p0, .int d0, .int u0]) (n := 5) (Nat.le_of_ble_eq_true rfl)
  rw [lg_entry_eq]
  generalize (lg_sl ([.ref (gX g), .int p0, .int d0, .int u0]) ++ List.replicate (5 - (lg_sl ([.ref (gX g), .int p0, .int d0, .int u0])).length) Slot.unset).toArray = ls at hl ⊢
  have hl : lv_has ls 5 [(0, .ref (gX g)), (1, .int p0), (2, .int d0), (3, .int u0)] := hl
  refine lv_aload_n (pc := 0) hx hb dX1_canonClashes_0 rfl (lv_at hl 0 rfl) ?_
  refine lv_iload_n (pc := 1) hx hb dX1_canonClashes_1 rfl (lv_at hl 1 rfl) ?_
  refine k_xr (pc := 2) (vx_runV (As := [.int p0]) (rest := []) ⟨hx, hb, hml, hown, hts⟩ (cX1_knownVoice_m l hfl g A σ rest p0 hI) (cwV 1 hts gX1_canonClashes_X1_knownVoice rfl rfl rfl (by decide +kernel) ⟨Nat.le_of_ble_eq_true rfl, Nat.le_of_ble_eq_true rfl⟩) (cx_V (q0 := 0) (ci := 1) (r := (RX1, TX1, 2)) rfl (cx0 g σ rest) hP hD hA hK hX hS) rfl rfl hl.1 rfl (lv_room (Nat.le_of_ble_eq_true rfl)) dX1_canonClashes_2 ⟨Nat.le_of_ble_eq_true rfl, Nat.le_of_ble_eq_true rfl⟩) hno hlocks (fun E h => Or.inl ⟨h.1, by simp [cd_canon, cdVR, h.2]⟩) (Nat.le_of_ble_eq_true rfl) (Nat.le_of_ble_eq_true rfl) (fun r_1 hr_1 => ?_)
  obtain ⟨v, hvn, rfl, rfl⟩ := hr_1
  have hv4 : v < 4 := hI.v4 hvn
  have hixv : ix (nI v) = v := ix_n (by omega)
  have hokv : okV σ (nI v) = true := okV_t hvn hI.N
  refine lv_astore (lv' := [(4, .ref (gV g v)), (0, .ref (gX g)), (1, .int (nI v)), (2, .int d0), (3, .int u0)]) (pc := 5) hx hb dX1_canonClashes_5 hl (by decide) rfl (fun ls hl => ?_)
  refine lv_iload_n (pc := 7) hx hb dX1_canonClashes_7 rfl (lv_at hl 3 rfl) ?_
  refine lv_iconst (v := 1) (pc := 8) hx hb dX1_canonClashes_8 (by decide) ?_
  refine lv_bipush (v := 48) (pc := 9) hx hb dX1_canonClashes_9 (by decide) ?_
  refine k_xv (pc := 11) (vx_runS (As := [.int d0, .int 1, .int 48]) (rest := []) ⟨hx, hb, hml, hown, hts⟩ (cX1_checkRange_m l hfl g A σ rest d0 1 48) (va_cwS 3 hts gX1_canonClashes_X1_checkRange rfl rfl rfl (by decide +kernel) ⟨Nat.le_of_ble_eq_true rfl, Nat.le_of_ble_eq_true rfl⟩) (cx_S hP hD hA hK hX hS) rfl rfl hl.1 rfl (lv_room (Nat.le_of_ble_eq_true rfl)) dX1_canonClashes_11 ⟨Nat.le_of_ble_eq_true rfl, Nat.le_of_ble_eq_true rfl⟩) hno hlocks (fun E h => Or.inr ⟨h.1, by simp [cd_canon, cdVR, hokv, h.2]⟩) (Nat.le_of_ble_eq_true rfl) (Nat.le_of_ble_eq_true rfl) (fun hk1 => ?_)
  have hk1s := hk1
  obtain ⟨d, hd1, hd2, rfl⟩ := inr_nat (a := 1) (b := 48) rfl rfl (by decide) (by decide) hk1
  have hixd : ix (nI d) = d := ix_n (by omega)
  refine lv_iload_n (pc := 14) hx hb dX1_canonClashes_14 rfl (lv_at hl 4 rfl) ?_
  refine lv_bipush (v := (-7)) (pc := 15) hx hb dX1_canonClashes_15 (by decide) ?_
  refine lv_bipush (v := 7) (pc := 17) hx hb dX1_canonClashes_17 (by decide) ?_
  refine k_xv (pc := 19) (vx_runS (As := [.int u0, .int ((-7)), .int 7]) (rest := []) ⟨hx, hb, hml, hown, hts⟩ (cX1_checkRange_m l hfl g A σ rest u0 ((-7)) 7) (va_cwS 3 hts gX1_canonClashes_X1_checkRange rfl rfl rfl (by decide +kernel) ⟨Nat.le_of_ble_eq_true rfl, Nat.le_of_ble_eq_true rfl⟩) (cx_S hP hD hA hK hX hS) rfl rfl hl.1 rfl (lv_room (Nat.le_of_ble_eq_true rfl)) dX1_canonClashes_19 ⟨Nat.le_of_ble_eq_true rfl, Nat.le_of_ble_eq_true rfl⟩) hno hlocks (fun E h => Or.inr ⟨h.1, by simp [cd_canon, cdVR, hokv, hk1s, h.2]⟩) (Nat.le_of_ble_eq_true rfl) (Nat.le_of_ble_eq_true rfl) (fun hk2 => ?_)
  refine lv_aload (pc := 22) hx hb dX1_canonClashes_22 (lv_at hl 0 rfl) ?_
  refine lv_aload (pc := 24) hx hb dX1_canonClashes_24 (lv_at hl 0 rfl) ?_
  refine lv_iload_n (pc := 26) hx hb dX1_canonClashes_26 rfl (lv_at hl 3 rfl) ?_
  refine lv_iload_n (pc := 27) hx hb dX1_canonClashes_27 rfl (lv_at hl 4 rfl) ?_
  refine k_ri (pc := 28) (va_runS (As := [.ref (gV g v), .ref (gV g v), .int (nI d), .int u0]) (rest := []) ⟨hx, hb, hml, hown, hts⟩ (cX1_clashingMinims_m l g A σ rest v v d u0 hv4 hv4 hI (by omega)) (va_cwS 4 hts gX1_canonClashes_X1_clashingMinims rfl rfl rfl (by decide +kernel) ⟨Nat.le_of_ble_eq_true rfl, Nat.le_of_ble_eq_true rfl⟩) (cx_S hP hD hA hK hX hS) rfl rfl hl.1 rfl (lv_room (Nat.le_of_ble_eq_true rfl)) dX1_canonClashes_28 ⟨Nat.le_of_ble_eq_true rfl, Nat.le_of_ble_eq_true rfl⟩) (fun r_4 hr_4 => ?_)
  subst hr_4
  refine vx_ret ?_
  refine W.widen (k := 3) (n := 18) (Nat.le_of_ble_eq_true rfl) (Nat.le_of_ble_eq_true rfl) ?_
  exact W.iret hx hb hr (fun t ht hW => ⟨_, rfl, ⟨by simp [cd_canon, cdVR, hokv, hk1s, hk2], by simp only [hixv, hixd]⟩, ht⟩) (fun q hq => absurd hq List.not_mem_nil) dX1_canonClashes_31
set_option maxHeartbeats 4000000 in
set_option maxRecDepth 100000 in
/-- pitchOf -/
theorem cX1_pitchOf_m (l : Launch) (hfl : l.stackTraces = false) (g : GA) (A : Nat → Prop) (σ : St) (rest : va_W) (p0 : Int32) (q0 : Int32) (hI : Inv σ) : vx_Met l yX1_pitchOf wsX1_pitchOf ({ frames := 8, cells := 3, slots := 18, locals := 134 }) (va_Pc [.ref (gX g), .int p0, .int q0] (Cx g A (cw g σ ++ rest))) (vp_Si (fun r : Int32 => cd_pitchOf σ p0 q0 = 0 ∧ r = an_pitchOf σ (ix p0) (ix q0))) (kX (fun E => (E = eI ∧ cd_pitchOf σ p0 q0 = 1) ∨ (E = eS ∧ cd_pitchOf σ p0 q0 = 2))) 3 18 (fun _ => False) := by
  refine vx_ofW (cc := cX1_pitchOf) (maxL := 4) (ret := (some .int)) (by decide) rfl ?_
  intro p e s m args below meth c s₁ B hml hno hv0
  obtain ⟨rfl, hP, hD, hA, hK, hX⟩ := hv0
  have hx := B.exec
  have hb := B.bytes
  have hr := B.returns
  have hts := atoms_spec (ws := wsX1_pitchOf) B.pre
  have hown : s.vm.findClass RX1 = some m.cls := findClass_of_methodNamed B.named
  have hlocks := B.notSynchronized
  have hS : va_S A s.heap s.heap [] := va_S.rf
  have hinX0 : ∀ w ∈ u_ws RX0 TX0 10, w ∈ wsX1_pitchOf := by decide +kernel
  have hl := lv_entry ([.ref (gX g), .int p0, .int q0]) (n := 4) (Nat.le_of_ble_eq_true rfl)
  rw [lg_entry_eq]
  generalize (lg_sl ([.ref (gX g), .int p0, .int q0]) ++ List.replicate (4 - (lg_sl ([.ref (gX g), .int p0, .int q0])).length) Slot.unset).toArray = ls at hl ⊢
  have hl : lv_has ls 4 [(0, .ref (gX g)), (1, .int p0), (2, .int q0)] := hl
  refine lv_aload_n (pc := 0) hx hb dX1_pitchOf_0 rfl (lv_at hl 0 rfl) ?_
  refine lv_iload_n (pc := 1) hx hb dX1_pitchOf_1 rfl (lv_at hl 1 rfl) ?_
  refine lv_iload_n (pc := 2) hx hb dX1_pitchOf_2 rfl (lv_at hl 2 rfl) ?_
  refine k_xr (pc := 3) (vx_runV (As := [.int p0, .int q0]) (rest := []) ⟨hx, hb, hml, hown, hts⟩ (cX1_voiceWithSign_m l hfl g A σ rest p0 q0 hI) (cwV 2 hts gX1_pitchOf_X1_voiceWithSign rfl rfl rfl (by decide +kernel) ⟨Nat.le_of_ble_eq_true rfl, Nat.le_of_ble_eq_true rfl⟩) (cx_V (q0 := 0) (ci := 1) (r := (RX1, TX1, 2)) rfl (cx0 g σ rest) hP hD hA hK hX hS) rfl rfl hl.1 rfl (lv_room (Nat.le_of_ble_eq_true rfl)) dX1_pitchOf_3 ⟨Nat.le_of_ble_eq_true rfl, Nat.le_of_ble_eq_true rfl⟩) hno hlocks (fun E h => Or.inl ⟨h.1, by have q := h.2; unfold cdS at q; unfold cd_pitchOf; split at q; exact absurd q (by decide); rename_i z; rw [if_neg z]⟩) (Nat.le_of_ble_eq_true rfl) (Nat.le_of_ble_eq_true rfl) (fun r_1 hr_1 => ?_)
  obtain ⟨v, s0, hvn, hs0, rfl, rfl, rfl⟩ := hr_1
  have hv4 : v < 4 := hI.v4 hvn
  have hC := hI.C v
  have hixv : ix (nI v) = v := ix_n (by omega)
  have hixs : ix (nI s0) = s0 := ix_n (by omega)
  have hokv : okV σ (nI v) = true := okV_t hvn hI.N
  have hoks : okS σ v (nI s0) = true := okS_t hs0 hC
  refine lv_astore_n (lv' := [(3, .ref (gV g v)), (0, .ref (gX g)), (1, .int (nI v)), (2, .int (nI s0))]) (pc := 6) hx hb dX1_pitchOf_6 rfl hl (by decide) rfl (fun ls hl => ?_)
  refine lv_aload_n (pc := 7) hx hb dX1_pitchOf_7 rfl (lv_at hl 0 rfl) ?_
  refine k_xv (pc := 8) (vx_runS (As := [.ref (gV g v)]) (rest := []) ⟨hx, hb, hml, hown, hts⟩ (cX1_checkHasClef_m l hfl g A σ rest v hv4) (va_cwS 1 hts gX1_pitchOf_X1_checkHasClef rfl rfl rfl (by decide +kernel) ⟨Nat.le_of_ble_eq_true rfl, Nat.le_of_ble_eq_true rfl⟩) (cx_S hP hD hA hK hX hS) rfl rfl hl.1 rfl (lv_room (Nat.le_of_ble_eq_true rfl)) dX1_pitchOf_8 ⟨Nat.le_of_ble_eq_true rfl, Nat.le_of_ble_eq_true rfl⟩) hno hlocks (fun E h => Or.inr ⟨h.1, by simp [cd_pitchOf, hokv, hoks, hixv, h.2]⟩) (Nat.le_of_ble_eq_true rfl) (Nat.le_of_ble_eq_true rfl) (fun hk1 => ?_)
  refine lv_aload_n (pc := 11) hx hb dX1_pitchOf_11 rfl (lv_at hl 0 rfl) ?_
  refine lv_iload_n (pc := 12) hx hb dX1_pitchOf_12 rfl (lv_at hl 3 rfl) ?_
  refine k_ri (pc := 13) (va_runVN (As := [.int (nI s0)]) (rest := []) ⟨hx, hb, hml, hown, hts⟩ (cX0_isRest_m l g A σ rest v s0 hv4 (by omega)) ⟨va_cnB 1 hts gX1_pitchOf_X0_isRest_n77 rfl rfl rfl (nm_77 hX) (hts (.initialized RX0) (by decide +kernel)) (by decide +kernel) ⟨Nat.le_of_ble_eq_true rfl, Nat.le_of_ble_eq_true rfl⟩, hts (.instanceMethod yX0_isRest) (by decide +kernel), hts (.selects RX0 yX0_isRest yX0_isRest) (by decide +kernel)⟩ (cx_V (q0 := (2 + 6 * v)) (ci := 0) (r := (RX0, TX0, 10)) rfl (cv0 g σ rest hv4) hP hD hA hK hX hS) rfl rfl hl.1 rfl (lv_room (Nat.le_of_ble_eq_true rfl)) dX1_pitchOf_13 ⟨Nat.le_of_ble_eq_true rfl, Nat.le_of_ble_eq_true rfl⟩) (fun r_3 hr_3 => ?_)
  subst hr_3
  refine lv_if_eq (tgt := 23) (pc := 16) hx hb dX1_pitchOf_16 (by decide) (fun c2 => ?_) (fun c2 => ?_)
  · have c2 : isNt σ v s0 = true := by simpa using bI_0.mp c2
    refine lv_aload_n (pc := 23) hx hb dX1_pitchOf_23 rfl (lv_at hl 0 rfl) ?_
    refine va_getN (v := .ref (gA g v 1)) (pc := 24) (D := gD g) (ci := 0) (C := RX0) (T := TX0) (N := 10) hx hb hts hinX0 hown hK hP (2 + 6 * v) (cv0 g σ rest hv4) rfl 6 (by decide) (va_Nw.use rfl (nf_102 hX)) (fun _ h9 => h9) rfl dX1_pitchOf_24 ?_
    refine lv_iload_n (pc := 27) hx hb dX1_pitchOf_27 rfl (lv_at hl 3 rfl) ?_
    refine k_iald (pc := 28) (x := sP σ v s0) hx hb hK hP (4 + 6 * v) 0 (cv2 g σ rest hv4) rfl s0 rfl (by omega) (by decide) rfl dX1_pitchOf_28 ?_
    refine lv_iconst (v := 2) (pc := 29) hx hb dX1_pitchOf_29 (by decide) ?_
    refine lv_aload_n (pc := 30) hx hb dX1_pitchOf_30 rfl (lv_at hl 0 rfl) ?_
    refine va_getN (v := .int (sL σ v)) (pc := 31) (D := gD g) (ci := 0) (C := RX0) (T := TX0) (N := 10) hx hb hts hinX0 hown hK hP (2 + 6 * v) (cv0 g σ rest hv4) rfl 3 (by decide) (va_Nw.use rfl (nf_86 hX)) (fun _ h9 => h9) rfl dX1_pitchOf_31 ?_
    refine lv_imul (pc := 34) hx hb dX1_pitchOf_34 ?_
    refine lv_iadd (pc := 35) hx hb dX1_pitchOf_35 ?_
    refine vx_ret ?_
    refine W.widen (k := 3) (n := 18) (Nat.le_of_ble_eq_true rfl) (Nat.le_of_ble_eq_true rfl) ?_
    exact W.iret hx hb hr (fun t ht hW => ⟨_, rfl, ⟨by simp [cd_pitchOf, hokv, hoks, hixv, hk1], by simp only [hixv, hixs, an_pitchOf, c2]; rfl⟩, ht⟩) (fun q hq => absurd hq List.not_mem_nil) dX1_pitchOf_36
  · have c2 : isNt σ v s0 = false := by simpa using bI_n0.mp c2
    refine lv_iconst (v := (-1)) (pc := 19) hx hb dX1_pitchOf_19 (by decide) ?_
    refine lv_goto (tgt := 36) (pc := 20) hx hb dX1_pitchOf_20 (by decide) ?_
    refine vx_ret ?_
    refine W.widen (k := 3) (n := 18) (Nat.le_of_ble_eq_true rfl) (Nat.le_of_ble_eq_true rfl) ?_
    exact W.iret hx hb hr (fun t ht hW => ⟨_, rfl, ⟨by simp [cd_pitchOf, hokv, hoks, hixv, hk1], by simp only [hixv, hixs, an_pitchOf, c2]; rfl⟩, ht⟩) (fun q hq => absurd hq List.not_mem_nil) dX1_pitchOf_36
set_option maxHeartbeats 4000000 in
set_option maxRecDepth 100000 in
/-- clashes -/
theorem cX1_clashes_m (l : Launch) (hfl : l.stackTraces = false) (g : GA) (A : Nat → Prop) (σ : St) (rest : va_W) (p0 : Int32) (q0 : Int32) (hI : Inv σ) : vx_Met l yX1_clashes wsX1_clashes ({ frames := 7, cells := 4, slots := 24, locals := 111 }) (va_Pc [.ref (gX g), .int p0, .int q0] (Cx g A (cw g σ ++ rest))) (vp_Si (fun r : Int32 => cd_clashes σ p0 q0 = 0 ∧ r = nI (clN σ (ix p0) (ix q0) 0 (2 * (sL σ (ix q0) - sL σ (ix p0)))))) (kX (fun E => (E = eI ∧ cd_clashes σ p0 q0 = 1) ∨ (E = eS ∧ cd_clashes σ p0 q0 = 2))) 4 24 (fun _ => False) := by
  refine vx_ofW (cc := cX1_clashes) (maxL := 5) (ret := (some .int)) (by decide) rfl ?_
  intro p e s m args below meth c s₁ B hml hno hv0
  obtain ⟨rfl, hP, hD, hA, hK, hX⟩ := hv0
  have hx := B.exec
  have hb := B.bytes
  have hr := B.returns
  have hts := atoms_spec (ws := wsX1_clashes) B.pre
  have hown : s.vm.findClass RX1 = some m.cls := findClass_of_methodNamed B.named
  have hlocks := B.notSynchronized
  have hS : va_S A s.heap s.heap [] := va_S.rf
  have hinX0 : ∀ w ∈ u_ws RX0 TX0 10, w ∈ wsX1_clashes := by decide +kernel
  have hl := lv_entry ([.ref (gX g), .int p0, .int q0]) (n := 5) (Nat.le_of_ble_eq_true rfl)
  rw [lg_entry_eq]
  generalize (lg_sl ([.ref (gX g), .int p0, .int q0]) ++ List.replicate (5 - (lg_sl ([.ref (gX g), .int p0, .int q0])).length) Slot.unset).toArray = ls at hl ⊢
  have hl : lv_has ls 5 [(0, .ref (gX g)), (1, .int p0), (2, .int q0)] := hl
  refine lv_aload_n (pc := 0) hx hb dX1_clashes_0 rfl (lv_at hl 0 rfl) ?_
  refine lv_iload_n (pc := 1) hx hb dX1_clashes_1 rfl (lv_at hl 1 rfl) ?_
  refine k_xr (pc := 2) (vx_runV (As := [.int p0]) (rest := []) ⟨hx, hb, hml, hown, hts⟩ (cX1_knownVoice_m l hfl g A σ rest p0 hI) (cwV 1 hts gX1_clashes_X1_knownVoice rfl rfl rfl (by decide +kernel) ⟨Nat.le_of_ble_eq_true rfl, Nat.le_of_ble_eq_true rfl⟩) (cx_V (q0 := 0) (ci := 1) (r := (RX1, TX1, 2)) rfl (cx0 g σ rest) hP hD hA hK hX hS) rfl rfl hl.1 rfl (lv_room (Nat.le_of_ble_eq_true rfl)) dX1_clashes_2 ⟨Nat.le_of_ble_eq_true rfl, Nat.le_of_ble_eq_true rfl⟩) hno hlocks (fun E h => Or.inl ⟨h.1, by simp [cd_clashes, h.2]⟩) (Nat.le_of_ble_eq_true rfl) (Nat.le_of_ble_eq_true rfl) (fun r_1 hr_1 => ?_)
  obtain ⟨v, hvn, rfl, rfl⟩ := hr_1
  have hv4 : v < 4 := hI.v4 hvn
  have hixv : ix (nI v) = v := ix_n (by omega)
  have hokv : okV σ (nI v) = true := okV_t hvn hI.N
  refine lv_astore_n (lv' := [(3, .ref (gV g v)), (0, .ref (gX g)), (1, .int (nI v)), (2, .int q0)]) (pc := 5) hx hb dX1_clashes_5 rfl hl (by decide) rfl (fun ls hl => ?_)
  refine lv_aload_n (pc := 6) hx hb dX1_clashes_6 rfl (lv_at hl 1 rfl) ?_
  refine lv_iload_n (pc := 7) hx hb dX1_clashes_7 rfl (lv_at hl 3 rfl) ?_
  refine k_xr (pc := 8) (vx_runV (As := [.int q0]) (rest := []) ⟨hx, hb, hml, hown, hts⟩ (cX1_knownVoice_m l hfl g A σ rest q0 hI) (cwV 1 hts gX1_clashes_X1_knownVoice rfl rfl rfl (by decide +kernel) ⟨Nat.le_of_ble_eq_true rfl, Nat.le_of_ble_eq_true rfl⟩) (cx_V (q0 := 0) (ci := 1) (r := (RX1, TX1, 2)) rfl (cx0 g σ rest) hP hD hA hK hX hS) rfl rfl hl.1 rfl (lv_room (Nat.le_of_ble_eq_true rfl)) dX1_clashes_8 ⟨Nat.le_of_ble_eq_true rfl, Nat.le_of_ble_eq_true rfl⟩) hno hlocks (fun E h => Or.inl ⟨h.1, by simp [cd_clashes, h.2]⟩) (Nat.le_of_ble_eq_true rfl) (Nat.le_of_ble_eq_true rfl) (fun r_2 hr_2 => ?_)
  obtain ⟨w, hwn, rfl, rfl⟩ := hr_2
  have hw4 : w < 4 := hI.v4 hwn
  have hixw : ix (nI w) = w := ix_n (by omega)
  have hokw : okV σ (nI w) = true := okV_t hwn hI.N
  refine lv_astore (lv' := [(4, .ref (gV g w)), (3, .ref (gV g v)), (0, .ref (gX g)), (1, .int (nI v)), (2, .int (nI w))]) (pc := 11) hx hb dX1_clashes_11 hl (by decide) rfl (fun ls hl => ?_)
  refine lv_aload_n (pc := 13) hx hb dX1_clashes_13 rfl (lv_at hl 1 rfl) ?_
  refine k_xv (pc := 14) (vx_runS (As := [.ref (gV g v)]) (rest := []) ⟨hx, hb, hml, hown, hts⟩ (cX1_checkHasClef_m l hfl g A σ rest v hv4) (va_cwS 1 hts gX1_clashes_X1_checkHasClef rfl rfl rfl (by decide +kernel) ⟨Nat.le_of_ble_eq_true rfl, Nat.le_of_ble_eq_true rfl⟩) (cx_S hP hD hA hK hX hS) rfl rfl hl.1 rfl (lv_room (Nat.le_of_ble_eq_true rfl)) dX1_clashes_14 ⟨Nat.le_of_ble_eq_true rfl, Nat.le_of_ble_eq_true rfl⟩) hno hlocks (fun E h => Or.inr ⟨h.1, by simp [cd_clashes, hokv, hokw, hixv, hixw, h.2]⟩) (Nat.le_of_ble_eq_true rfl) (Nat.le_of_ble_eq_true rfl) (fun hk1 => ?_)
  refine lv_aload (pc := 17) hx hb dX1_clashes_17 (lv_at hl 0 rfl) ?_
  refine k_xv (pc := 19) (vx_runS (As := [.ref (gV g w)]) (rest := []) ⟨hx, hb, hml, hown, hts⟩ (cX1_checkHasClef_m l hfl g A σ rest w hw4) (va_cwS 1 hts gX1_clashes_X1_checkHasClef rfl rfl rfl (by decide +kernel) ⟨Nat.le_of_ble_eq_true rfl, Nat.le_of_ble_eq_true rfl⟩) (cx_S hP hD hA hK hX hS) rfl rfl hl.1 rfl (lv_room (Nat.le_of_ble_eq_true rfl)) dX1_clashes_19 ⟨Nat.le_of_ble_eq_true rfl, Nat.le_of_ble_eq_true rfl⟩) hno hlocks (fun E h => Or.inr ⟨h.1, by simp [cd_clashes, hokv, hokw, hixv, hixw, h.2]⟩) (Nat.le_of_ble_eq_true rfl) (Nat.le_of_ble_eq_true rfl) (fun hk2 => ?_)
  refine lv_aload_n (pc := 22) hx hb dX1_clashes_22 rfl (lv_at hl 1 rfl) ?_
  refine lv_aload (pc := 23) hx hb dX1_clashes_23 (lv_at hl 0 rfl) ?_
  refine lv_iconst (v := 0) (pc := 25) hx hb dX1_clashes_25 (by decide) ?_
  refine lv_iconst (v := 2) (pc := 26) hx hb dX1_clashes_26 (by decide) ?_
  refine lv_aload (pc := 27) hx hb dX1_clashes_27 (lv_at hl 0 rfl) ?_
  refine va_getN (v := .int (sL σ w)) (pc := 29) (D := gD g) (ci := 0) (C := RX0) (T := TX0) (N := 10) hx hb hts hinX0 hown hK hP (2 + 6 * w) (cv0 g σ rest hw4) rfl 3 (by decide) (va_Nw.use rfl (nf_86 hX)) (fun _ h9 => h9) rfl dX1_clashes_29 ?_
  refine lv_aload_n (pc := 32) hx hb dX1_clashes_32 rfl (lv_at hl 1 rfl) ?_
  refine va_getN (v := .int (sL σ v)) (pc := 33) (D := gD g) (ci := 0) (C := RX0) (T := TX0) (N := 10) hx hb hts hinX0 hown hK hP (2 + 6 * v) (cv0 g σ rest hv4) rfl 3 (by decide) (va_Nw.use rfl (nf_86 hX)) (fun _ h9 => h9) rfl dX1_clashes_33 ?_
  refine lv_isub (pc := 36) hx hb dX1_clashes_36 ?_
  refine lv_imul (pc := 37) hx hb dX1_clashes_37 ?_
  refine k_ri (pc := 38) (va_runS (As := [.ref (gV g v), .ref (gV g w), .int 0, .int (2 * ((sL σ w) - (sL σ v)))]) (rest := []) ⟨hx, hb, hml, hown, hts⟩ (cX1_clashingMinims_m l g A σ rest v w 0 (2 * ((sL σ w) - (sL σ v))) hv4 hw4 hI (by omega)) (va_cwS 4 hts gX1_clashes_X1_clashingMinims rfl rfl rfl (by decide +kernel) ⟨Nat.le_of_ble_eq_true rfl, Nat.le_of_ble_eq_true rfl⟩) (cx_S hP hD hA hK hX hS) rfl rfl hl.1 rfl (lv_room (Nat.le_of_ble_eq_true rfl)) dX1_clashes_38 ⟨Nat.le_of_ble_eq_true rfl, Nat.le_of_ble_eq_true rfl⟩) (fun r_5 hr_5 => ?_)
  subst hr_5
  refine vx_ret ?_
  refine W.widen (k := 4) (n := 24) (Nat.le_of_ble_eq_true rfl) (Nat.le_of_ble_eq_true rfl) ?_
  exact W.iret hx hb hr (fun t ht hW => ⟨_, rfl, ⟨by simp [cd_clashes, hokv, hokw, hixv, hixw, hk1, hk2], by simp only [hixv, hixw]⟩, ht⟩) (fun q hq => absurd hq List.not_mem_nil) dX1_clashes_41
set_option maxHeartbeats 4000000 in
set_option maxRecDepth 100000 in
/-- firstClash -/
theorem cX1_firstClash_m (l : Launch) (hfl : l.stackTraces = false) (g : GA) (A : Nat → Prop) (σ : St) (rest : va_W) (p0 : Int32) (q0 : Int32) (hI : Inv σ) : vx_Met l yX1_firstClash wsX1_firstClash ({ frames := 7, cells := 4, slots := 24, locals := 111 }) (va_Pc [.ref (gX g), .int p0, .int q0] (Cx g A (cw g σ ++ rest))) (vp_Si (fun r : Int32 => cd_clashes σ p0 q0 = 0 ∧ r = fst (clT σ (ix p0) (ix q0) 0 (2 * (sL σ (ix q0) - sL σ (ix p0)))) (len σ (ix p0)))) (kX (fun E => (E = eI ∧ cd_clashes σ p0 q0 = 1) ∨ (E = eS ∧ cd_clashes σ p0 q0 = 2))) 4 24 (fun _ => False) := by
  refine vx_ofW (cc := cX1_firstClash) (maxL := 5) (ret := (some .int)) (by decide) rfl ?_
  intro p e s m args below meth c s₁ B hml hno hv0
  obtain ⟨rfl, hP, hD, hA, hK, hX⟩ := hv0
  have hx := B.exec
  have hb := B.bytes
  have hr := B.returns
  have hts := atoms_spec (ws := wsX1_firstClash) B.pre
  have hown : s.vm.findClass RX1 = some m.cls := findClass_of_methodNamed B.named
  have hlocks := B.notSynchronized
  have hS : va_S A s.heap s.heap [] := va_S.rf
  have hinX0 : ∀ w ∈ u_ws RX0 TX0 10, w ∈ wsX1_firstClash := by decide +kernel
  have hl := lv_entry ([.ref (gX g), .int p0, .int q0]) (n := 5) (Nat.le_of_ble_eq_true rfl)
  rw [lg_entry_eq]
  generalize (lg_sl ([.ref (gX g), .int p0, .int q0]) ++ List.replicate (5 - (lg_sl ([.ref (gX g), .int p0, .int q0])).length) Slot.unset).toArray = ls at hl ⊢
  have hl : lv_has ls 5 [(0, .ref (gX g)), (1, .int p0), (2, .int q0)] := hl
  refine lv_aload_n (pc := 0) hx hb dX1_firstClash_0 rfl (lv_at hl 0 rfl) ?_
  refine lv_iload_n (pc := 1) hx hb dX1_firstClash_1 rfl (lv_at hl 1 rfl) ?_
  refine k_xr (pc := 2) (vx_runV (As := [.int p0]) (rest := []) ⟨hx, hb, hml, hown, hts⟩ (cX1_knownVoice_m l hfl g A σ rest p0 hI) (cwV 1 hts gX1_firstClash_X1_knownVoice rfl rfl rfl (by decide +kernel) ⟨Nat.le_of_ble_eq_true rfl, Nat.le_of_ble_eq_true rfl⟩) (cx_V (q0 := 0) (ci := 1) (r := (RX1, TX1, 2)) rfl (cx0 g σ rest) hP hD hA hK hX hS) rfl rfl hl.1 rfl (lv_room (Nat.le_of_ble_eq_true rfl)) dX1_firstClash_2 ⟨Nat.le_of_ble_eq_true rfl, Nat.le_of_ble_eq_true rfl⟩) hno hlocks (fun E h => Or.inl ⟨h.1, by simp [cd_clashes, h.2]⟩) (Nat.le_of_ble_eq_true rfl) (Nat.le_of_ble_eq_true rfl) (fun r_1 hr_1 => ?_)
  obtain ⟨v, hvn, rfl, rfl⟩ := hr_1
  have hv4 : v < 4 := hI.v4 hvn
  have hixv : ix (nI v) = v := ix_n (by omega)
  have hokv : okV σ (nI v) = true := okV_t hvn hI.N
  refine lv_astore_n (lv' := [(3, .ref (gV g v)), (0, .ref (gX g)), (1, .int (nI v)), (2, .int q0)]) (pc := 5) hx hb dX1_firstClash_5 rfl hl (by decide) rfl (fun ls hl => ?_)
  refine lv_aload_n (pc := 6) hx hb dX1_firstClash_6 rfl (lv_at hl 1 rfl) ?_
  refine lv_iload_n (pc := 7) hx hb dX1_firstClash_7 rfl (lv_at hl 3 rfl) ?_
  refine k_xr (pc := 8) (vx_runV (As := [.int q0]) (rest := []) ⟨hx, hb, hml, hown, hts⟩ (cX1_knownVoice_m l hfl g A σ rest q0 hI) (cwV 1 hts gX1_firstClash_X1_knownVoice rfl rfl rfl (by decide +kernel) ⟨Nat.le_of_ble_eq_true rfl, Nat.le_of_ble_eq_true rfl⟩) (cx_V (q0 := 0) (ci := 1) (r := (RX1, TX1, 2)) rfl (cx0 g σ rest) hP hD hA hK hX hS) rfl rfl hl.1 rfl (lv_room (Nat.le_of_ble_eq_true rfl)) dX1_firstClash_8 ⟨Nat.le_of_ble_eq_true rfl, Nat.le_of_ble_eq_true rfl⟩) hno hlocks (fun E h => Or.inl ⟨h.1, by simp [cd_clashes, h.2]⟩) (Nat.le_of_ble_eq_true rfl) (Nat.le_of_ble_eq_true rfl) (fun r_2 hr_2 => ?_)
  obtain ⟨w, hwn, rfl, rfl⟩ := hr_2
  have hw4 : w < 4 := hI.v4 hwn
  have hixw : ix (nI w) = w := ix_n (by omega)
  have hokw : okV σ (nI w) = true := okV_t hwn hI.N
  refine lv_astore (lv' := [(4, .ref (gV g w)), (3, .ref (gV g v)), (0, .ref (gX g)), (1, .int (nI v)), (2, .int (nI w))]) (pc := 11) hx hb dX1_firstClash_11 hl (by decide) rfl (fun ls hl => ?_)
  refine lv_aload_n (pc := 13) hx hb dX1_firstClash_13 rfl (lv_at hl 1 rfl) ?_
  refine k_xv (pc := 14) (vx_runS (As := [.ref (gV g v)]) (rest := []) ⟨hx, hb, hml, hown, hts⟩ (cX1_checkHasClef_m l hfl g A σ rest v hv4) (va_cwS 1 hts gX1_firstClash_X1_checkHasClef rfl rfl rfl (by decide +kernel) ⟨Nat.le_of_ble_eq_true rfl, Nat.le_of_ble_eq_true rfl⟩) (cx_S hP hD hA hK hX hS) rfl rfl hl.1 rfl (lv_room (Nat.le_of_ble_eq_true rfl)) dX1_firstClash_14 ⟨Nat.le_of_ble_eq_true rfl, Nat.le_of_ble_eq_true rfl⟩) hno hlocks (fun E h => Or.inr ⟨h.1, by simp [cd_clashes, hokv, hokw, hixv, hixw, h.2]⟩) (Nat.le_of_ble_eq_true rfl) (Nat.le_of_ble_eq_true rfl) (fun hk1 => ?_)
  refine lv_aload (pc := 17) hx hb dX1_firstClash_17 (lv_at hl 0 rfl) ?_
  refine k_xv (pc := 19) (vx_runS (As := [.ref (gV g w)]) (rest := []) ⟨hx, hb, hml, hown, hts⟩ (cX1_checkHasClef_m l hfl g A σ rest w hw4) (va_cwS 1 hts gX1_firstClash_X1_checkHasClef rfl rfl rfl (by decide +kernel) ⟨Nat.le_of_ble_eq_true rfl, Nat.le_of_ble_eq_true rfl⟩) (cx_S hP hD hA hK hX hS) rfl rfl hl.1 rfl (lv_room (Nat.le_of_ble_eq_true rfl)) dX1_firstClash_19 ⟨Nat.le_of_ble_eq_true rfl, Nat.le_of_ble_eq_true rfl⟩) hno hlocks (fun E h => Or.inr ⟨h.1, by simp [cd_clashes, hokv, hokw, hixv, hixw, h.2]⟩) (Nat.le_of_ble_eq_true rfl) (Nat.le_of_ble_eq_true rfl) (fun hk2 => ?_)
  refine lv_aload_n (pc := 22) hx hb dX1_firstClash_22 rfl (lv_at hl 1 rfl) ?_
  refine lv_aload (pc := 23) hx hb dX1_firstClash_23 (lv_at hl 0 rfl) ?_
  refine lv_iconst (v := 2) (pc := 25) hx hb dX1_firstClash_25 (by decide) ?_
  refine lv_aload (pc := 26) hx hb dX1_firstClash_26 (lv_at hl 0 rfl) ?_
  refine va_getN (v := .int (sL σ w)) (pc := 28) (D := gD g) (ci := 0) (C := RX0) (T := TX0) (N := 10) hx hb hts hinX0 hown hK hP (2 + 6 * w) (cv0 g σ rest hw4) rfl 3 (by decide) (va_Nw.use rfl (nf_86 hX)) (fun _ h9 => h9) rfl dX1_firstClash_28 ?_
  refine lv_aload_n (pc := 31) hx hb dX1_firstClash_31 rfl (lv_at hl 1 rfl) ?_
  refine va_getN (v := .int (sL σ v)) (pc := 32) (D := gD g) (ci := 0) (C := RX0) (T := TX0) (N := 10) hx hb hts hinX0 hown hK hP (2 + 6 * v) (cv0 g σ rest hv4) rfl 3 (by decide) (va_Nw.use rfl (nf_86 hX)) (fun _ h9 => h9) rfl dX1_firstClash_32 ?_
  refine lv_isub (pc := 35) hx hb dX1_firstClash_35 ?_
  refine lv_imul (pc := 36) hx hb dX1_firstClash_36 ?_
  refine k_ri (pc := 37) (va_runS (As := [.ref (gV g v), .ref (gV g w), .int (2 * ((sL σ w) - (sL σ v)))]) (rest := []) ⟨hx, hb, hml, hown, hts⟩ (cX1_firstClashingMinim_m l g A σ rest v w (2 * ((sL σ w) - (sL σ v))) hv4 hw4 hI) (va_cwS 3 hts gX1_firstClash_X1_firstClashingMinim rfl rfl rfl (by decide +kernel) ⟨Nat.le_of_ble_eq_true rfl, Nat.le_of_ble_eq_true rfl⟩) (cx_S hP hD hA hK hX hS) rfl rfl hl.1 rfl (lv_room (Nat.le_of_ble_eq_true rfl)) dX1_firstClash_37 ⟨Nat.le_of_ble_eq_true rfl, Nat.le_of_ble_eq_true rfl⟩) (fun r_5 hr_5 => ?_)
  subst hr_5
  refine vx_ret ?_
  refine W.widen (k := 4) (n := 24) (Nat.le_of_ble_eq_true rfl) (Nat.le_of_ble_eq_true rfl) ?_
  exact W.iret hx hb hr (fun t ht hW => ⟨_, rfl, ⟨by simp [cd_clashes, hokv, hokw, hixv, hixw, hk1, hk2], by simp only [hixv, hixw]⟩, ht⟩) (fun q hq => absurd hq List.not_mem_nil) dX1_firstClash_40
set_option maxHeartbeats 4000000 in
set_option maxRecDepth 100000 in
/-- voices -/
theorem cX1_voices_m (l : Launch) (g : GA) (A : Nat → Prop) (σ : St) (rest : va_W)  : Met l yX1_voices wsX1_voices ({ frames := 0, cells := 0, slots := 0, locals := 0 }) (va_Pc [.ref (gX g)] (Cx g A (cw g σ ++ rest))) (vp_Si (fun r : Int32 => r = nI (sN σ))) 0 0 (fun _ => False) := by
  refine Met.ofW (cc := cX1_voices) (maxL := 1) (ret := (some .int)) (by decide) rfl ?_
  intro p e s m args below meth c s₁ B hml hv0
  obtain ⟨rfl, hP, hD, hA, hK, hX⟩ := hv0
  have hx := B.exec
  have hb := B.bytes
  have hr := B.returns
  have hts := atoms_spec (ws := wsX1_voices) B.pre
  have hown : s.vm.findClass RX1 = some m.cls := findClass_of_methodNamed B.named
  have hlocks := B.notSynchronized
  have hS : va_S A s.heap s.heap [] := va_S.rf
  have hinX1 : ∀ w ∈ u_ws RX1 TX1 2, w ∈ wsX1_voices := by decide +kernel
  have hl := lv_entry ([.ref (gX g)]) (n := 1) (Nat.le_of_ble_eq_true rfl)
  rw [lg_entry_eq]
  generalize (lg_sl ([.ref (gX g)]) ++ List.replicate (1 - (lg_sl ([.ref (gX g)])).length) Slot.unset).toArray = ls at hl ⊢
  have hl : lv_has ls 1 [(0, .ref (gX g))] := hl
  refine lv_aload_n (pc := 0) hx hb dX1_voices_0 rfl (lv_at hl 0 rfl) ?_
  refine va_get (v := .int (nI (sN σ))) (pc := 1) (D := gD g) (ci := 1) (C := RX1) (T := TX1) (N := 2) hx hb hts hinX1 hown hK hP 0 (cx0 g σ rest) rfl 1 (by decide) (hts (.fieldLink RX1 20 "ChoirNotes" "voiceCount" "I") (by decide +kernel)) (fun _ h9 => h9) rfl dX1_voices_1 ?_
  exact W.iret hx hb hr (fun t ht hW => ⟨_, rfl, rfl, ht⟩) (fun q hq => absurd hq List.not_mem_nil) dX1_voices_4
