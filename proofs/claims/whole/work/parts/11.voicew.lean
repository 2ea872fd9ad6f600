/-! THE VOICE: what it writes -/
set_option maxHeartbeats 4000000 in
set_option maxRecDepth 100000 in
/-- the beginnings, anew from a sign on -/
theorem cX0_timeFrom_m (l : Launch) (g : GA) (A : Nat → Prop) (σ : St) (rest : va_W) (v f : Nat) (hv : v < 4) (hC : sC σ v ≤ 24) (hKd : ∀ s, sK σ v s ≤ 3) (hf : f ≤ sC σ v) (hB : ∀ s, s ≤ f → sB σ v s = nI (bg σ v s)) : Met l yX0_timeFrom wsX0_timeFrom ({ frames := 1, cells := 0, slots := 0, locals := 22 }) (va_Pc [.ref (gV g v), .int (nI f)] (Cx g A (cw g σ ++ rest))) (va_Qv (fun (u : Nat → Nat → Int32) => tfP σ v u) (fun u t => kB g A (cw g (uB σ u) ++ rest) t) A) 0 0 A := by
  refine Met.ofW (cc := cX0_timeFrom) (maxL := 3) (ret := none) (by decide) rfl ?_
  intro p e s m args below meth c s₁ B hml hv0
  obtain ⟨rfl, hP, hD, hA, hK, hX⟩ := hv0
  have hx := B.exec
  have hb := B.bytes
  have hr := B.returns
  have hts := atoms_spec (ws := wsX0_timeFrom) B.pre
  have hown : s.vm.findClass RX0 = some m.cls := findClass_of_methodNamed B.named
  have hlocks := B.notSynchronized
  have hS : va_S A s.heap s.heap [] := va_S.rf
  have hinX0 : ∀ w ∈ u_ws RX0 TX0 10, w ∈ wsX0_timeFrom := by decide +kernel
  have hl := lv_entry ([.ref (gV g v), .int (nI f)]) (n := 3) (Nat.le_of_ble_eq_true rfl)
  rw [lg_entry_eq]
  generalize (lg_sl ([.ref (gV g v), .int (nI f)]) ++ List.replicate (3 - (lg_sl ([.ref (gV g v), .int (nI f)])).length) Slot.unset).toArray = ls at hl ⊢
  have hl : lv_has ls 3 [(0, .ref (gV g v)), (1, .int (nI f))] := hl
  refine lv_iload_n (pc := 0) hx hb dX0_timeFrom_0 rfl (lv_at hl 1 rfl) ?_
  refine lv_istore_n (lv' := [(2, .int (nI f)), (0, .ref (gV g v)), (1, .int (nI f))]) (pc := 1) hx hb dX0_timeFrom_1 rfl hl (by decide) rfl (fun ls hl => ?_)
  refine k_loopW2 (pc := 2) (nL := 3) (fun (i : Nat) (b : Nat → Nat → Int32) => (f ≤ i ∧ i ≤ sC σ v) ∧ (∀ w, w ≠ v → b w = sB σ w) ∧ ∀ s, s ≤ i → b v s = nI (bg σ v s)) (fun (i : Nat) (b : Nat → Nat → Int32) => sC σ v - i) (fun (i : Nat) (b : Nat → Nat → Int32) => [(2, .int (nI i)), (1, .int (nI f)), (0, .ref (gV g v))]) (fun (i : Nat) (b : Nat → Nat → Int32) => cw g (uB σ b) ++ rest) (fun i b hJ ih_2 H_2 locs_2 ls hP hD hS hl => ?_) f (sB σ) ⟨⟨Nat.le_refl _, hf⟩, fun _ _ => rfl, hB⟩ hP hD hS (lv_sub hl [0, 2, 1] rfl)
  obtain ⟨⟨hi0, hi⟩, h1, h2⟩ := hJ
  have hP : va_P (gD g) vwCl (cw g (uB σ b) ++ rest) H_2 := hP
  have hD : va_D A (cw g (uB σ b) ++ rest) := hD
  have hl : lv_has ls 3 [(2, .int (nI i)), (1, .int (nI f)), (0, .ref (gV g v))] := hl
  refine lv_iload_n (pc := 2) hx hb dX0_timeFrom_2 rfl (lv_at hl 0 rfl) ?_
  refine lv_aload_n (pc := 3) hx hb dX0_timeFrom_3 rfl (lv_at hl 2 rfl) ?_
  refine va_get (v := .int (nI (sC σ v))) (pc := 4) (D := gD g) (ci := 0) (C := RX0) (T := TX0) (N := 10) hx hb hts hinX0 hown hK hP (2 + 6 * v) (cv0 g (uB σ b) rest hv) rfl 4 (by decide) (hts (.fieldLink RX0 45 "ChoirNotes$Voice" "count" "I") (by decide +kernel)) (fun _ h9 => h9) rfl dX0_timeFrom_4 ?_
  refine lv_icmp_ge (tgt := 47) (pc := 7) hx hb dX0_timeFrom_7 (by decide) (fun c1 => ?_) (fun c1 => ?_)
  · have c1 : sC σ v ≤ i := (nI_leI (a := sC σ v) (b := i) (by omega) (by omega)).mp c1
    have c1 : sC σ v ≤ i := c1
    exact W.vret hx hb hr (fun t ht hW => ⟨⟨b, rfl, ⟨h1, fun s hs => h2 s (by omega)⟩, by rw [ht]; exact hP, hD⟩, hS.F ht⟩) hS.2.2 dX0_timeFrom_47
  · have c1 : ¬ (sC σ v ≤ i) := fun z => c1 ((nI_leI (a := sC σ v) (b := i) (by omega) (by omega)).mpr z)
    have c1 : ¬ sC σ v ≤ i := c1
    refine lv_aload_n (pc := 10) hx hb dX0_timeFrom_10 rfl (lv_at hl 2 rfl) ?_
    refine va_get (v := .ref (gA g v 4)) (pc := 11) (D := gD g) (ci := 0) (C := RX0) (T := TX0) (N := 10) hx hb hts hinX0 hown hK hP (2 + 6 * v) (cv0 g (uB σ b) rest hv) rfl 9 (by decide) (hts (.fieldLink RX0 29 "ChoirNotes$Voice" "begins" "[I") (by decide +kernel)) (fun _ h9 => h9) rfl dX0_timeFrom_11 ?_
    refine lv_iload_n (pc := 14) hx hb dX0_timeFrom_14 rfl (lv_at hl 0 rfl) ?_
    refine lv_iconst (v := 1) (pc := 15) hx hb dX0_timeFrom_15 (by decide) ?_
    refine lv_iadd (pc := 16) hx hb dX0_timeFrom_16 ?_
    refine k_cong (y := nI (i + 1)) (nI_1 i) ?_
    refine lv_aload_n (pc := 17) hx hb dX0_timeFrom_17 rfl (lv_at hl 2 rfl) ?_
    refine va_get (v := .ref (gA g v 4)) (pc := 18) (D := gD g) (ci := 0) (C := RX0) (T := TX0) (N := 10) hx hb hts hinX0 hown hK hP (2 + 6 * v) (cv0 g (uB σ b) rest hv) rfl 9 (by decide) (hts (.fieldLink RX0 29 "ChoirNotes$Voice" "begins" "[I") (by decide +kernel)) (fun _ h9 => h9) rfl dX0_timeFrom_18 ?_
    refine lv_iload_n (pc := 21) hx hb dX0_timeFrom_21 rfl (lv_at hl 0 rfl) ?_
    refine k_iald (pc := 22) (x := sB (uB σ b) v i) hx hb hK hP (7 + 6 * v) 0 (cv5 g (uB σ b) rest hv) rfl i rfl (by omega) (by decide) rfl dX0_timeFrom_22 ?_
    refine k_cong (y := nI (bg σ v i)) (h2 i (Nat.le_refl _)) ?_
    refine lv_aload_n (pc := 23) hx hb dX0_timeFrom_23 rfl (lv_at hl 2 rfl) ?_
    refine lv_aload_n (pc := 24) hx hb dX0_timeFrom_24 rfl (lv_at hl 2 rfl) ?_
    refine va_get (v := .ref (gA g v 0)) (pc := 25) (D := gD g) (ci := 0) (C := RX0) (T := TX0) (N := 10) hx hb hts hinX0 hown hK hP (2 + 6 * v) (cv0 g (uB σ b) rest hv) rfl 5 (by decide) (hts (.fieldLink RX0 15 "ChoirNotes$Voice" "kinds" "[I") (by decide +kernel)) (fun _ h9 => h9) rfl dX0_timeFrom_25 ?_
    refine lv_iload_n (pc := 28) hx hb dX0_timeFrom_28 rfl (lv_at hl 0 rfl) ?_
    refine k_iald (pc := 29) (x := nI (sK σ v i)) hx hb hK hP (3 + 6 * v) 0 (cv1 g (uB σ b) rest hv) rfl i rfl (by omega) (by decide) rfl dX0_timeFrom_29 ?_
    refine lv_aload_n (pc := 30) hx hb dX0_timeFrom_30 rfl (lv_at hl 2 rfl) ?_
    refine va_get (v := .ref (gA g v 2)) (pc := 31) (D := gD g) (ci := 0) (C := RX0) (T := TX0) (N := 10) hx hb hts hinX0 hown hK hP (2 + 6 * v) (cv0 g (uB σ b) rest hv) rfl 7 (by decide) (hts (.fieldLink RX0 22 "ChoirNotes$Voice" "colours" "[Z") (by decide +kernel)) (fun _ h9 => h9) rfl dX0_timeFrom_31 ?_
    refine lv_iload_n (pc := 34) hx hb dX0_timeFrom_34 rfl (lv_at hl 0 rfl) ?_
    refine k_zald (pc := 35) (x := bI (sR σ v i)) hx hb hK hP (5 + 6 * v) 1 (cv3 g (uB σ b) rest hv) rfl i rfl (by omega) (by decide) rfl dX0_timeFrom_35 ?_
    refine k_ri (pc := 36) (va_runV (As := [.int (nI (sK σ v i)), .int (bI (sR σ v i))]) (rest := [.int (nI (bg σ v i)), .int (nI (i + 1)), .ref (gA g v 4)]) ⟨hx, hb, hml, hown, hts⟩ (cX0_minimsByKind_m l g A (uB σ b) rest v (sK σ v i) (sR (uB σ b) v i) hv (hKd i)) (cwV 2 hts gX0_timeFrom_X0_minimsByKind rfl rfl rfl (by decide +kernel) ⟨Nat.le_of_ble_eq_true rfl, Nat.le_of_ble_eq_true rfl⟩) (cx_V (q0 := (2 + 6 * v)) (ci := 0) (r := (RX0, TX0, 10)) rfl (cv0 g (uB σ b) rest hv) hP hD hA hK hX hS) rfl rfl hl.1 rfl (lv_room (Nat.le_of_ble_eq_true rfl)) dX0_timeFrom_36 ⟨Nat.le_of_ble_eq_true rfl, Nat.le_of_ble_eq_true rfl⟩) (fun r_2 hr_2 => ?_)
    subst hr_2
    refine lv_iadd (pc := 39) hx hb dX0_timeFrom_39 ?_
    refine k_cong (y := nI (bg σ v (i + 1))) (nI_add _ _) ?_
    refine k_iast (pc := 40) (ws' := cw g (uB (uB σ b) (up2 (sB (uB σ b)) v (i + 1) (nI (bg σ v (i + 1))))) ++ rest) hx hb hK hP hD hS (7 + 6 * v) 0 (cv5 g (uB σ b) rest hv) rfl (i + 1) rfl (by omega) (by decide) (cs_B g (uB σ b) rest (i + 1) (nI (bg σ v (i + 1))) hv) dX0_timeFrom_40 (fun H3 locs3 hP hD hS => ?_)
    refine lv_iinc (v := nI (i + 1)) (lv' := [(2, .int (nI (i + 1))), (1, .int (nI f)), (0, .ref (gV g v))]) (pc := 41) hx hb dX0_timeFrom_41 hl (k := 0) rfl (nI_1 _) (by decide) rfl (fun ls hl => ?_)
    refine lv_goto (tgt := 2) (pc := 44) hx hb dX0_timeFrom_44 (by decide) ?_
    exact ih_2 (i + 1) ((up2 b v (i + 1) (nI (bg σ v (i + 1))))) ⟨⟨by omega, by omega⟩, fun w hw => (up2_row _ hw _ _).trans (h1 w hw), tf_step h2 rfl⟩ (by omega) _ _ _ hP hD hS (lv_sub hl [0, 1, 2] rfl)
set_option maxHeartbeats 4000000 in
set_option maxRecDepth 100000 in
/-- a mensuration -/
theorem cX0_measure_m (l : Launch) (g : GA) (A : Nat → Prop) (σ : St) (rest : va_W) (v a b c1 : Nat) (hv : v < 4) (hI : Inv σ) : Met l yX0_measure wsX0_measure ({ frames := 2, cells := 0, slots := 0, locals := 44 }) (va_Pc [.ref (gV g v), .int (nI a), .int (nI b), .int (nI c1)] (Cx g A (cw g σ ++ rest))) (va_Qv (fun (u : Nat → Nat → Int32) => tfP (meS σ v a b c1) v u) (fun u t => kB g A (cw g (uB (meS σ v a b c1) u) ++ rest) t) A) 0 0 A := by
  refine Met.ofW (cc := cX0_measure) (maxL := 4) (ret := none) (by decide) rfl ?_
  intro p e s m args below meth c s₁ B hml hv0
  obtain ⟨rfl, hP, hD, hA, hK, hX⟩ := hv0
  have hx := B.exec
  have hb := B.bytes
  have hr := B.returns
  have hts := atoms_spec (ws := wsX0_measure) B.pre
  have hown : s.vm.findClass RX0 = some m.cls := findClass_of_methodNamed B.named
  have hlocks := B.notSynchronized
  have hS : va_S A s.heap s.heap [] := va_S.rf
  have hinX0 : ∀ w ∈ u_ws RX0 TX0 10, w ∈ wsX0_measure := by decide +kernel
  have hl := lv_entry ([.ref (gV g v), .int (nI a), .int (nI b), .int (nI c1)]) (n := 4) (Nat.le_of_ble_eq_true rfl)
  rw [lg_entry_eq]
  generalize (lg_sl ([.ref (gV g v), .int (nI a), .int (nI b), .int (nI c1)]) ++ List.replicate (4 - (lg_sl ([.ref (gV g v), .int (nI a), .int (nI b), .int (nI c1)])).length) Slot.unset).toArray = ls at hl ⊢
  have hl : lv_has ls 4 [(0, .ref (gV g v)), (1, .int (nI a)), (2, .int (nI b)), (3, .int (nI c1))] := hl
  refine lv_aload_n (pc := 0) hx hb dX0_measure_0 rfl (lv_at hl 0 rfl) ?_
  refine lv_iload_n (pc := 1) hx hb dX0_measure_1 rfl (lv_at hl 1 rfl) ?_
  refine va_put (pc := 2) (D := gD g) (ci := 0) (v := .int (nI a)) (ty := .int) (C := RX0) (T := TX0) (N := 10) hx hb hts hinX0 tyX0 tyX0_ok nmX0 hown hK hP hD hS (2 + 6 * v) (cv0 g σ rest hv) rfl 0 (by decide) (hts (.fieldLink RX0 32 "ChoirNotes$Voice" "brevesInLonga" "I") (by decide +kernel)) (fun _ h9 => h9) rfl (by decide +kernel) rfl rfl (Nat.le_of_ble_eq_true rfl) dX0_measure_2 (fun H1 locs1 hP hD hS => ?_)
  have hP : va_P (gD g) vwCl (cw g (uM σ v 0 a) ++ rest) H1 := (cs_M0 g σ rest a hv) ▸ hP
  have hD : va_D A (cw g (uM σ v 0 a) ++ rest) := (cs_M0 g σ rest a hv) ▸ hD
  refine lv_aload_n (pc := 5) hx hb dX0_measure_5 rfl (lv_at hl 0 rfl) ?_
  refine lv_iload_n (pc := 6) hx hb dX0_measure_6 rfl (lv_at hl 2 rfl) ?_
  refine va_put (pc := 7) (D := gD g) (ci := 0) (v := .int (nI b)) (ty := .int) (C := RX0) (T := TX0) (N := 10) hx hb hts hinX0 tyX0 tyX0_ok nmX0 hown hK hP hD hS (2 + 6 * v) (cv0 g (uM σ v 0 a) rest hv) rfl 1 (by decide) (hts (.fieldLink RX0 35 "ChoirNotes$Voice" "semibrevesInBreve" "I") (by decide +kernel)) (fun _ h9 => h9) rfl (by decide +kernel) rfl rfl (Nat.le_of_ble_eq_true rfl) dX0_measure_7 (fun H2 locs2 hP hD hS => ?_)
  have hP : va_P (gD g) vwCl (cw g (uM (uM σ v 0 a) v 1 b) ++ rest) H2 := (cs_M1 g (uM σ v 0 a) rest b hv) ▸ hP
  have hD : va_D A (cw g (uM (uM σ v 0 a) v 1 b) ++ rest) := (cs_M1 g (uM σ v 0 a) rest b hv) ▸ hD
  refine lv_aload_n (pc := 10) hx hb dX0_measure_10 rfl (lv_at hl 0 rfl) ?_
  refine lv_iload_n (pc := 11) hx hb dX0_measure_11 rfl (lv_at hl 3 rfl) ?_
  refine va_put (pc := 12) (D := gD g) (ci := 0) (v := .int (nI c1)) (ty := .int) (C := RX0) (T := TX0) (N := 10) hx hb hts hinX0 tyX0 tyX0_ok nmX0 hown hK hP hD hS (2 + 6 * v) (cv0 g (uM (uM σ v 0 a) v 1 b) rest hv) rfl 2 (by decide) (hts (.fieldLink RX0 38 "ChoirNotes$Voice" "minimsInSemibreve" "I") (by decide +kernel)) (fun _ h9 => h9) rfl (by decide +kernel) rfl rfl (Nat.le_of_ble_eq_true rfl) dX0_measure_12 (fun H3 locs3 hP hD hS => ?_)
  have hP : va_P (gD g) vwCl (cw g (uM (uM (uM σ v 0 a) v 1 b) v 2 c1) ++ rest) H3 := (cs_M2 g (uM (uM σ v 0 a) v 1 b) rest c1 hv) ▸ hP
  have hD : va_D A (cw g (uM (uM (uM σ v 0 a) v 1 b) v 2 c1) ++ rest) := (cs_M2 g (uM (uM σ v 0 a) v 1 b) rest c1 hv) ▸ hD
  refine lv_aload_n (pc := 15) hx hb dX0_measure_15 rfl (lv_at hl 0 rfl) ?_
  refine lv_iconst (v := 0) (pc := 16) hx hb dX0_measure_16 (by decide) ?_
  refine va_callv (pc := 17) (va_runV (As := [.int 0]) (rest := []) ⟨hx, hb, hml, hown, hts⟩ (cX0_timeFrom_m l g A (uM (uM (uM σ v 0 a) v 1 b) v 2 c1) rest v 0 hv (hI.C v) (fun s => hI.K v s) (Nat.zero_le _) (fun s hs => by rw [Nat.le_zero.mp hs]; exact hI.B (v := v) (Nat.zero_le _))) (cwV 1 hts gX0_measure_X0_timeFrom rfl rfl rfl (by decide +kernel) ⟨Nat.le_of_ble_eq_true rfl, Nat.le_of_ble_eq_true rfl⟩) (cx_V (q0 := (2 + 6 * v)) (ci := 0) (r := (RX0, TX0, 10)) rfl (cv0 g (uM (uM (uM σ v 0 a) v 1 b) v 2 c1) rest hv) hP hD hA hK hX hS) rfl rfl hl.1 rfl (lv_room (Nat.le_of_ble_eq_true rfl)) dX0_measure_17 ⟨Nat.le_of_ble_eq_true rfl, Nat.le_of_ble_eq_true rfl⟩) hS (fun _ _ h => h) (fun _ h => h) (fun u5 t5 H5 locs5 ht5 hvm5 hw5 hB5 hz5 hk5 hS => ?_)
  obtain ⟨hP, hD⟩ := hB5
  rw [ht5] at hP
  exact W.vret hx hb hr (fun t ht hW => ⟨⟨u5, rfl, hw5, by rw [ht]; exact hP, hD⟩, hS.F ht⟩) hS.2.2 dX0_measure_20
set_option maxHeartbeats 4000000 in
set_option maxRecDepth 100000 in
/-- a sign behind the others -/
theorem cX0_append_m (l : Launch) (g : GA) (A : Nat → Prop) (σ : St) (rest : va_W) (v k0 : Nat) (p0 : Int32) (r0 : Bool) (t0 : Int32) (hv : v < 4) (hk3 : k0 ≤ 3) (hI : IvA σ v) (hc : sC σ v < 24) : Met l yX0_append wsX0_append ({ frames := 2, cells := 0, slots := 0, locals := 44 }) (va_Pc [.ref (gV g v), .int (nI k0), .int p0, .int (bI r0), .int t0] (Cx g A (cw g σ ++ rest))) (va_Qi (fun (r : Int32) (u : Nat → Nat → Int32) => r = nI (sC σ v) ∧ tfP (apS σ v k0 p0 r0 t0) v u) (fun u t => kB g A (cw g (uB (apS σ v k0 p0 r0 t0) u) ++ rest) t) A) 0 0 A := by
  refine Met.ofW (cc := cX0_append) (maxL := 6) (ret := (some .int)) (by decide) rfl ?_
  intro p e s m args below meth c s₁ B hml hv0
  obtain ⟨rfl, hP, hD, hA, hK, hX⟩ := hv0
  have hx := B.exec
  have hb := B.bytes
  have hr := B.returns
  have hts := atoms_spec (ws := wsX0_append) B.pre
  have hown : s.vm.findClass RX0 = some m.cls := findClass_of_methodNamed B.named
  have hlocks := B.notSynchronized
  have hS : va_S A s.heap s.heap [] := va_S.rf
  have hinX0 : ∀ w ∈ u_ws RX0 TX0 10, w ∈ wsX0_append := by decide +kernel
  have hl := lv_entry ([.ref (gV g v), .int (nI k0), .int p0, .int (bI r0), .int t0]) (n := 6) (Nat.le_of_ble_eq_true rfl)
  rw [lg_entry_eq]
  generalize (lg_sl ([.ref (gV g v), .int (nI k0), .int p0, .int (bI r0), .int t0]) ++ List.replicate (6 - (lg_sl ([.ref (gV g v), .int (nI k0), .int p0, .int (bI r0), .int t0])).length) Slot.unset).toArray = ls at hl ⊢
  have hl : lv_has ls 6 [(0, .ref (gV g v)), (1, .int (nI k0)), (2, .int p0), (3, .int (bI r0)), (4, .int t0)] := hl
  refine lv_aload_n (pc := 0) hx hb dX0_append_0 rfl (lv_at hl 0 rfl) ?_
  refine va_get (v := .int (nI (sC σ v))) (pc := 1) (D := gD g) (ci := 0) (C := RX0) (T := TX0) (N := 10) hx hb hts hinX0 hown hK hP (2 + 6 * v) (cv0 g σ rest hv) rfl 4 (by decide) (hts (.fieldLink RX0 45 "ChoirNotes$Voice" "count" "I") (by decide +kernel)) (fun _ h9 => h9) rfl dX0_append_1 ?_
  refine lv_istore (lv' := [(5, .int (nI (sC σ v))), (0, .ref (gV g v)), (1, .int (nI k0)), (2, .int p0), (3, .int (bI r0)), (4, .int t0)]) (pc := 4) hx hb dX0_append_4 hl (by decide) rfl (fun ls hl => ?_)
  refine lv_aload_n (pc := 6) hx hb dX0_append_6 rfl (lv_at hl 1 rfl) ?_
  refine va_get (v := .ref (gA g v 0)) (pc := 7) (D := gD g) (ci := 0) (C := RX0) (T := TX0) (N := 10) hx hb hts hinX0 hown hK hP (2 + 6 * v) (cv0 g σ rest hv) rfl 5 (by decide) (hts (.fieldLink RX0 15 "ChoirNotes$Voice" "kinds" "[I") (by decide +kernel)) (fun _ h9 => h9) rfl dX0_append_7 ?_
  refine lv_iload (pc := 10) hx hb dX0_append_10 (lv_at hl 0 rfl) ?_
  refine lv_iload_n (pc := 12) hx hb dX0_append_12 rfl (lv_at hl 2 rfl) ?_
  refine k_iast (pc := 13) (ws' := cw g (uK σ v (sC σ v) k0) ++ rest) hx hb hK hP hD hS (3 + 6 * v) 0 (cv1 g σ rest hv) rfl (sC σ v) rfl (by omega) (by decide) (cs_K g σ rest (sC σ v) k0 hv) dX0_append_13 (fun H1 locs1 hP hD hS => ?_)
  refine lv_aload_n (pc := 14) hx hb dX0_append_14 rfl (lv_at hl 1 rfl) ?_
  refine va_get (v := .ref (gA g v 1)) (pc := 15) (D := gD g) (ci := 0) (C := RX0) (T := TX0) (N := 10) hx hb hts hinX0 hown hK hP (2 + 6 * v) (cv0 g (uK σ v (sC σ v) k0) rest hv) rfl 6 (by decide) (hts (.fieldLink RX0 19 "ChoirNotes$Voice" "places" "[I") (by decide +kernel)) (fun _ h9 => h9) rfl dX0_append_15 ?_
  refine lv_iload (pc := 18) hx hb dX0_append_18 (lv_at hl 0 rfl) ?_
  refine lv_iload_n (pc := 20) hx hb dX0_append_20 rfl (lv_at hl 3 rfl) ?_
  refine k_iast (pc := 21) (ws' := cw g (uP (uK σ v (sC σ v) k0) v (sC σ v) p0) ++ rest) hx hb hK hP hD hS (4 + 6 * v) 0 (cv2 g (uK σ v (sC σ v) k0) rest hv) rfl (sC σ v) rfl (by omega) (by decide) (cs_P g (uK σ v (sC σ v) k0) rest (sC σ v) p0 hv) dX0_append_21 (fun H2 locs2 hP hD hS => ?_)
  refine lv_aload_n (pc := 22) hx hb dX0_append_22 rfl (lv_at hl 1 rfl) ?_
  refine va_get (v := .ref (gA g v 2)) (pc := 23) (D := gD g) (ci := 0) (C := RX0) (T := TX0) (N := 10) hx hb hts hinX0 hown hK hP (2 + 6 * v) (cv0 g (uP (uK σ v (sC σ v) k0) v (sC σ v) p0) rest hv) rfl 7 (by decide) (hts (.fieldLink RX0 22 "ChoirNotes$Voice" "colours" "[Z") (by decide +kernel)) (fun _ h9 => h9) rfl dX0_append_23 ?_
  refine lv_iload (pc := 26) hx hb dX0_append_26 (lv_at hl 0 rfl) ?_
  refine lv_iload_n (pc := 28) hx hb dX0_append_28 rfl (lv_at hl 4 rfl) ?_
  refine k_zast (pc := 29) (ws' := cw g (uR (uP (uK σ v (sC σ v) k0) v (sC σ v) p0) v (sC σ v) r0) ++ rest) hx hb hK hP hD hS (5 + 6 * v) 1 (cv3 g (uP (uK σ v (sC σ v) k0) v (sC σ v) p0) rest hv) rfl (sC σ v) rfl (by omega) (by decide) (kN_b _) (cs_R g (uP (uK σ v (sC σ v) k0) v (sC σ v) p0) rest (sC σ v) r0 hv) dX0_append_29 (fun H3 locs3 hP hD hS => ?_)
  refine lv_aload_n (pc := 30) hx hb dX0_append_30 rfl (lv_at hl 1 rfl) ?_
  refine va_get (v := .ref (gA g v 3)) (pc := 31) (D := gD g) (ci := 0) (C := RX0) (T := TX0) (N := 10) hx hb hts hinX0 hown hK hP (2 + 6 * v) (cv0 g (uR (uP (uK σ v (sC σ v) k0) v (sC σ v) p0) v (sC σ v) r0) rest hv) rfl 8 (by decide) (hts (.fieldLink RX0 26 "ChoirNotes$Voice" "ranks" "[I") (by decide +kernel)) (fun _ h9 => h9) rfl dX0_append_31 ?_
  refine lv_iload (pc := 34) hx hb dX0_append_34 (lv_at hl 0 rfl) ?_
  refine lv_iload (pc := 36) hx hb dX0_append_36 (lv_at hl 5 rfl) ?_
  refine k_iast (pc := 38) (ws' := cw g (uT (uR (uP (uK σ v (sC σ v) k0) v (sC σ v) p0) v (sC σ v) r0) v (sC σ v) t0) ++ rest) hx hb hK hP hD hS (6 + 6 * v) 0 (cv4 g (uR (uP (uK σ v (sC σ v) k0) v (sC σ v) p0) v (sC σ v) r0) rest hv) rfl (sC σ v) rfl (by omega) (by decide) (cs_T g (uR (uP (uK σ v (sC σ v) k0) v (sC σ v) p0) v (sC σ v) r0) rest (sC σ v) t0 hv) dX0_append_38 (fun H4 locs4 hP hD hS => ?_)
  refine lv_aload_n (pc := 39) hx hb dX0_append_39 rfl (lv_at hl 1 rfl) ?_
  refine lv_dup (pc := 40) hx hb dX0_append_40 rfl ?_
  refine va_get (v := .int (nI (sC (uT (uR (uP (uK σ v (sC σ v) k0) v (sC σ v) p0) v (sC σ v) r0) v (sC σ v) t0) v))) (pc := 41) (D := gD g) (ci := 0) (C := RX0) (T := TX0) (N := 10) hx hb hts hinX0 hown hK hP (2 + 6 * v) (cv0 g (uT (uR (uP (uK σ v (sC σ v) k0) v (sC σ v) p0) v (sC σ v) r0) v (sC σ v) t0) rest hv) rfl 4 (by decide) (hts (.fieldLink RX0 45 "ChoirNotes$Voice" "count" "I") (by decide +kernel)) (fun _ h9 => h9) rfl dX0_append_41 ?_
  refine lv_iconst (v := 1) (pc := 44) hx hb dX0_append_44 (by decide) ?_
  refine lv_iadd (pc := 45) hx hb dX0_append_45 ?_
  refine k_cong (y := nI (sC σ v + 1)) (nI_1 _) ?_
  refine va_put (pc := 46) (D := gD g) (ci := 0) (v := .int (nI (sC σ v + 1))) (ty := .int) (C := RX0) (T := TX0) (N := 10) hx hb hts hinX0 tyX0 tyX0_ok nmX0 hown hK hP hD hS (2 + 6 * v) (cv0 g (uT (uR (uP (uK σ v (sC σ v) k0) v (sC σ v) p0) v (sC σ v) r0) v (sC σ v) t0) rest hv) rfl 4 (by decide) (hts (.fieldLink RX0 45 "ChoirNotes$Voice" "count" "I") (by decide +kernel)) (fun _ h9 => h9) rfl (by decide +kernel) rfl rfl (Nat.le_of_ble_eq_true rfl) dX0_append_46 (fun H5 locs5 hP hD hS => ?_)
  have hP : va_P (gD g) vwCl (cw g (uC (uT (uR (uP (uK σ v (sC σ v) k0) v (sC σ v) p0) v (sC σ v) r0) v (sC σ v) t0) v (sC σ v + 1)) ++ rest) H5 := (cs_C g (uT (uR (uP (uK σ v (sC σ v) k0) v (sC σ v) p0) v (sC σ v) r0) v (sC σ v) t0) rest (sC σ v + 1) hv) ▸ hP
  have hD : va_D A (cw g (uC (uT (uR (uP (uK σ v (sC σ v) k0) v (sC σ v) p0) v (sC σ v) r0) v (sC σ v) t0) v (sC σ v + 1)) ++ rest) := (cs_C g (uT (uR (uP (uK σ v (sC σ v) k0) v (sC σ v) p0) v (sC σ v) r0) v (sC σ v) t0) rest (sC σ v + 1) hv) ▸ hD
  have hC : sC (apS σ v k0 p0 r0 t0) v = sC σ v + 1 := up1_s _ _ _
  have hP : va_P (gD g) vwCl (cw g (apS σ v k0 p0 r0 t0) ++ rest) H5 := hP
  have hD : va_D A (cw g (apS σ v k0 p0 r0 t0) ++ rest) := hD
  refine lv_aload_n (pc := 49) hx hb dX0_append_49 rfl (lv_at hl 1 rfl) ?_
  refine lv_iload (pc := 50) hx hb dX0_append_50 (lv_at hl 0 rfl) ?_
  refine va_callv (pc := 52) (va_runV (As := [.int (nI (sC σ v))]) (rest := []) ⟨hx, hb, hml, hown, hts⟩ (cX0_timeFrom_m l g A (apS σ v k0 p0 r0 t0) rest v (sC σ v) hv (by rw [hC]; omega) (fun s => by show up2 _ _ _ _ _ _ ≤ 3; unfold up2; split; exact hk3; exact hI.1 s) (by rw [hC]; omega) (fun s hs => (hI.2 s hs).trans (congrArg nI (bg_cong (σ := apS σ v k0 p0 r0 t0) (σ' := σ) (fun q hq => (apS_lg σ v k0 p0 r0 t0 (by omega)).symm))))) (cwV 1 hts gX0_append_X0_timeFrom rfl rfl rfl (by decide +kernel) ⟨Nat.le_of_ble_eq_true rfl, Nat.le_of_ble_eq_true rfl⟩) (cx_V (q0 := (2 + 6 * v)) (ci := 0) (r := (RX0, TX0, 10)) rfl (cv0 g (apS σ v k0 p0 r0 t0) rest hv) hP hD hA hK hX hS) rfl rfl hl.1 rfl (lv_room (Nat.le_of_ble_eq_true rfl)) dX0_append_52 ⟨Nat.le_of_ble_eq_true rfl, Nat.le_of_ble_eq_true rfl⟩) hS (fun _ _ h => h) (fun _ h => h) (fun u7 t7 H7 locs7 ht7 hvm7 hw7 hB7 hz7 hk7 hS => ?_)
  obtain ⟨hP, hD⟩ := hB7
  rw [ht7] at hP
  refine lv_iload (pc := 55) hx hb dX0_append_55 (lv_at hl 0 rfl) ?_
  exact W.iret hx hb hr (fun t ht hW => ⟨⟨_, u7, rfl, ⟨rfl, hw7⟩, by rw [ht]; exact hP, hD⟩, hS.F ht⟩) hS.2.2 dX0_append_57
set_option maxHeartbeats 4000000 in
set_option maxRecDepth 100000 in
/-- the last sign goes, of a ligature all -/
theorem cX0_dropLast_m (l : Launch) (g : GA) (A : Nat → Prop) (σ : St) (rest : va_W) (v : Nat) (hv : v < 4) (hI : Inv σ) (hc : 0 < sC σ v) : Met l yX0_dropLast wsX0_dropLast ({ frames := 0, cells := 0, slots := 0, locals := 0 }) (va_Pc [.ref (gV g v)] (Cx g A (cw g σ ++ rest))) (va_Qi (fun (r : Int32) (u : Unit) => r = nI (drN (sT σ v (sC σ v - 1)))) (fun u t => kB g A (cw g (uC σ v (sC σ v - drN (sT σ v (sC σ v - 1)))) ++ rest) t) A) 0 0 A := by
  refine Met.ofW (cc := cX0_dropLast) (maxL := 3) (ret := (some .int)) (by decide) rfl ?_
  intro p e s m args below meth c s₁ B hml hv0
  obtain ⟨rfl, hP, hD, hA, hK, hX⟩ := hv0
  have hx := B.exec
  have hb := B.bytes
  have hr := B.returns
  have hts := atoms_spec (ws := wsX0_dropLast) B.pre
  have hown : s.vm.findClass RX0 = some m.cls := findClass_of_methodNamed B.named
  have hlocks := B.notSynchronized
  have hS : va_S A s.heap s.heap [] := va_S.rf
  have hinX0 : ∀ w ∈ u_ws RX0 TX0 10, w ∈ wsX0_dropLast := by decide +kernel
  have hl := lv_entry ([.ref (gV g v)]) (n := 3) (Nat.le_of_ble_eq_true rfl)
  rw [lg_entry_eq]
  generalize (lg_sl ([.ref (gV g v)]) ++ List.replicate (3 - (lg_sl ([.ref (gV g v)])).length) Slot.unset).toArray = ls at hl ⊢
  have hl : lv_has ls 3 [(0, .ref (gV g v))] := hl
  have hC := hI.C v
  obtain ⟨d, hd1, hd2, hd3⟩ : ∃ d : Nat, drN (sT σ v (sC σ v - 1)) = d ∧ 1 ≤ d ∧ d ≤ sC σ v := by
    rcases hI.2.2.2.2.2.1 v (sC σ v - 1) with h | ⟨j, h1, h2, h3⟩
    · exact ⟨1, by rw [h]; rfl, by omega, by omega⟩
    · exact ⟨j + 1, by rw [h3, drN_n (by omega)], by omega, by omega⟩
  rw [hd1]
  refine lv_aload_n (pc := 0) hx hb dX0_dropLast_0 rfl (lv_at hl 0 rfl) ?_
  refine va_get (v := .ref (gA g v 3)) (pc := 1) (D := gD g) (ci := 0) (C := RX0) (T := TX0) (N := 10) hx hb hts hinX0 hown hK hP (2 + 6 * v) (cv0 g σ rest hv) rfl 8 (by decide) (hts (.fieldLink RX0 26 "ChoirNotes$Voice" "ranks" "[I") (by decide +kernel)) (fun _ h9 => h9) rfl dX0_dropLast_1 ?_
  refine lv_aload_n (pc := 4) hx hb dX0_dropLast_4 rfl (lv_at hl 0 rfl) ?_
  refine va_get (v := .int (nI (sC σ v))) (pc := 5) (D := gD g) (ci := 0) (C := RX0) (T := TX0) (N := 10) hx hb hts hinX0 hown hK hP (2 + 6 * v) (cv0 g σ rest hv) rfl 4 (by decide) (hts (.fieldLink RX0 45 "ChoirNotes$Voice" "count" "I") (by decide +kernel)) (fun _ h9 => h9) rfl dX0_dropLast_5 ?_
  refine lv_iconst (v := 1) (pc := 8) hx hb dX0_dropLast_8 (by decide) ?_
  refine lv_isub (pc := 9) hx hb dX0_dropLast_9 ?_
  refine k_cong (y := nI (sC σ v - 1)) (pk_sub (a := sC σ v) (b := 1) (by omega)) ?_
  refine k_iald (pc := 10) (x := sT σ v (sC σ v - 1)) hx hb hK hP (6 + 6 * v) 0 (cv4 g σ rest hv) rfl (sC σ v - 1) rfl (by omega) (by decide) rfl dX0_dropLast_10 ?_
  refine lv_istore_n (lv' := [(1, .int (sT σ v (sC σ v - 1))), (0, .ref (gV g v))]) (pc := 11) hx hb dX0_dropLast_11 rfl hl (by decide) rfl (fun ls hl => ?_)
  refine lv_iload_n (pc := 12) hx hb dX0_dropLast_12 rfl (lv_at hl 0 rfl) ?_
  refine lv_iconst (v := (-1)) (pc := 13) hx hb dX0_dropLast_13 (by decide) ?_
  refine lv_icmp_ne (tgt := 21) (pc := 14) hx hb dX0_dropLast_14 (by decide) (fun c1 => ?_) (fun c1 => ?_)
  · have hd4 : sT σ v (sC σ v - 1) + 1 = nI d := by
      rcases hI.2.2.2.2.2.1 v (sC σ v - 1) with h | ⟨j, h1, h2, h3⟩
      · exact absurd h c1
      · rw [← hd1, h3, drN_n (by omega), nI_1]
    refine lv_iload_n (pc := 21) hx hb dX0_dropLast_21 rfl (lv_at hl 0 rfl) ?_
    refine lv_iconst (v := 1) (pc := 22) hx hb dX0_dropLast_22 (by decide) ?_
    refine lv_iadd (pc := 23) hx hb dX0_dropLast_23 ?_
    refine k_cong (y := nI d) hd4 ?_
    refine lv_istore_n (lv' := [(2, .int (nI d)), (1, .int (sT σ v (sC σ v - 1))), (0, .ref (gV g v))]) (pc := 24) hx hb dX0_dropLast_24 rfl hl (by decide) rfl (fun ls hl => ?_)
    refine lv_aload_n (pc := 25) hx hb dX0_dropLast_25 rfl (lv_at hl 2 rfl) ?_
    refine lv_dup (pc := 26) hx hb dX0_dropLast_26 rfl ?_
    refine va_get (v := .int (nI (sC σ v))) (pc := 27) (D := gD g) (ci := 0) (C := RX0) (T := TX0) (N := 10) hx hb hts hinX0 hown hK hP (2 + 6 * v) (cv0 g σ rest hv) rfl 4 (by decide) (hts (.fieldLink RX0 45 "ChoirNotes$Voice" "count" "I") (by decide +kernel)) (fun _ h9 => h9) rfl dX0_dropLast_27 ?_
    refine lv_iload_n (pc := 30) hx hb dX0_dropLast_30 rfl (lv_at hl 0 rfl) ?_
    refine lv_isub (pc := 31) hx hb dX0_dropLast_31 ?_
    refine k_cong (y := nI (sC σ v - d)) (pk_sub (by omega)) ?_
    refine va_put (pc := 32) (D := gD g) (ci := 0) (v := .int (nI (sC σ v - d))) (ty := .int) (C := RX0) (T := TX0) (N := 10) hx hb hts hinX0 tyX0 tyX0_ok nmX0 hown hK hP hD hS (2 + 6 * v) (cv0 g σ rest hv) rfl 4 (by decide) (hts (.fieldLink RX0 45 "ChoirNotes$Voice" "count" "I") (by decide +kernel)) (fun _ h9 => h9) rfl (by decide +kernel) rfl rfl (Nat.le_of_ble_eq_true rfl) dX0_dropLast_32 (fun H2 locs2 hP hD hS => ?_)
    have hP : va_P (gD g) vwCl (cw g (uC σ v (sC σ v - d)) ++ rest) H2 := (cs_C g σ rest (sC σ v - d) hv) ▸ hP
    have hD : va_D A (cw g (uC σ v (sC σ v - d)) ++ rest) := (cs_C g σ rest (sC σ v - d) hv) ▸ hD
    refine lv_iload_n (pc := 35) hx hb dX0_dropLast_35 rfl (lv_at hl 0 rfl) ?_
    exact W.iret hx hb hr (fun t ht hW => ⟨⟨_, (), rfl, rfl, by rw [ht]; exact hP, hD⟩, hS.F ht⟩) hS.2.2 dX0_dropLast_36
  · have hd4 : (1 : Int32) = nI d := by rw [← hd1]; unfold drN; rw [if_pos c1]; rfl
    refine lv_iconst (v := 1) (pc := 17) hx hb dX0_dropLast_17 (by decide) ?_
    refine lv_goto (tgt := 24) (pc := 18) hx hb dX0_dropLast_18 (by decide) ?_
    refine k_cong (y := nI d) hd4 ?_
    refine lv_istore_n (lv' := [(2, .int (nI d)), (1, .int (sT σ v (sC σ v - 1))), (0, .ref (gV g v))]) (pc := 24) hx hb dX0_dropLast_24 rfl hl (by decide) rfl (fun ls hl => ?_)
    refine lv_aload_n (pc := 25) hx hb dX0_dropLast_25 rfl (lv_at hl 2 rfl) ?_
    refine lv_dup (pc := 26) hx hb dX0_dropLast_26 rfl ?_
    refine va_get (v := .int (nI (sC σ v))) (pc := 27) (D := gD g) (ci := 0) (C := RX0) (T := TX0) (N := 10) hx hb hts hinX0 hown hK hP (2 + 6 * v) (cv0 g σ rest hv) rfl 4 (by decide) (hts (.fieldLink RX0 45 "ChoirNotes$Voice" "count" "I") (by decide +kernel)) (fun _ h9 => h9) rfl dX0_dropLast_27 ?_
    refine lv_iload_n (pc := 30) hx hb dX0_dropLast_30 rfl (lv_at hl 0 rfl) ?_
    refine lv_isub (pc := 31) hx hb dX0_dropLast_31 ?_
    refine k_cong (y := nI (sC σ v - d)) (pk_sub (by omega)) ?_
    refine va_put (pc := 32) (D := gD g) (ci := 0) (v := .int (nI (sC σ v - d))) (ty := .int) (C := RX0) (T := TX0) (N := 10) hx hb hts hinX0 tyX0 tyX0_ok nmX0 hown hK hP hD hS (2 + 6 * v) (cv0 g σ rest hv) rfl 4 (by decide) (hts (.fieldLink RX0 45 "ChoirNotes$Voice" "count" "I") (by decide +kernel)) (fun _ h9 => h9) rfl (by decide +kernel) rfl rfl (Nat.le_of_ble_eq_true rfl) dX0_dropLast_32 (fun H3 locs3 hP hD hS => ?_)
    have hP : va_P (gD g) vwCl (cw g (uC σ v (sC σ v - d)) ++ rest) H3 := (cs_C g σ rest (sC σ v - d) hv) ▸ hP
    have hD : va_D A (cw g (uC σ v (sC σ v - d)) ++ rest) := (cs_C g σ rest (sC σ v - d) hv) ▸ hD
    refine lv_iload_n (pc := 35) hx hb dX0_dropLast_35 rfl (lv_at hl 0 rfl) ?_
    exact W.iret hx hb hr (fun t ht hW => ⟨⟨_, (), rfl, rfl, by rw [ht]; exact hP, hD⟩, hS.F ht⟩) hS.2.2 dX0_dropLast_36
set_option maxHeartbeats 4000000 in
set_option maxRecDepth 100000 in
/-- a colour turned -/
theorem cX0_turnColour_m (l : Launch) (g : GA) (A : Nat → Prop) (σ : St) (rest : va_W) (v s0 : Nat) (hv : v < 4) (hI : Inv σ) (hs : s0 < sC σ v) : Met l yX0_turnColour wsX0_turnColour ({ frames := 2, cells := 0, slots := 0, locals := 44 }) (va_Pc [.ref (gV g v), .int (nI s0)] (Cx g A (cw g σ ++ rest))) (va_Qi (fun (r : Int32) (u : Nat → Nat → Int32) => r = bI (!sR σ v s0) ∧ tfP (uR σ v s0 (!sR σ v s0)) v u) (fun u t => kB g A (cw g (uB (uR σ v s0 (!sR σ v s0)) u) ++ rest) t) A) 0 0 A := by
  refine Met.ofW (cc := cX0_turnColour) (maxL := 2) (ret := (some .boolean)) (by decide) rfl ?_
  intro p e s m args below meth c s₁ B hml hv0
  obtain ⟨rfl, hP, hD, hA, hK, hX⟩ := hv0
  have hx := B.exec
  have hb := B.bytes
  have hr := B.returns
  have hts := atoms_spec (ws := wsX0_turnColour) B.pre
  have hown : s.vm.findClass RX0 = some m.cls := findClass_of_methodNamed B.named
  have hlocks := B.notSynchronized
  have hS : va_S A s.heap s.heap [] := va_S.rf
  have hinX0 : ∀ w ∈ u_ws RX0 TX0 10, w ∈ wsX0_turnColour := by decide +kernel
  have hl := lv_entry ([.ref (gV g v), .int (nI s0)]) (n := 2) (Nat.le_of_ble_eq_true rfl)
  rw [lg_entry_eq]
  generalize (lg_sl ([.ref (gV g v), .int (nI s0)]) ++ List.replicate (2 - (lg_sl ([.ref (gV g v), .int (nI s0)])).length) Slot.unset).toArray = ls at hl ⊢
  have hl : lv_has ls 2 [(0, .ref (gV g v)), (1, .int (nI s0))] := hl
  have hC := hI.C v
  refine lv_aload_n (pc := 0) hx hb dX0_turnColour_0 rfl (lv_at hl 0 rfl) ?_
  refine va_get (v := .ref (gA g v 2)) (pc := 1) (D := gD g) (ci := 0) (C := RX0) (T := TX0) (N := 10) hx hb hts hinX0 hown hK hP (2 + 6 * v) (cv0 g σ rest hv) rfl 7 (by decide) (hts (.fieldLink RX0 22 "ChoirNotes$Voice" "colours" "[Z") (by decide +kernel)) (fun _ h9 => h9) rfl dX0_turnColour_1 ?_
  refine lv_iload_n (pc := 4) hx hb dX0_turnColour_4 rfl (lv_at hl 1 rfl) ?_
  refine lv_aload_n (pc := 5) hx hb dX0_turnColour_5 rfl (lv_at hl 0 rfl) ?_
  refine va_get (v := .ref (gA g v 2)) (pc := 6) (D := gD g) (ci := 0) (C := RX0) (T := TX0) (N := 10) hx hb hts hinX0 hown hK hP (2 + 6 * v) (cv0 g σ rest hv) rfl 7 (by decide) (hts (.fieldLink RX0 22 "ChoirNotes$Voice" "colours" "[Z") (by decide +kernel)) (fun _ h9 => h9) rfl dX0_turnColour_6 ?_
  refine lv_iload_n (pc := 9) hx hb dX0_turnColour_9 rfl (lv_at hl 1 rfl) ?_
  refine k_zald (pc := 10) (x := bI (sR σ v s0)) hx hb hK hP (5 + 6 * v) 1 (cv3 g σ rest hv) rfl s0 rfl (by omega) (by decide) rfl dX0_turnColour_10 ?_
  refine lv_if_ne (tgt := 18) (pc := 11) hx hb dX0_turnColour_11 (by decide) (fun c1 => ?_) (fun c1 => ?_)
  · have c1 := bI_n0.mp c1
    refine lv_iconst (v := 0) (pc := 18) hx hb dX0_turnColour_18 (by decide) ?_
    refine k_cong (y := bI (!sR σ v s0)) (by rw [c1]; rfl) ?_
    refine k_zast (pc := 19) (ws' := cw g (uR σ v s0 (!sR σ v s0)) ++ rest) hx hb hK hP hD hS (5 + 6 * v) 1 (cv3 g σ rest hv) rfl s0 rfl (by omega) (by decide) (kN_b _) (cs_R g σ rest s0 (!sR σ v s0) hv) dX0_turnColour_19 (fun H2 locs2 hP hD hS => ?_)
    refine lv_aload_n (pc := 20) hx hb dX0_turnColour_20 rfl (lv_at hl 0 rfl) ?_
    refine lv_iload_n (pc := 21) hx hb dX0_turnColour_21 rfl (lv_at hl 1 rfl) ?_
    refine va_callv (pc := 22) (va_runV (As := [.int (nI s0)]) (rest := []) ⟨hx, hb, hml, hown, hts⟩ (cX0_timeFrom_m l g A (uR σ v s0 (!sR σ v s0)) rest v s0 hv hC (fun s => hI.K v s) (by show s0 ≤ sC σ v; omega) (fun s hs => (hI.B (v := v) (by omega)).trans (congrArg nI (bg_cong (σ := uR σ v s0 (!sR σ v s0)) (σ' := σ) (fun q hq => (uR_lg σ v s0 _ (by omega)).symm))))) (cwV 1 hts gX0_turnColour_X0_timeFrom rfl rfl rfl (by decide +kernel) ⟨Nat.le_of_ble_eq_true rfl, Nat.le_of_ble_eq_true rfl⟩) (cx_V (q0 := (2 + 6 * v)) (ci := 0) (r := (RX0, TX0, 10)) rfl (cv0 g (uR σ v s0 (!sR σ v s0)) rest hv) hP hD hA hK hX hS) rfl rfl hl.1 rfl (lv_room (Nat.le_of_ble_eq_true rfl)) dX0_turnColour_22 ⟨Nat.le_of_ble_eq_true rfl, Nat.le_of_ble_eq_true rfl⟩) hS (fun _ _ h => h) (fun _ h => h) (fun u4 t4 H4 locs4 ht4 hvm4 hw4 hB4 hz4 hk4 hS => ?_)
    obtain ⟨hP, hD⟩ := hB4
    rw [ht4] at hP
    refine lv_aload_n (pc := 25) hx hb dX0_turnColour_25 rfl (lv_at hl 0 rfl) ?_
    refine va_get (v := .ref (gA g v 2)) (pc := 26) (D := gD g) (ci := 0) (C := RX0) (T := TX0) (N := 10) hx hb hts hinX0 hown hK hP (2 + 6 * v) (cv0 g (uB (uR σ v s0 (!sR σ v s0)) u4) rest hv) rfl 7 (by decide) (hts (.fieldLink RX0 22 "ChoirNotes$Voice" "colours" "[Z") (by decide +kernel)) (fun _ h9 => h9) rfl dX0_turnColour_26 ?_
    refine lv_iload_n (pc := 29) hx hb dX0_turnColour_29 rfl (lv_at hl 1 rfl) ?_
    refine k_zald (pc := 30) (x := bI (sR (uR σ v s0 (!sR σ v s0)) v s0)) hx hb hK hP (5 + 6 * v) 1 (cv3 g (uB (uR σ v s0 (!sR σ v s0)) u4) rest hv) rfl s0 rfl (by omega) (by decide) rfl dX0_turnColour_30 ?_
    refine k_cong (y := bI (!sR σ v s0)) (congrArg bI (up2_s _ _ _ _)) ?_
    exact W.zret (v := bI (!sR σ v s0)) hx hb hr (bI_nar _) (fun t ht hW => ⟨⟨_, u4, rfl, ⟨rfl, hw4⟩, by rw [ht]; exact hP, hD⟩, hS.F ht⟩) hS.2.2 dX0_turnColour_31
  · have c1 := bI_0.mp c1
    refine lv_iconst (v := 1) (pc := 14) hx hb dX0_turnColour_14 (by decide) ?_
    refine lv_goto (tgt := 19) (pc := 15) hx hb dX0_turnColour_15 (by decide) ?_
    refine k_cong (y := bI (!sR σ v s0)) (by rw [c1]; rfl) ?_
    refine k_zast (pc := 19) (ws' := cw g (uR σ v s0 (!sR σ v s0)) ++ rest) hx hb hK hP hD hS (5 + 6 * v) 1 (cv3 g σ rest hv) rfl s0 rfl (by omega) (by decide) (kN_b _) (cs_R g σ rest s0 (!sR σ v s0) hv) dX0_turnColour_19 (fun H5 locs5 hP hD hS => ?_)
    refine lv_aload_n (pc := 20) hx hb dX0_turnColour_20 rfl (lv_at hl 0 rfl) ?_
    refine lv_iload_n (pc := 21) hx hb dX0_turnColour_21 rfl (lv_at hl 1 rfl) ?_
    refine va_callv (pc := 22) (va_runV (As := [.int (nI s0)]) (rest := []) ⟨hx, hb, hml, hown, hts⟩ (cX0_timeFrom_m l g A (uR σ v s0 (!sR σ v s0)) rest v s0 hv hC (fun s => hI.K v s) (by show s0 ≤ sC σ v; omega) (fun s hs => (hI.B (v := v) (by omega)).trans (congrArg nI (bg_cong (σ := uR σ v s0 (!sR σ v s0)) (σ' := σ) (fun q hq => (uR_lg σ v s0 _ (by omega)).symm))))) (cwV 1 hts gX0_turnColour_X0_timeFrom rfl rfl rfl (by decide +kernel) ⟨Nat.le_of_ble_eq_true rfl, Nat.le_of_ble_eq_true rfl⟩) (cx_V (q0 := (2 + 6 * v)) (ci := 0) (r := (RX0, TX0, 10)) rfl (cv0 g (uR σ v s0 (!sR σ v s0)) rest hv) hP hD hA hK hX hS) rfl rfl hl.1 rfl (lv_room (Nat.le_of_ble_eq_true rfl)) dX0_turnColour_22 ⟨Nat.le_of_ble_eq_true rfl, Nat.le_of_ble_eq_true rfl⟩) hS (fun _ _ h => h) (fun _ h => h) (fun u7 t7 H7 locs7 ht7 hvm7 hw7 hB7 hz7 hk7 hS => ?_)
    obtain ⟨hP, hD⟩ := hB7
    rw [ht7] at hP
    refine lv_aload_n (pc := 25) hx hb dX0_turnColour_25 rfl (lv_at hl 0 rfl) ?_
    refine va_get (v := .ref (gA g v 2)) (pc := 26) (D := gD g) (ci := 0) (C := RX0) (T := TX0) (N := 10) hx hb hts hinX0 hown hK hP (2 + 6 * v) (cv0 g (uB (uR σ v s0 (!sR σ v s0)) u7) rest hv) rfl 7 (by decide) (hts (.fieldLink RX0 22 "ChoirNotes$Voice" "colours" "[Z") (by decide +kernel)) (fun _ h9 => h9) rfl dX0_turnColour_26 ?_
    refine lv_iload_n (pc := 29) hx hb dX0_turnColour_29 rfl (lv_at hl 1 rfl) ?_
    refine k_zald (pc := 30) (x := bI (sR (uR σ v s0 (!sR σ v s0)) v s0)) hx hb hK hP (5 + 6 * v) 1 (cv3 g (uB (uR σ v s0 (!sR σ v s0)) u7) rest hv) rfl s0 rfl (by omega) (by decide) rfl dX0_turnColour_30 ?_
    refine k_cong (y := bI (!sR σ v s0)) (congrArg bI (up2_s _ _ _ _)) ?_
    exact W.zret (v := bI (!sR σ v s0)) hx hb hr (bI_nar _) (fun t ht hW => ⟨⟨_, u7, rfl, ⟨rfl, hw7⟩, by rw [ht]; exact hP, hD⟩, hS.F ht⟩) hS.2.2 dX0_turnColour_31
