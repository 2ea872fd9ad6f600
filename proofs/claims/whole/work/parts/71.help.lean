/-! THE LAW'S HELPERS -/
set_option maxHeartbeats 4000000 in
set_option maxRecDepth 100000 in
/-- the law: addVoice -/
theorem hL_addVoice (l : Launch) (hfl : l.stackTraces = false) (g : GA) (A : Nat → Prop) (σ : St) (f : Nat → Int64) (rest : va_W) (a0 : Int32) (b0 : Int32) (c0 : Int32) (hI : Inv σ) : Met l yL_addVoice wsL_addVoice ({ frames := 9, cells := 4, slots := 24, locals := 157 }) (va_Pc [.ref (gX g), .int a0, .int b0, .int c0, .ref (gO g)] (CxL g A (cw g σ ++ (ow g f ++ rest)))) (va_Qi (fun (r : Int32) (u : (Nat → Nat → Int32) × (Nat → Int64)) => r = nI (cd_addVoice σ a0 b0 c0) ∧ Inv (uB (efs (cd_addVoice σ a0 b0 c0) (ef_addVoice σ a0 b0 c0) σ) u.1) ∧ (cd_addVoice σ a0 b0 c0 = 0 → u.2 0 = (nI (sN σ)).toInt64)) (fun u t => kB g A (cw g (uB (efs (cd_addVoice σ a0 b0 c0) (ef_addVoice σ a0 b0 c0) σ) u.1) ++ (ow g u.2 ++ rest)) t) A) 4 24 A := by
  refine k_ofWH (cc := cL_addVoice) (maxL := 6) (ret := some .int) (hh := [(0, 12, 15, 13), (0, 12, 19, 15)]) (by decide) rfl ?_
  intro p e s m args below meth c s₁ B hml htab hv0
  obtain ⟨rfl, ⟨hP, hD, hA, hK, hX⟩, hNc⟩ := hv0
  have hx := B.exec
  have hb := B.bytes
  have hr := B.returns
  have hts := atoms_spec (ws := wsL_addVoice) B.pre
  have hown : s.vm.findClass RL = some m.cls := findClass_of_methodNamed B.named
  have hlocks := B.notSynchronized
  have hS : va_S A s.heap s.heap [] := va_S.rf
  have hl := lv_entry ([.ref (gX g), .int a0, .int b0, .int c0, .ref (gO g)]) (n := 6) (Nat.le_of_ble_eq_true rfl)
  rw [lg_entry_eq]
  generalize (lg_sl ([.ref (gX g), .int a0, .int b0, .int c0, .ref (gO g)]) ++ List.replicate (6 - (lg_sl ([.ref (gX g), .int a0, .int b0, .int c0, .ref (gO g)])).length) Slot.unset).toArray = ls at hl ⊢
  have hl : lv_has ls 6 [(0, .ref (gX g)), (1, .int a0), (2, .int b0), (3, .int c0), (4, .ref (gO g))] := hl
  refine lv_aload (pc := 0) hx hb dL_addVoice_0 (lv_at hl 4 rfl) ?_
  refine lv_iconst (v := 0) (pc := 2) hx hb dL_addVoice_2 (by decide) ?_
  refine lv_aload_n (pc := 3) hx hb dL_addVoice_3 rfl (lv_at hl 0 rfl) ?_
  refine lv_iload_n (pc := 4) hx hb dL_addVoice_4 rfl (lv_at hl 1 rfl) ?_
  refine lv_iload_n (pc := 5) hx hb dL_addVoice_5 rfl (lv_at hl 2 rfl) ?_
  refine lv_iload_n (pc := 6) hx hb dL_addVoice_6 rfl (lv_at hl 3 rfl) ?_
  refine k_hwi (pc := 7) (vx_runV (As := [.int a0, .int b0, .int c0]) (rest := [.int 0, .ref (gO g)]) ⟨hx, hb, hml, hown, hts⟩ (cX1_addVoice_m l hfl g A σ (ow g f ++ rest) a0 b0 c0 hI) (cwV 3 hts gL_addVoice_X1_addVoice rfl rfl rfl (by decide +kernel) ⟨Nat.le_of_ble_eq_true rfl, Nat.le_of_ble_eq_true rfl⟩) (cx_V (q0 := 0) (ci := 1) (r := (RX1, TX1, 2)) rfl (cx0 g σ (ow g f ++ rest)) hP hD hA hK hX hS) rfl rfl hl.1 rfl (lv_room (Nat.le_of_ble_eq_true rfl)) dL_addVoice_7 ⟨Nat.le_of_ble_eq_true rfl, Nat.le_of_ble_eq_true rfl⟩) hS (fun E ce q9 H1 locs1 hE hS hkp hcell hcv hcl => ?_) (fun r u t H1 locs1 ht hr1 hB hS => ?_)
  · have hP : va_P (gD g) vwCl (cw g σ ++ (ow g f ++ rest)) H1 := hP.kept (fun k q hk => hkp q.1 ((hP k q hk).lt))
    rcases hE with ⟨rfl, hcd⟩ | ⟨rfl, hcd⟩
    · rw [hcd]
      refine vx_catch (E := eA) (name := "java/lang/IllegalArgumentException") hown [] (⟨0, 12, 15, 13⟩ : ExceptionTableEntry) [(⟨0, 12, 19, 15⟩ : ExceptionTableEntry)] (htab.trans rfl) (fun z hz => absurd hz List.not_mem_nil) (by decide) (by decide) (hts (.classLink RL 13 "java/lang/IllegalArgumentException") (by decide +kernel)) (va_Nw.use rfl (hX.cast (E := eA) (by decide))) hcell hcv hcl ?_
      refine lv_astore (lv' := [(5, .ref q9), (0, .ref (gX g)), (1, .int a0), (2, .int b0), (3, .int c0), (4, .ref (gO g))]) (pc := 15) hx hb dL_addVoice_15 hl (by decide) rfl (fun ls hl => ?_)
      refine lv_iconst (v := 1) (pc := 17) hx hb dL_addVoice_17 (by decide) ?_
      refine W.widen (k := 4) (n := 24) (Nat.le_of_ble_eq_true rfl) (Nat.le_of_ble_eq_true rfl) ?_
      exact W.iret hx hb hr (fun t ht hW => ⟨⟨_, (sB σ, f), rfl, ⟨rfl, hI, fun q => absurd q (by decide)⟩, by rw [ht]; exact hP, hD⟩, hS.F ht⟩) hS.2.2 dL_addVoice_18
    · rw [hcd]
      refine vx_catch (E := eS) (name := "java/lang/IllegalStateException") hown [(⟨0, 12, 15, 13⟩ : ExceptionTableEntry)] (⟨0, 12, 19, 15⟩ : ExceptionTableEntry) [] (htab.trans rfl) (List.forall_mem_cons.mpr ⟨Or.inr ⟨by decide, "java/lang/IllegalArgumentException", hts (.classLink RL 13 "java/lang/IllegalArgumentException") (by decide +kernel), hNc (eS, eA) (by decide)⟩, (fun z hz => absurd hz List.not_mem_nil)⟩) (by decide) (by decide) (hts (.classLink RL 15 "java/lang/IllegalStateException") (by decide +kernel)) (va_Nw.use rfl (hX.cast (E := eS) (by decide))) hcell hcv hcl ?_
      refine lv_astore (lv' := [(5, .ref q9), (0, .ref (gX g)), (1, .int a0), (2, .int b0), (3, .int c0), (4, .ref (gO g))]) (pc := 19) hx hb dL_addVoice_19 hl (by decide) rfl (fun ls hl => ?_)
      refine lv_iconst (v := 2) (pc := 21) hx hb dL_addVoice_21 (by decide) ?_
      refine W.widen (k := 4) (n := 24) (Nat.le_of_ble_eq_true rfl) (Nat.le_of_ble_eq_true rfl) ?_
      exact W.iret hx hb hr (fun t ht hW => ⟨⟨_, (sB σ, f), rfl, ⟨rfl, hI, fun q => absurd q (by decide)⟩, by rw [ht]; exact hP, hD⟩, hS.F ht⟩) hS.2.2 dL_addVoice_22
  · obtain ⟨hcd, rfl, hI1⟩ := hr1
    obtain ⟨hP, hD⟩ := hB
    rw [ht] at hP
    rw [hcd]
    refine lv_i2l (pc := 10) hx hb dL_addVoice_10 rfl ?_
    refine k_last (pc := 11) (ws' := cw g (uB (ef_addVoice σ a0 b0 c0) u) ++ (ow g (vp_updL f 0 ((nI (sN σ)).toInt64)) ++ rest)) hx hb hK hP hD hS 26 3 (oa g (uB (ef_addVoice σ a0 b0 c0) u) f rest) rfl 0 rfl (by decide) (by decide) (os g (uB (ef_addVoice σ a0 b0 c0) u) f (vp_updL f 0 ((nI (sN σ)).toInt64)) rest) dL_addVoice_11 (fun H1 locs1 hP hD hS => ?_)
    refine lv_goto (tgt := 23) (pc := 12) hx hb dL_addVoice_12 (by decide) ?_
    refine lv_iconst (v := 0) (pc := 23) hx hb dL_addVoice_23 (by decide) ?_
    refine W.widen (k := 4) (n := 24) (Nat.le_of_ble_eq_true rfl) (Nat.le_of_ble_eq_true rfl) ?_
    exact W.iret hx hb hr (fun t ht hW => ⟨⟨_, (u, (vp_updL f 0 ((nI (sN σ)).toInt64))), rfl, ⟨rfl, hI1, fun _ => rfl⟩, by rw [ht]; exact hP, hD⟩, hS.F ht⟩) hS.2.2 dL_addVoice_24
set_option maxHeartbeats 4000000 in
set_option maxRecDepth 100000 in
/-- the law: addNote -/
theorem hL_addNote (l : Launch) (hfl : l.stackTraces = false) (g : GA) (A : Nat → Prop) (σ : St) (f : Nat → Int64) (rest : va_W) (p0 : Int32) (k0 : Int32) (q0 : Int32) (z0 : Bool) (hI : Inv σ) : Met l yL_addNote wsL_addNote ({ frames := 8, cells := 4, slots := 24, locals := 137 }) (va_Pc [.ref (gX g), .int p0, .int k0, .int q0, .int (bI z0), .ref (gO g)] (CxL g A (cw g σ ++ (ow g f ++ rest)))) (va_Qi (fun (r : Int32) (u : (Nat → Nat → Int32) × (Nat → Int64)) => r = nI (cd_addNote σ p0 k0 q0) ∧ Inv (uB (efs (cd_addNote σ p0 k0 q0) (apS σ (ix p0) (ix k0) q0 z0 (-1)) σ) u.1) ∧ (cd_addNote σ p0 k0 q0 = 0 → u.2 0 = (nI (sC σ (ix p0))).toInt64)) (fun u t => kB g A (cw g (uB (efs (cd_addNote σ p0 k0 q0) (apS σ (ix p0) (ix k0) q0 z0 (-1)) σ) u.1) ++ (ow g u.2 ++ rest)) t) A) 4 24 A := by
  refine k_ofWH (cc := cL_addNote) (maxL := 7) (ret := some .int) (hh := [(0, 14, 17, 21), (0, 14, 21, 13), (0, 14, 25, 15)]) (by decide) rfl ?_
  intro p e s m args below meth c s₁ B hml htab hv0
  obtain ⟨rfl, ⟨hP, hD, hA, hK, hX⟩, hNc⟩ := hv0
  have hx := B.exec
  have hb := B.bytes
  have hr := B.returns
  have hts := atoms_spec (ws := wsL_addNote) B.pre
  have hown : s.vm.findClass RL = some m.cls := findClass_of_methodNamed B.named
  have hlocks := B.notSynchronized
  have hS : va_S A s.heap s.heap [] := va_S.rf
  have hl := lv_entry ([.ref (gX g), .int p0, .int k0, .int q0, .int (bI z0), .ref (gO g)]) (n := 7) (Nat.le_of_ble_eq_true rfl)
  rw [lg_entry_eq]
  generalize (lg_sl ([.ref (gX g), .int p0, .int k0, .int q0, .int (bI z0), .ref (gO g)]) ++ List.replicate (7 - (lg_sl ([.ref (gX g), .int p0, .int k0, .int q0, .int (bI z0), .ref (gO g)])).length) Slot.unset).toArray = ls at hl ⊢
  have hl : lv_has ls 7 [(0, .ref (gX g)), (1, .int p0), (2, .int k0), (3, .int q0), (4, .int (bI z0)), (5, .ref (gO g))] := hl
  refine lv_aload (pc := 0) hx hb dL_addNote_0 (lv_at hl 5 rfl) ?_
  refine lv_iconst (v := 0) (pc := 2) hx hb dL_addNote_2 (by decide) ?_
  refine lv_aload_n (pc := 3) hx hb dL_addNote_3 rfl (lv_at hl 0 rfl) ?_
  refine lv_iload_n (pc := 4) hx hb dL_addNote_4 rfl (lv_at hl 1 rfl) ?_
  refine lv_iload_n (pc := 5) hx hb dL_addNote_5 rfl (lv_at hl 2 rfl) ?_
  refine lv_iload_n (pc := 6) hx hb dL_addNote_6 rfl (lv_at hl 3 rfl) ?_
  refine lv_iload (pc := 7) hx hb dL_addNote_7 (lv_at hl 4 rfl) ?_
  refine k_hwi (pc := 9) (vx_runV (As := [.int p0, .int k0, .int q0, .int (bI z0)]) (rest := [.int 0, .ref (gO g)]) ⟨hx, hb, hml, hown, hts⟩ (cX1_addNote_m l hfl g A σ (ow g f ++ rest) p0 k0 q0 z0 hI) (cwV 4 hts gL_addNote_X1_addNote rfl rfl rfl (by decide +kernel) ⟨Nat.le_of_ble_eq_true rfl, Nat.le_of_ble_eq_true rfl⟩) (cx_V (q0 := 0) (ci := 1) (r := (RX1, TX1, 2)) rfl (cx0 g σ (ow g f ++ rest)) hP hD hA hK hX hS) rfl rfl hl.1 rfl (lv_room (Nat.le_of_ble_eq_true rfl)) dL_addNote_9 ⟨Nat.le_of_ble_eq_true rfl, Nat.le_of_ble_eq_true rfl⟩) hS (fun E ce q9 H1 locs1 hE hS hkp hcell hcv hcl => ?_) (fun r u t H1 locs1 ht hr1 hB hS => ?_)
  · have hP : va_P (gD g) vwCl (cw g σ ++ (ow g f ++ rest)) H1 := hP.kept (fun k q hk => hkp q.1 ((hP k q hk).lt))
    rcases hE with ⟨rfl, hcd⟩ | ⟨rfl, hcd⟩ | ⟨rfl, hcd⟩
    · rw [hcd]
      refine vx_catch (E := eI) (name := "java/lang/IndexOutOfBoundsException") hown [] (⟨0, 14, 17, 21⟩ : ExceptionTableEntry) [(⟨0, 14, 21, 13⟩ : ExceptionTableEntry), (⟨0, 14, 25, 15⟩ : ExceptionTableEntry)] (htab.trans rfl) (fun z hz => absurd hz List.not_mem_nil) (by decide) (by decide) (hts (.classLink RL 21 "java/lang/IndexOutOfBoundsException") (by decide +kernel)) (va_Nw.use rfl (hX.cast (E := eI) (by decide))) hcell hcv hcl ?_
      refine lv_astore (lv' := [(6, .ref q9), (0, .ref (gX g)), (1, .int p0), (2, .int k0), (3, .int q0), (4, .int (bI z0)), (5, .ref (gO g))]) (pc := 17) hx hb dL_addNote_17 hl (by decide) rfl (fun ls hl => ?_)
      refine lv_iconst (v := 1) (pc := 19) hx hb dL_addNote_19 (by decide) ?_
      refine W.widen (k := 4) (n := 24) (Nat.le_of_ble_eq_true rfl) (Nat.le_of_ble_eq_true rfl) ?_
      exact W.iret hx hb hr (fun t ht hW => ⟨⟨_, (sB σ, f), rfl, ⟨rfl, hI, fun q => absurd q (by decide)⟩, by rw [ht]; exact hP, hD⟩, hS.F ht⟩) hS.2.2 dL_addNote_20
    · rw [hcd]
      refine vx_catch (E := eA) (name := "java/lang/IllegalArgumentException") hown [(⟨0, 14, 17, 21⟩ : ExceptionTableEntry)] (⟨0, 14, 21, 13⟩ : ExceptionTableEntry) [(⟨0, 14, 25, 15⟩ : ExceptionTableEntry)] (htab.trans rfl) (List.forall_mem_cons.mpr ⟨Or.inr ⟨by decide, "java/lang/IndexOutOfBoundsException", hts (.classLink RL 21 "java/lang/IndexOutOfBoundsException") (by decide +kernel), hNc (eA, eI) (by decide)⟩, (fun z hz => absurd hz List.not_mem_nil)⟩) (by decide) (by decide) (hts (.classLink RL 13 "java/lang/IllegalArgumentException") (by decide +kernel)) (va_Nw.use rfl (hX.cast (E := eA) (by decide))) hcell hcv hcl ?_
      refine lv_astore (lv' := [(6, .ref q9), (0, .ref (gX g)), (1, .int p0), (2, .int k0), (3, .int q0), (4, .int (bI z0)), (5, .ref (gO g))]) (pc := 21) hx hb dL_addNote_21 hl (by decide) rfl (fun ls hl => ?_)
      refine lv_iconst (v := 2) (pc := 23) hx hb dL_addNote_23 (by decide) ?_
      refine W.widen (k := 4) (n := 24) (Nat.le_of_ble_eq_true rfl) (Nat.le_of_ble_eq_true rfl) ?_
      exact W.iret hx hb hr (fun t ht hW => ⟨⟨_, (sB σ, f), rfl, ⟨rfl, hI, fun q => absurd q (by decide)⟩, by rw [ht]; exact hP, hD⟩, hS.F ht⟩) hS.2.2 dL_addNote_24
    · rw [hcd]
      refine vx_catch (E := eS) (name := "java/lang/IllegalStateException") hown [(⟨0, 14, 17, 21⟩ : ExceptionTableEntry), (⟨0, 14, 21, 13⟩ : ExceptionTableEntry)] (⟨0, 14, 25, 15⟩ : ExceptionTableEntry) [] (htab.trans rfl) (List.forall_mem_cons.mpr ⟨Or.inr ⟨by decide, "java/lang/IndexOutOfBoundsException", hts (.classLink RL 21 "java/lang/IndexOutOfBoundsException") (by decide +kernel), hNc (eS, eI) (by decide)⟩, (List.forall_mem_cons.mpr ⟨Or.inr ⟨by decide, "java/lang/IllegalArgumentException", hts (.classLink RL 13 "java/lang/IllegalArgumentException") (by decide +kernel), hNc (eS, eA) (by decide)⟩, (fun z hz => absurd hz List.not_mem_nil)⟩)⟩) (by decide) (by decide) (hts (.classLink RL 15 "java/lang/IllegalStateException") (by decide +kernel)) (va_Nw.use rfl (hX.cast (E := eS) (by decide))) hcell hcv hcl ?_
      refine lv_astore (lv' := [(6, .ref q9), (0, .ref (gX g)), (1, .int p0), (2, .int k0), (3, .int q0), (4, .int (bI z0)), (5, .ref (gO g))]) (pc := 25) hx hb dL_addNote_25 hl (by decide) rfl (fun ls hl => ?_)
      refine lv_iconst (v := 3) (pc := 27) hx hb dL_addNote_27 (by decide) ?_
      refine W.widen (k := 4) (n := 24) (Nat.le_of_ble_eq_true rfl) (Nat.le_of_ble_eq_true rfl) ?_
      exact W.iret hx hb hr (fun t ht hW => ⟨⟨_, (sB σ, f), rfl, ⟨rfl, hI, fun q => absurd q (by decide)⟩, by rw [ht]; exact hP, hD⟩, hS.F ht⟩) hS.2.2 dL_addNote_28
  · obtain ⟨hcd, rfl, hI1⟩ := hr1
    obtain ⟨hP, hD⟩ := hB
    rw [ht] at hP
    rw [hcd]
    refine lv_i2l (pc := 12) hx hb dL_addNote_12 rfl ?_
    refine k_last (pc := 13) (ws' := cw g (uB (apS σ (ix p0) (ix k0) q0 z0 (-1)) u) ++ (ow g (vp_updL f 0 ((nI (sC σ (ix p0))).toInt64)) ++ rest)) hx hb hK hP hD hS 26 3 (oa g (uB (apS σ (ix p0) (ix k0) q0 z0 (-1)) u) f rest) rfl 0 rfl (by decide) (by decide) (os g (uB (apS σ (ix p0) (ix k0) q0 z0 (-1)) u) f (vp_updL f 0 ((nI (sC σ (ix p0))).toInt64)) rest) dL_addNote_13 (fun H1 locs1 hP hD hS => ?_)
    refine lv_goto (tgt := 29) (pc := 14) hx hb dL_addNote_14 (by decide) ?_
    refine lv_iconst (v := 0) (pc := 29) hx hb dL_addNote_29 (by decide) ?_
    refine W.widen (k := 4) (n := 24) (Nat.le_of_ble_eq_true rfl) (Nat.le_of_ble_eq_true rfl) ?_
    exact W.iret hx hb hr (fun t ht hW => ⟨⟨_, (u, (vp_updL f 0 ((nI (sC σ (ix p0))).toInt64))), rfl, ⟨rfl, hI1, fun _ => rfl⟩, by rw [ht]; exact hP, hD⟩, hS.F ht⟩) hS.2.2 dL_addNote_30
set_option maxHeartbeats 4000000 in
set_option maxRecDepth 100000 in
/-- the law: addRest -/
theorem hL_addRest (l : Launch) (hfl : l.stackTraces = false) (g : GA) (A : Nat → Prop) (σ : St) (f : Nat → Int64) (rest : va_W) (p0 : Int32) (k0 : Int32) (hI : Inv σ) : Met l yL_addRest wsL_addRest ({ frames := 8, cells := 3, slots := 18, locals := 135 }) (va_Pc [.ref (gX g), .int p0, .int k0, .ref (gO g)] (CxL g A (cw g σ ++ (ow g f ++ rest)))) (va_Qi (fun (r : Int32) (u : (Nat → Nat → Int32) × (Nat → Int64)) => r = nI (cd_addRest σ p0 k0) ∧ Inv (uB (efs (cd_addRest σ p0 k0) (apS σ (ix p0) (ix k0) (-1) false (-1)) σ) u.1) ∧ (cd_addRest σ p0 k0 = 0 → u.2 0 = (nI (sC σ (ix p0))).toInt64)) (fun u t => kB g A (cw g (uB (efs (cd_addRest σ p0 k0) (apS σ (ix p0) (ix k0) (-1) false (-1)) σ) u.1) ++ (ow g u.2 ++ rest)) t) A) 3 18 A := by
  refine k_ofWH (cc := cL_addRest) (maxL := 5) (ret := some .int) (hh := [(0, 10, 13, 21), (0, 10, 17, 13), (0, 10, 21, 15)]) (by decide) rfl ?_
  intro p e s m args below meth c s₁ B hml htab hv0
  obtain ⟨rfl, ⟨hP, hD, hA, hK, hX⟩, hNc⟩ := hv0
  have hx := B.exec
  have hb := B.bytes
  have hr := B.returns
  have hts := atoms_spec (ws := wsL_addRest) B.pre
  have hown : s.vm.findClass RL = some m.cls := findClass_of_methodNamed B.named
  have hlocks := B.notSynchronized
  have hS : va_S A s.heap s.heap [] := va_S.rf
  have hl := lv_entry ([.ref (gX g), .int p0, .int k0, .ref (gO g)]) (n := 5) (Nat.le_of_ble_eq_true rfl)
  rw [lg_entry_eq]
  generalize (lg_sl ([.ref (gX g), .int p0, .int k0, .ref (gO g)]) ++ List.replicate (5 - (lg_sl ([.ref (gX g), .int p0, .int k0, .ref (gO g)])).length) Slot.unset).toArray = ls at hl ⊢
  have hl : lv_has ls 5 [(0, .ref (gX g)), (1, .int p0), (2, .int k0), (3, .ref (gO g))] := hl
  refine lv_aload_n (pc := 0) hx hb dL_addRest_0 rfl (lv_at hl 3 rfl) ?_
  refine lv_iconst (v := 0) (pc := 1) hx hb dL_addRest_1 (by decide) ?_
  refine lv_aload_n (pc := 2) hx hb dL_addRest_2 rfl (lv_at hl 0 rfl) ?_
  refine lv_iload_n (pc := 3) hx hb dL_addRest_3 rfl (lv_at hl 1 rfl) ?_
  refine lv_iload_n (pc := 4) hx hb dL_addRest_4 rfl (lv_at hl 2 rfl) ?_
  refine k_hwi (pc := 5) (vx_runV (As := [.int p0, .int k0]) (rest := [.int 0, .ref (gO g)]) ⟨hx, hb, hml, hown, hts⟩ (cX1_addRest_m l hfl g A σ (ow g f ++ rest) p0 k0 hI) (cwV 2 hts gL_addRest_X1_addRest rfl rfl rfl (by decide +kernel) ⟨Nat.le_of_ble_eq_true rfl, Nat.le_of_ble_eq_true rfl⟩) (cx_V (q0 := 0) (ci := 1) (r := (RX1, TX1, 2)) rfl (cx0 g σ (ow g f ++ rest)) hP hD hA hK hX hS) rfl rfl hl.1 rfl (lv_room (Nat.le_of_ble_eq_true rfl)) dL_addRest_5 ⟨Nat.le_of_ble_eq_true rfl, Nat.le_of_ble_eq_true rfl⟩) hS (fun E ce q9 H1 locs1 hE hS hkp hcell hcv hcl => ?_) (fun r u t H1 locs1 ht hr1 hB hS => ?_)
  · have hP : va_P (gD g) vwCl (cw g σ ++ (ow g f ++ rest)) H1 := hP.kept (fun k q hk => hkp q.1 ((hP k q hk).lt))
    rcases hE with ⟨rfl, hcd⟩ | ⟨rfl, hcd⟩ | ⟨rfl, hcd⟩
    · rw [hcd]
      refine vx_catch (E := eI) (name := "java/lang/IndexOutOfBoundsException") hown [] (⟨0, 10, 13, 21⟩ : ExceptionTableEntry) [(⟨0, 10, 17, 13⟩ : ExceptionTableEntry), (⟨0, 10, 21, 15⟩ : ExceptionTableEntry)] (htab.trans rfl) (fun z hz => absurd hz List.not_mem_nil) (by decide) (by decide) (hts (.classLink RL 21 "java/lang/IndexOutOfBoundsException") (by decide +kernel)) (va_Nw.use rfl (hX.cast (E := eI) (by decide))) hcell hcv hcl ?_
      refine lv_astore (lv' := [(4, .ref q9), (0, .ref (gX g)), (1, .int p0), (2, .int k0), (3, .ref (gO g))]) (pc := 13) hx hb dL_addRest_13 hl (by decide) rfl (fun ls hl => ?_)
      refine lv_iconst (v := 1) (pc := 15) hx hb dL_addRest_15 (by decide) ?_
      refine W.widen (k := 3) (n := 18) (Nat.le_of_ble_eq_true rfl) (Nat.le_of_ble_eq_true rfl) ?_
      exact W.iret hx hb hr (fun t ht hW => ⟨⟨_, (sB σ, f), rfl, ⟨rfl, hI, fun q => absurd q (by decide)⟩, by rw [ht]; exact hP, hD⟩, hS.F ht⟩) hS.2.2 dL_addRest_16
    · rw [hcd]
      refine vx_catch (E := eA) (name := "java/lang/IllegalArgumentException") hown [(⟨0, 10, 13, 21⟩ : ExceptionTableEntry)] (⟨0, 10, 17, 13⟩ : ExceptionTableEntry) [(⟨0, 10, 21, 15⟩ : ExceptionTableEntry)] (htab.trans rfl) (List.forall_mem_cons.mpr ⟨Or.inr ⟨by decide, "java/lang/IndexOutOfBoundsException", hts (.classLink RL 21 "java/lang/IndexOutOfBoundsException") (by decide +kernel), hNc (eA, eI) (by decide)⟩, (fun z hz => absurd hz List.not_mem_nil)⟩) (by decide) (by decide) (hts (.classLink RL 13 "java/lang/IllegalArgumentException") (by decide +kernel)) (va_Nw.use rfl (hX.cast (E := eA) (by decide))) hcell hcv hcl ?_
      refine lv_astore (lv' := [(4, .ref q9), (0, .ref (gX g)), (1, .int p0), (2, .int k0), (3, .ref (gO g))]) (pc := 17) hx hb dL_addRest_17 hl (by decide) rfl (fun ls hl => ?_)
      refine lv_iconst (v := 2) (pc := 19) hx hb dL_addRest_19 (by decide) ?_
      refine W.widen (k := 3) (n := 18) (Nat.le_of_ble_eq_true rfl) (Nat.le_of_ble_eq_true rfl) ?_
      exact W.iret hx hb hr (fun t ht hW => ⟨⟨_, (sB σ, f), rfl, ⟨rfl, hI, fun q => absurd q (by decide)⟩, by rw [ht]; exact hP, hD⟩, hS.F ht⟩) hS.2.2 dL_addRest_20
    · rw [hcd]
      refine vx_catch (E := eS) (name := "java/lang/IllegalStateException") hown [(⟨0, 10, 13, 21⟩ : ExceptionTableEntry), (⟨0, 10, 17, 13⟩ : ExceptionTableEntry)] (⟨0, 10, 21, 15⟩ : ExceptionTableEntry) [] (htab.trans rfl) (List.forall_mem_cons.mpr ⟨Or.inr ⟨by decide, "java/lang/IndexOutOfBoundsException", hts (.classLink RL 21 "java/lang/IndexOutOfBoundsException") (by decide +kernel), hNc (eS, eI) (by decide)⟩, (List.forall_mem_cons.mpr ⟨Or.inr ⟨by decide, "java/lang/IllegalArgumentException", hts (.classLink RL 13 "java/lang/IllegalArgumentException") (by decide +kernel), hNc (eS, eA) (by decide)⟩, (fun z hz => absurd hz List.not_mem_nil)⟩)⟩) (by decide) (by decide) (hts (.classLink RL 15 "java/lang/IllegalStateException") (by decide +kernel)) (va_Nw.use rfl (hX.cast (E := eS) (by decide))) hcell hcv hcl ?_
      refine lv_astore (lv' := [(4, .ref q9), (0, .ref (gX g)), (1, .int p0), (2, .int k0), (3, .ref (gO g))]) (pc := 21) hx hb dL_addRest_21 hl (by decide) rfl (fun ls hl => ?_)
      refine lv_iconst (v := 3) (pc := 23) hx hb dL_addRest_23 (by decide) ?_
      refine W.widen (k := 3) (n := 18) (Nat.le_of_ble_eq_true rfl) (Nat.le_of_ble_eq_true rfl) ?_
      exact W.iret hx hb hr (fun t ht hW => ⟨⟨_, (sB σ, f), rfl, ⟨rfl, hI, fun q => absurd q (by decide)⟩, by rw [ht]; exact hP, hD⟩, hS.F ht⟩) hS.2.2 dL_addRest_24
  · obtain ⟨hcd, rfl, hI1⟩ := hr1
    obtain ⟨hP, hD⟩ := hB
    rw [ht] at hP
    rw [hcd]
    refine lv_i2l (pc := 8) hx hb dL_addRest_8 rfl ?_
    refine k_last (pc := 9) (ws' := cw g (uB (apS σ (ix p0) (ix k0) (-1) false (-1)) u) ++ (ow g (vp_updL f 0 ((nI (sC σ (ix p0))).toInt64)) ++ rest)) hx hb hK hP hD hS 26 3 (oa g (uB (apS σ (ix p0) (ix k0) (-1) false (-1)) u) f rest) rfl 0 rfl (by decide) (by decide) (os g (uB (apS σ (ix p0) (ix k0) (-1) false (-1)) u) f (vp_updL f 0 ((nI (sC σ (ix p0))).toInt64)) rest) dL_addRest_9 (fun H1 locs1 hP hD hS => ?_)
    refine lv_goto (tgt := 25) (pc := 10) hx hb dL_addRest_10 (by decide) ?_
    refine lv_iconst (v := 0) (pc := 25) hx hb dL_addRest_25 (by decide) ?_
    refine W.widen (k := 3) (n := 18) (Nat.le_of_ble_eq_true rfl) (Nat.le_of_ble_eq_true rfl) ?_
    exact W.iret hx hb hr (fun t ht hW => ⟨⟨_, (u, (vp_updL f 0 ((nI (sC σ (ix p0))).toInt64))), rfl, ⟨rfl, hI1, fun _ => rfl⟩, by rw [ht]; exact hP, hD⟩, hS.F ht⟩) hS.2.2 dL_addRest_26
set_option maxHeartbeats 4000000 in
set_option maxRecDepth 100000 in
/-- the law: addLigature -/
theorem hL_addLigature (l : Launch) (hfl : l.stackTraces = false) (g : GA) (A : Nat → Prop) (σ : St) (f : Nat → Int64) (rest : va_W) (p0 : Int32) (f0 : Int32) (s0 : Int32) (t0 : Int32) (z0 : Bool) (hI : Inv σ) : Met l yL_addLigature wsL_addLigature ({ frames := 9, cells := 6, slots := 36, locals := 162 }) (va_Pc [.ref (gX g), .int p0, .int f0, .int s0, .int t0, .int (bI z0), .ref (gO g)] (CxL g A (cw g σ ++ (ow g f ++ rest)))) (va_Qi (fun (r : Int32) (u : (Nat → Nat → Int32) × (Nat → Int64)) => r = nI (cd_addLigature σ p0 f0 s0 t0) ∧ Inv (uB (efs (cd_addLigature σ p0 f0 s0 t0) (ef_addLigature σ (ix p0) f0 s0 t0 z0) σ) u.1) ∧ (cd_addLigature σ p0 f0 s0 t0 = 0 → u.2 0 = (nI (sC σ (ix p0))).toInt64)) (fun u t => kB g A (cw g (uB (efs (cd_addLigature σ p0 f0 s0 t0) (ef_addLigature σ (ix p0) f0 s0 t0 z0) σ) u.1) ++ (ow g u.2 ++ rest)) t) A) 6 36 A := by
  refine k_ofWH (cc := cL_addLigature) (maxL := 8) (ret := some .int) (hh := [(0, 16, 19, 21), (0, 16, 23, 13), (0, 16, 27, 15)]) (by decide) rfl ?_
  intro p e s m args below meth c s₁ B hml htab hv0
  obtain ⟨rfl, ⟨hP, hD, hA, hK, hX⟩, hNc⟩ := hv0
  have hx := B.exec
  have hb := B.bytes
  have hr := B.returns
  have hts := atoms_spec (ws := wsL_addLigature) B.pre
  have hown : s.vm.findClass RL = some m.cls := findClass_of_methodNamed B.named
  have hlocks := B.notSynchronized
  have hS : va_S A s.heap s.heap [] := va_S.rf
  have hl := lv_entry ([.ref (gX g), .int p0, .int f0, .int s0, .int t0, .int (bI z0), .ref (gO g)]) (n := 8) (Nat.le_of_ble_eq_true rfl)
  rw [lg_entry_eq]
  generalize (lg_sl ([.ref (gX g), .int p0, .int f0, .int s0, .int t0, .int (bI z0), .ref (gO g)]) ++ List.replicate (8 - (lg_sl ([.ref (gX g), .int p0, .int f0, .int s0, .int t0, .int (bI z0), .ref (gO g)])).length) Slot.unset).toArray = ls at hl ⊢
  have hl : lv_has ls 8 [(0, .ref (gX g)), (1, .int p0), (2, .int f0), (3, .int s0), (4, .int t0), (5, .int (bI z0)), (6, .ref (gO g))] := hl
  refine lv_aload (pc := 0) hx hb dL_addLigature_0 (lv_at hl 6 rfl) ?_
  refine lv_iconst (v := 0) (pc := 2) hx hb dL_addLigature_2 (by decide) ?_
  refine lv_aload_n (pc := 3) hx hb dL_addLigature_3 rfl (lv_at hl 0 rfl) ?_
  refine lv_iload_n (pc := 4) hx hb dL_addLigature_4 rfl (lv_at hl 1 rfl) ?_
  refine lv_iload_n (pc := 5) hx hb dL_addLigature_5 rfl (lv_at hl 2 rfl) ?_
  refine lv_iload_n (pc := 6) hx hb dL_addLigature_6 rfl (lv_at hl 3 rfl) ?_
  refine lv_iload (pc := 7) hx hb dL_addLigature_7 (lv_at hl 4 rfl) ?_
  refine lv_iload (pc := 9) hx hb dL_addLigature_9 (lv_at hl 5 rfl) ?_
  refine k_hwi (pc := 11) (vx_runV (As := [.int p0, .int f0, .int s0, .int t0, .int (bI z0)]) (rest := [.int 0, .ref (gO g)]) ⟨hx, hb, hml, hown, hts⟩ (cX1_addLigature_m l hfl g A σ (ow g f ++ rest) p0 f0 s0 t0 z0 hI) (cwV 5 hts gL_addLigature_X1_addLigature rfl rfl rfl (by decide +kernel) ⟨Nat.le_of_ble_eq_true rfl, Nat.le_of_ble_eq_true rfl⟩) (cx_V (q0 := 0) (ci := 1) (r := (RX1, TX1, 2)) rfl (cx0 g σ (ow g f ++ rest)) hP hD hA hK hX hS) rfl rfl hl.1 rfl (lv_room (Nat.le_of_ble_eq_true rfl)) dL_addLigature_11 ⟨Nat.le_of_ble_eq_true rfl, Nat.le_of_ble_eq_true rfl⟩) hS (fun E ce q9 H1 locs1 hE hS hkp hcell hcv hcl => ?_) (fun r u t H1 locs1 ht hr1 hB hS => ?_)
  · have hP : va_P (gD g) vwCl (cw g σ ++ (ow g f ++ rest)) H1 := hP.kept (fun k q hk => hkp q.1 ((hP k q hk).lt))
    rcases hE with ⟨rfl, hcd⟩ | ⟨rfl, hcd⟩ | ⟨rfl, hcd⟩
    · rw [hcd]
      refine vx_catch (E := eI) (name := "java/lang/IndexOutOfBoundsException") hown [] (⟨0, 16, 19, 21⟩ : ExceptionTableEntry) [(⟨0, 16, 23, 13⟩ : ExceptionTableEntry), (⟨0, 16, 27, 15⟩ : ExceptionTableEntry)] (htab.trans rfl) (fun z hz => absurd hz List.not_mem_nil) (by decide) (by decide) (hts (.classLink RL 21 "java/lang/IndexOutOfBoundsException") (by decide +kernel)) (va_Nw.use rfl (hX.cast (E := eI) (by decide))) hcell hcv hcl ?_
      refine lv_astore (lv' := [(7, .ref q9), (0, .ref (gX g)), (1, .int p0), (2, .int f0), (3, .int s0), (4, .int t0), (5, .int (bI z0)), (6, .ref (gO g))]) (pc := 19) hx hb dL_addLigature_19 hl (by decide) rfl (fun ls hl => ?_)
      refine lv_iconst (v := 1) (pc := 21) hx hb dL_addLigature_21 (by decide) ?_
      refine W.widen (k := 6) (n := 36) (Nat.le_of_ble_eq_true rfl) (Nat.le_of_ble_eq_true rfl) ?_
      exact W.iret hx hb hr (fun t ht hW => ⟨⟨_, (sB σ, f), rfl, ⟨rfl, hI, fun q => absurd q (by decide)⟩, by rw [ht]; exact hP, hD⟩, hS.F ht⟩) hS.2.2 dL_addLigature_22
    · rw [hcd]
      refine vx_catch (E := eA) (name := "java/lang/IllegalArgumentException") hown [(⟨0, 16, 19, 21⟩ : ExceptionTableEntry)] (⟨0, 16, 23, 13⟩ : ExceptionTableEntry) [(⟨0, 16, 27, 15⟩ : ExceptionTableEntry)] (htab.trans rfl) (List.forall_mem_cons.mpr ⟨Or.inr ⟨by decide, "java/lang/IndexOutOfBoundsException", hts (.classLink RL 21 "java/lang/IndexOutOfBoundsException") (by decide +kernel), hNc (eA, eI) (by decide)⟩, (fun z hz => absurd hz List.not_mem_nil)⟩) (by decide) (by decide) (hts (.classLink RL 13 "java/lang/IllegalArgumentException") (by decide +kernel)) (va_Nw.use rfl (hX.cast (E := eA) (by decide))) hcell hcv hcl ?_
      refine lv_astore (lv' := [(7, .ref q9), (0, .ref (gX g)), (1, .int p0), (2, .int f0), (3, .int s0), (4, .int t0), (5, .int (bI z0)), (6, .ref (gO g))]) (pc := 23) hx hb dL_addLigature_23 hl (by decide) rfl (fun ls hl => ?_)
      refine lv_iconst (v := 2) (pc := 25) hx hb dL_addLigature_25 (by decide) ?_
      refine W.widen (k := 6) (n := 36) (Nat.le_of_ble_eq_true rfl) (Nat.le_of_ble_eq_true rfl) ?_
      exact W.iret hx hb hr (fun t ht hW => ⟨⟨_, (sB σ, f), rfl, ⟨rfl, hI, fun q => absurd q (by decide)⟩, by rw [ht]; exact hP, hD⟩, hS.F ht⟩) hS.2.2 dL_addLigature_26
    · rw [hcd]
      refine vx_catch (E := eS) (name := "java/lang/IllegalStateException") hown [(⟨0, 16, 19, 21⟩ : ExceptionTableEntry), (⟨0, 16, 23, 13⟩ : ExceptionTableEntry)] (⟨0, 16, 27, 15⟩ : ExceptionTableEntry) [] (htab.trans rfl) (List.forall_mem_cons.mpr ⟨Or.inr ⟨by decide, "java/lang/IndexOutOfBoundsException", hts (.classLink RL 21 "java/lang/IndexOutOfBoundsException") (by decide +kernel), hNc (eS, eI) (by decide)⟩, (List.forall_mem_cons.mpr ⟨Or.inr ⟨by decide, "java/lang/IllegalArgumentException", hts (.classLink RL 13 "java/lang/IllegalArgumentException") (by decide +kernel), hNc (eS, eA) (by decide)⟩, (fun z hz => absurd hz List.not_mem_nil)⟩)⟩) (by decide) (by decide) (hts (.classLink RL 15 "java/lang/IllegalStateException") (by decide +kernel)) (va_Nw.use rfl (hX.cast (E := eS) (by decide))) hcell hcv hcl ?_
      refine lv_astore (lv' := [(7, .ref q9), (0, .ref (gX g)), (1, .int p0), (2, .int f0), (3, .int s0), (4, .int t0), (5, .int (bI z0)), (6, .ref (gO g))]) (pc := 27) hx hb dL_addLigature_27 hl (by decide) rfl (fun ls hl => ?_)
      refine lv_iconst (v := 3) (pc := 29) hx hb dL_addLigature_29 (by decide) ?_
      refine W.widen (k := 6) (n := 36) (Nat.le_of_ble_eq_true rfl) (Nat.le_of_ble_eq_true rfl) ?_
      exact W.iret hx hb hr (fun t ht hW => ⟨⟨_, (sB σ, f), rfl, ⟨rfl, hI, fun q => absurd q (by decide)⟩, by rw [ht]; exact hP, hD⟩, hS.F ht⟩) hS.2.2 dL_addLigature_30
  · obtain ⟨hcd, rfl, hI1⟩ := hr1
    obtain ⟨hP, hD⟩ := hB
    rw [ht] at hP
    rw [hcd]
    refine lv_i2l (pc := 14) hx hb dL_addLigature_14 rfl ?_
    refine k_last (pc := 15) (ws' := cw g (uB (ef_addLigature σ (ix p0) f0 s0 t0 z0) u) ++ (ow g (vp_updL f 0 ((nI (sC σ (ix p0))).toInt64)) ++ rest)) hx hb hK hP hD hS 26 3 (oa g (uB (ef_addLigature σ (ix p0) f0 s0 t0 z0) u) f rest) rfl 0 rfl (by decide) (by decide) (os g (uB (ef_addLigature σ (ix p0) f0 s0 t0 z0) u) f (vp_updL f 0 ((nI (sC σ (ix p0))).toInt64)) rest) dL_addLigature_15 (fun H1 locs1 hP hD hS => ?_)
    refine lv_goto (tgt := 31) (pc := 16) hx hb dL_addLigature_16 (by decide) ?_
    refine lv_iconst (v := 0) (pc := 31) hx hb dL_addLigature_31 (by decide) ?_
    refine W.widen (k := 6) (n := 36) (Nat.le_of_ble_eq_true rfl) (Nat.le_of_ble_eq_true rfl) ?_
    exact W.iret hx hb hr (fun t ht hW => ⟨⟨_, (u, (vp_updL f 0 ((nI (sC σ (ix p0))).toInt64))), rfl, ⟨rfl, hI1, fun _ => rfl⟩, by rw [ht]; exact hP, hD⟩, hS.F ht⟩) hS.2.2 dL_addLigature_32
set_option maxHeartbeats 4000000 in
set_option maxRecDepth 100000 in
/-- the law: erase -/
theorem hL_erase (l : Launch) (hfl : l.stackTraces = false) (g : GA) (A : Nat → Prop) (σ : St) (f : Nat → Int64) (rest : va_W) (p0 : Int32) (hI : Inv σ) : Met l yL_erase wsL_erase ({ frames := 8, cells := 2, slots := 12, locals := 133 }) (va_Pc [.ref (gX g), .int p0, .ref (gO g)] (CxL g A (cw g σ ++ (ow g f ++ rest)))) (va_Qi (fun (r : Int32) (u : (Nat → Nat → Int32) × (Nat → Int64)) => r = nI (cd_erase σ p0) ∧ Inv (uB (efs (cd_erase σ p0) (uC σ (ix p0) (sC σ (ix p0) - drN (sT σ (ix p0) (sC σ (ix p0) - 1)))) σ) u.1) ∧ (cd_erase σ p0 = 0 → u.2 0 = (nI (drN (sT σ (ix p0) (sC σ (ix p0) - 1)))).toInt64)) (fun u t => kB g A (cw g (uB (efs (cd_erase σ p0) (uC σ (ix p0) (sC σ (ix p0) - drN (sT σ (ix p0) (sC σ (ix p0) - 1)))) σ) u.1) ++ (ow g u.2 ++ rest)) t) A) 2 12 A := by
  refine k_ofWH (cc := cL_erase) (maxL := 4) (ret := some .int) (hh := [(0, 9, 12, 21), (0, 9, 15, 15)]) (by decide) rfl ?_
  intro p e s m args below meth c s₁ B hml htab hv0
  obtain ⟨rfl, ⟨hP, hD, hA, hK, hX⟩, hNc⟩ := hv0
  have hx := B.exec
  have hb := B.bytes
  have hr := B.returns
  have hts := atoms_spec (ws := wsL_erase) B.pre
  have hown : s.vm.findClass RL = some m.cls := findClass_of_methodNamed B.named
  have hlocks := B.notSynchronized
  have hS : va_S A s.heap s.heap [] := va_S.rf
  have hl := lv_entry ([.ref (gX g), .int p0, .ref (gO g)]) (n := 4) (Nat.le_of_ble_eq_true rfl)
  rw [lg_entry_eq]
  generalize (lg_sl ([.ref (gX g), .int p0, .ref (gO g)]) ++ List.replicate (4 - (lg_sl ([.ref (gX g), .int p0, .ref (gO g)])).length) Slot.unset).toArray = ls at hl ⊢
  have hl : lv_has ls 4 [(0, .ref (gX g)), (1, .int p0), (2, .ref (gO g))] := hl
  refine lv_aload_n (pc := 0) hx hb dL_erase_0 rfl (lv_at hl 2 rfl) ?_
  refine lv_iconst (v := 0) (pc := 1) hx hb dL_erase_1 (by decide) ?_
  refine lv_aload_n (pc := 2) hx hb dL_erase_2 rfl (lv_at hl 0 rfl) ?_
  refine lv_iload_n (pc := 3) hx hb dL_erase_3 rfl (lv_at hl 1 rfl) ?_
  refine k_hwi (pc := 4) (vx_runV (As := [.int p0]) (rest := [.int 0, .ref (gO g)]) ⟨hx, hb, hml, hown, hts⟩ (cX1_erase_m l hfl g A σ (ow g f ++ rest) p0 hI) (cwV 1 hts gL_erase_X1_erase rfl rfl rfl (by decide +kernel) ⟨Nat.le_of_ble_eq_true rfl, Nat.le_of_ble_eq_true rfl⟩) (cx_V (q0 := 0) (ci := 1) (r := (RX1, TX1, 2)) rfl (cx0 g σ (ow g f ++ rest)) hP hD hA hK hX hS) rfl rfl hl.1 rfl (lv_room (Nat.le_of_ble_eq_true rfl)) dL_erase_4 ⟨Nat.le_of_ble_eq_true rfl, Nat.le_of_ble_eq_true rfl⟩) hS (fun E ce q9 H1 locs1 hE hS hkp hcell hcv hcl => ?_) (fun r u t H1 locs1 ht hr1 hB hS => ?_)
  · have hP : va_P (gD g) vwCl (cw g σ ++ (ow g f ++ rest)) H1 := hP.kept (fun k q hk => hkp q.1 ((hP k q hk).lt))
    rcases hE with ⟨rfl, hcd⟩ | ⟨rfl, hcd⟩
    · rw [hcd]
      refine vx_catch (E := eI) (name := "java/lang/IndexOutOfBoundsException") hown [] (⟨0, 9, 12, 21⟩ : ExceptionTableEntry) [(⟨0, 9, 15, 15⟩ : ExceptionTableEntry)] (htab.trans rfl) (fun z hz => absurd hz List.not_mem_nil) (by decide) (by decide) (hts (.classLink RL 21 "java/lang/IndexOutOfBoundsException") (by decide +kernel)) (va_Nw.use rfl (hX.cast (E := eI) (by decide))) hcell hcv hcl ?_
      refine lv_astore_n (lv' := [(3, .ref q9), (0, .ref (gX g)), (1, .int p0), (2, .ref (gO g))]) (pc := 12) hx hb dL_erase_12 rfl hl (by decide) rfl (fun ls hl => ?_)
      refine lv_iconst (v := 1) (pc := 13) hx hb dL_erase_13 (by decide) ?_
      refine W.widen (k := 2) (n := 12) (Nat.le_of_ble_eq_true rfl) (Nat.le_of_ble_eq_true rfl) ?_
      exact W.iret hx hb hr (fun t ht hW => ⟨⟨_, (sB σ, f), rfl, ⟨rfl, hI, fun q => absurd q (by decide)⟩, by rw [ht]; exact hP, hD⟩, hS.F ht⟩) hS.2.2 dL_erase_14
    · rw [hcd]
      refine vx_catch (E := eS) (name := "java/lang/IllegalStateException") hown [(⟨0, 9, 12, 21⟩ : ExceptionTableEntry)] (⟨0, 9, 15, 15⟩ : ExceptionTableEntry) [] (htab.trans rfl) (List.forall_mem_cons.mpr ⟨Or.inr ⟨by decide, "java/lang/IndexOutOfBoundsException", hts (.classLink RL 21 "java/lang/IndexOutOfBoundsException") (by decide +kernel), hNc (eS, eI) (by decide)⟩, (fun z hz => absurd hz List.not_mem_nil)⟩) (by decide) (by decide) (hts (.classLink RL 15 "java/lang/IllegalStateException") (by decide +kernel)) (va_Nw.use rfl (hX.cast (E := eS) (by decide))) hcell hcv hcl ?_
      refine lv_astore_n (lv' := [(3, .ref q9), (0, .ref (gX g)), (1, .int p0), (2, .ref (gO g))]) (pc := 15) hx hb dL_erase_15 rfl hl (by decide) rfl (fun ls hl => ?_)
      refine lv_iconst (v := 2) (pc := 16) hx hb dL_erase_16 (by decide) ?_
      refine W.widen (k := 2) (n := 12) (Nat.le_of_ble_eq_true rfl) (Nat.le_of_ble_eq_true rfl) ?_
      exact W.iret hx hb hr (fun t ht hW => ⟨⟨_, (sB σ, f), rfl, ⟨rfl, hI, fun q => absurd q (by decide)⟩, by rw [ht]; exact hP, hD⟩, hS.F ht⟩) hS.2.2 dL_erase_17
  · obtain ⟨hcd, rfl, hI1⟩ := hr1
    obtain ⟨hP, hD⟩ := hB
    rw [ht] at hP
    rw [hcd]
    rw [← uB_self (uC σ (ix p0) (sC σ (ix p0) - drN (sT σ (ix p0) (sC σ (ix p0) - 1))))] at hP hD hI1
    refine lv_i2l (pc := 7) hx hb dL_erase_7 rfl ?_
    refine k_last (pc := 8) (ws' := cw g (uB (uC σ (ix p0) (sC σ (ix p0) - drN (sT σ (ix p0) (sC σ (ix p0) - 1)))) (sB (uC σ (ix p0) (sC σ (ix p0) - drN (sT σ (ix p0) (sC σ (ix p0) - 1)))))) ++ (ow g (vp_updL f 0 ((nI (drN (sT σ (ix p0) (sC σ (ix p0) - 1)))).toInt64)) ++ rest)) hx hb hK hP hD hS 26 3 (oa g (uB (uC σ (ix p0) (sC σ (ix p0) - drN (sT σ (ix p0) (sC σ (ix p0) - 1)))) (sB (uC σ (ix p0) (sC σ (ix p0) - drN (sT σ (ix p0) (sC σ (ix p0) - 1)))))) f rest) rfl 0 rfl (by decide) (by decide) (os g (uB (uC σ (ix p0) (sC σ (ix p0) - drN (sT σ (ix p0) (sC σ (ix p0) - 1)))) (sB (uC σ (ix p0) (sC σ (ix p0) - drN (sT σ (ix p0) (sC σ (ix p0) - 1)))))) f (vp_updL f 0 ((nI (drN (sT σ (ix p0) (sC σ (ix p0) - 1)))).toInt64)) rest) dL_erase_8 (fun H1 locs1 hP hD hS => ?_)
    refine lv_goto (tgt := 18) (pc := 9) hx hb dL_erase_9 (by decide) ?_
    refine lv_iconst (v := 0) (pc := 18) hx hb dL_erase_18 (by decide) ?_
    refine W.widen (k := 2) (n := 12) (Nat.le_of_ble_eq_true rfl) (Nat.le_of_ble_eq_true rfl) ?_
    exact W.iret hx hb hr (fun t ht hW => ⟨⟨_, (sB (uC σ (ix p0) (sC σ (ix p0) - drN (sT σ (ix p0) (sC σ (ix p0) - 1)))), (vp_updL f 0 ((nI (drN (sT σ (ix p0) (sC σ (ix p0) - 1)))).toInt64))), rfl, ⟨rfl, hI1, fun _ => rfl⟩, by rw [ht]; exact hP, hD⟩, hS.F ht⟩) hS.2.2 dL_erase_19
set_option maxHeartbeats 4000000 in
set_option maxRecDepth 100000 in
/-- the law: recolour -/
theorem hL_recolour (l : Launch) (hfl : l.stackTraces = false) (g : GA) (A : Nat → Prop) (σ : St) (f : Nat → Int64) (rest : va_W) (p0 : Int32) (q0 : Int32) (hI : Inv σ) : Met l yL_recolour wsL_recolour ({ frames := 9, cells := 3, slots := 18, locals := 157 }) (va_Pc [.ref (gX g), .int p0, .int q0, .ref (gO g)] (CxL g A (cw g σ ++ (ow g f ++ rest)))) (va_Qi (fun (r : Int32) (u : (Nat → Nat → Int32) × (Nat → Int64)) => r = nI (cd_recolour σ p0 q0) ∧ Inv (uB (efs (cd_recolour σ p0 q0) (uR σ (ix p0) (ix q0) (!sR σ (ix p0) (ix q0))) σ) u.1) ∧ (cd_recolour σ p0 q0 = 0 → u.2 0 = (bI (!sR σ (ix p0) (ix q0))).toInt64)) (fun u t => kB g A (cw g (uB (efs (cd_recolour σ p0 q0) (uR σ (ix p0) (ix q0) (!sR σ (ix p0) (ix q0))) σ) u.1) ++ (ow g u.2 ++ rest)) t) A) 3 18 A := by
  refine k_ofWH (cc := cL_recolour) (maxL := 5) (ret := some .int) (hh := [(0, 17, 20, 21), (0, 17, 24, 15)]) (by decide) rfl ?_
  intro p e s m args below meth c s₁ B hml htab hv0
  obtain ⟨rfl, ⟨hP, hD, hA, hK, hX⟩, hNc⟩ := hv0
  have hx := B.exec
  have hb := B.bytes
  have hr := B.returns
  have hts := atoms_spec (ws := wsL_recolour) B.pre
  have hown : s.vm.findClass RL = some m.cls := findClass_of_methodNamed B.named
  have hlocks := B.notSynchronized
  have hS : va_S A s.heap s.heap [] := va_S.rf
  have hl := lv_entry ([.ref (gX g), .int p0, .int q0, .ref (gO g)]) (n := 5) (Nat.le_of_ble_eq_true rfl)
  rw [lg_entry_eq]
  generalize (lg_sl ([.ref (gX g), .int p0, .int q0, .ref (gO g)]) ++ List.replicate (5 - (lg_sl ([.ref (gX g), .int p0, .int q0, .ref (gO g)])).length) Slot.unset).toArray = ls at hl ⊢
  have hl : lv_has ls 5 [(0, .ref (gX g)), (1, .int p0), (2, .int q0), (3, .ref (gO g))] := hl
  refine lv_aload_n (pc := 0) hx hb dL_recolour_0 rfl (lv_at hl 3 rfl) ?_
  refine lv_iconst (v := 0) (pc := 1) hx hb dL_recolour_1 (by decide) ?_
  refine lv_aload_n (pc := 2) hx hb dL_recolour_2 rfl (lv_at hl 0 rfl) ?_
  refine lv_iload_n (pc := 3) hx hb dL_recolour_3 rfl (lv_at hl 1 rfl) ?_
  refine lv_iload_n (pc := 4) hx hb dL_recolour_4 rfl (lv_at hl 2 rfl) ?_
  refine k_hwi (pc := 5) (vx_runV (As := [.int p0, .int q0]) (rest := [.int 0, .ref (gO g)]) ⟨hx, hb, hml, hown, hts⟩ (cX1_recolour_m l hfl g A σ (ow g f ++ rest) p0 q0 hI) (cwV 2 hts gL_recolour_X1_recolour rfl rfl rfl (by decide +kernel) ⟨Nat.le_of_ble_eq_true rfl, Nat.le_of_ble_eq_true rfl⟩) (cx_V (q0 := 0) (ci := 1) (r := (RX1, TX1, 2)) rfl (cx0 g σ (ow g f ++ rest)) hP hD hA hK hX hS) rfl rfl hl.1 rfl (lv_room (Nat.le_of_ble_eq_true rfl)) dL_recolour_5 ⟨Nat.le_of_ble_eq_true rfl, Nat.le_of_ble_eq_true rfl⟩) hS (fun E ce q9 H1 locs1 hE hS hkp hcell hcv hcl => ?_) (fun r u t H1 locs1 ht hr1 hB hS => ?_)
  · have hP : va_P (gD g) vwCl (cw g σ ++ (ow g f ++ rest)) H1 := hP.kept (fun k q hk => hkp q.1 ((hP k q hk).lt))
    rcases hE with ⟨rfl, hcd⟩ | ⟨rfl, hcd⟩
    · rw [hcd]
      refine vx_catch (E := eI) (name := "java/lang/IndexOutOfBoundsException") hown [] (⟨0, 17, 20, 21⟩ : ExceptionTableEntry) [(⟨0, 17, 24, 15⟩ : ExceptionTableEntry)] (htab.trans rfl) (fun z hz => absurd hz List.not_mem_nil) (by decide) (by decide) (hts (.classLink RL 21 "java/lang/IndexOutOfBoundsException") (by decide +kernel)) (va_Nw.use rfl (hX.cast (E := eI) (by decide))) hcell hcv hcl ?_
      refine lv_astore (lv' := [(4, .ref q9), (0, .ref (gX g)), (1, .int p0), (2, .int q0), (3, .ref (gO g))]) (pc := 20) hx hb dL_recolour_20 hl (by decide) rfl (fun ls hl => ?_)
      refine lv_iconst (v := 1) (pc := 22) hx hb dL_recolour_22 (by decide) ?_
      refine W.widen (k := 3) (n := 18) (Nat.le_of_ble_eq_true rfl) (Nat.le_of_ble_eq_true rfl) ?_
      exact W.iret hx hb hr (fun t ht hW => ⟨⟨_, (sB σ, f), rfl, ⟨rfl, hI, fun q => absurd q (by decide)⟩, by rw [ht]; exact hP, hD⟩, hS.F ht⟩) hS.2.2 dL_recolour_23
    · rw [hcd]
      refine vx_catch (E := eS) (name := "java/lang/IllegalStateException") hown [(⟨0, 17, 20, 21⟩ : ExceptionTableEntry)] (⟨0, 17, 24, 15⟩ : ExceptionTableEntry) [] (htab.trans rfl) (List.forall_mem_cons.mpr ⟨Or.inr ⟨by decide, "java/lang/IndexOutOfBoundsException", hts (.classLink RL 21 "java/lang/IndexOutOfBoundsException") (by decide +kernel), hNc (eS, eI) (by decide)⟩, (fun z hz => absurd hz List.not_mem_nil)⟩) (by decide) (by decide) (hts (.classLink RL 15 "java/lang/IllegalStateException") (by decide +kernel)) (va_Nw.use rfl (hX.cast (E := eS) (by decide))) hcell hcv hcl ?_
      refine lv_astore (lv' := [(4, .ref q9), (0, .ref (gX g)), (1, .int p0), (2, .int q0), (3, .ref (gO g))]) (pc := 24) hx hb dL_recolour_24 hl (by decide) rfl (fun ls hl => ?_)
      refine lv_iconst (v := 2) (pc := 26) hx hb dL_recolour_26 (by decide) ?_
      refine W.widen (k := 3) (n := 18) (Nat.le_of_ble_eq_true rfl) (Nat.le_of_ble_eq_true rfl) ?_
      exact W.iret hx hb hr (fun t ht hW => ⟨⟨_, (sB σ, f), rfl, ⟨rfl, hI, fun q => absurd q (by decide)⟩, by rw [ht]; exact hP, hD⟩, hS.F ht⟩) hS.2.2 dL_recolour_27
  · obtain ⟨hcd, rfl, hI1⟩ := hr1
    obtain ⟨hP, hD⟩ := hB
    rw [ht] at hP
    rw [hcd]
    refine lv_if_eq (tgt := 15) (pc := 8) hx hb dL_recolour_8 (by decide) (fun c1 => ?_) (fun c1 => ?_)
    · have c1 := bI_0.mp c1
      refine lv_lconst (v := 0) (pc := 15) hx hb dL_recolour_15 (by decide) ?_
      refine k_last (pc := 16) (ws' := cw g (uB (uR σ (ix p0) (ix q0) (!sR σ (ix p0) (ix q0))) u) ++ (ow g (vp_updL f 0 0) ++ rest)) hx hb hK hP hD hS 26 3 (oa g (uB (uR σ (ix p0) (ix q0) (!sR σ (ix p0) (ix q0))) u) f rest) rfl 0 rfl (by decide) (by decide) (os g (uB (uR σ (ix p0) (ix q0) (!sR σ (ix p0) (ix q0))) u) f (vp_updL f 0 0) rest) dL_recolour_16 (fun H2 locs2 hP hD hS => ?_)
      refine lv_goto (tgt := 28) (pc := 17) hx hb dL_recolour_17 (by decide) ?_
      refine lv_iconst (v := 0) (pc := 28) hx hb dL_recolour_28 (by decide) ?_
      refine W.widen (k := 3) (n := 18) (Nat.le_of_ble_eq_true rfl) (Nat.le_of_ble_eq_true rfl) ?_
      exact W.iret hx hb hr (fun t ht hW => ⟨⟨_, (u, (vp_updL f 0 0)), rfl, ⟨rfl, hI1, fun _ => (by rw [c1]; rfl)⟩, by rw [ht]; exact hP, hD⟩, hS.F ht⟩) hS.2.2 dL_recolour_29
    · have c1 := bI_n0.mp c1
      refine lv_lconst (v := 1) (pc := 11) hx hb dL_recolour_11 (by decide) ?_
      refine lv_goto (tgt := 16) (pc := 12) hx hb dL_recolour_12 (by decide) ?_
      refine k_last (pc := 16) (ws' := cw g (uB (uR σ (ix p0) (ix q0) (!sR σ (ix p0) (ix q0))) u) ++ (ow g (vp_updL f 0 1) ++ rest)) hx hb hK hP hD hS 26 3 (oa g (uB (uR σ (ix p0) (ix q0) (!sR σ (ix p0) (ix q0))) u) f rest) rfl 0 rfl (by decide) (by decide) (os g (uB (uR σ (ix p0) (ix q0) (!sR σ (ix p0) (ix q0))) u) f (vp_updL f 0 1) rest) dL_recolour_16 (fun H3 locs3 hP hD hS => ?_)
      refine lv_goto (tgt := 28) (pc := 17) hx hb dL_recolour_17 (by decide) ?_
      refine lv_iconst (v := 0) (pc := 28) hx hb dL_recolour_28 (by decide) ?_
      refine W.widen (k := 3) (n := 18) (Nat.le_of_ble_eq_true rfl) (Nat.le_of_ble_eq_true rfl) ?_
      exact W.iret hx hb hr (fun t ht hW => ⟨⟨_, (u, (vp_updL f 0 1)), rfl, ⟨rfl, hI1, fun _ => (by rw [c1]; rfl)⟩, by rw [ht]; exact hP, hD⟩, hS.F ht⟩) hS.2.2 dL_recolour_29
set_option maxHeartbeats 4000000 in
set_option maxRecDepth 100000 in
/-- the law: setClef -/
theorem hL_setClef (l : Launch) (hfl : l.stackTraces = false) (g : GA) (A : Nat → Prop) (σ : St) (f : Nat → Int64) (rest : va_W) (p0 : Int32) (c0 : Int32) (hI : Inv σ) : Met l yL_setClef wsL_setClef ({ frames := 8, cells := 2, slots := 12, locals := 136 }) (va_Pc [.ref (gX g), .int p0, .int c0, .ref (gO g)] (CxL g A (cw g σ ++ (ow g f ++ rest)))) (va_Qi (fun (r : Int32) (u : (Nat → Nat → Int32) × (Nat → Int64)) => r = nI (cdVR σ p0 (inr (-1) 5 c0)) ∧ Inv (uB (efs (cdVR σ p0 (inr (-1) 5 c0)) (uL σ (ix p0) c0) σ) u.1) ∧ (cdVR σ p0 (inr (-1) 5 c0) = 0 → u.2 0 = (sL σ (ix p0)).toInt64)) (fun u t => kB g A (cw g (uB (efs (cdVR σ p0 (inr (-1) 5 c0)) (uL σ (ix p0) c0) σ) u.1) ++ (ow g u.2 ++ rest)) t) A) 2 12 A := by
  refine k_ofWH (cc := cL_setClef) (maxL := 5) (ret := some .int) (hh := [(0, 10, 13, 21), (0, 10, 17, 13)]) (by decide) rfl ?_
  intro p e s m args below meth c s₁ B hml htab hv0
  obtain ⟨rfl, ⟨hP, hD, hA, hK, hX⟩, hNc⟩ := hv0
  have hx := B.exec
  have hb := B.bytes
  have hr := B.returns
  have hts := atoms_spec (ws := wsL_setClef) B.pre
  have hown : s.vm.findClass RL = some m.cls := findClass_of_methodNamed B.named
  have hlocks := B.notSynchronized
  have hS : va_S A s.heap s.heap [] := va_S.rf
  have hl := lv_entry ([.ref (gX g), .int p0, .int c0, .ref (gO g)]) (n := 5) (Nat.le_of_ble_eq_true rfl)
  rw [lg_entry_eq]
  generalize (lg_sl ([.ref (gX g), .int p0, .int c0, .ref (gO g)]) ++ List.replicate (5 - (lg_sl ([.ref (gX g), .int p0, .int c0, .ref (gO g)])).length) Slot.unset).toArray = ls at hl ⊢
  have hl : lv_has ls 5 [(0, .ref (gX g)), (1, .int p0), (2, .int c0), (3, .ref (gO g))] := hl
  refine lv_aload_n (pc := 0) hx hb dL_setClef_0 rfl (lv_at hl 3 rfl) ?_
  refine lv_iconst (v := 0) (pc := 1) hx hb dL_setClef_1 (by decide) ?_
  refine lv_aload_n (pc := 2) hx hb dL_setClef_2 rfl (lv_at hl 0 rfl) ?_
  refine lv_iload_n (pc := 3) hx hb dL_setClef_3 rfl (lv_at hl 1 rfl) ?_
  refine lv_iload_n (pc := 4) hx hb dL_setClef_4 rfl (lv_at hl 2 rfl) ?_
  refine k_hwi (pc := 5) (vx_runV (As := [.int p0, .int c0]) (rest := [.int 0, .ref (gO g)]) ⟨hx, hb, hml, hown, hts⟩ (cX1_setClef_m l hfl g A σ (ow g f ++ rest) p0 c0 hI) (cwV 2 hts gL_setClef_X1_setClef rfl rfl rfl (by decide +kernel) ⟨Nat.le_of_ble_eq_true rfl, Nat.le_of_ble_eq_true rfl⟩) (cx_V (q0 := 0) (ci := 1) (r := (RX1, TX1, 2)) rfl (cx0 g σ (ow g f ++ rest)) hP hD hA hK hX hS) rfl rfl hl.1 rfl (lv_room (Nat.le_of_ble_eq_true rfl)) dL_setClef_5 ⟨Nat.le_of_ble_eq_true rfl, Nat.le_of_ble_eq_true rfl⟩) hS (fun E ce q9 H1 locs1 hE hS hkp hcell hcv hcl => ?_) (fun r u t H1 locs1 ht hr1 hB hS => ?_)
  · have hP : va_P (gD g) vwCl (cw g σ ++ (ow g f ++ rest)) H1 := hP.kept (fun k q hk => hkp q.1 ((hP k q hk).lt))
    rcases hE with ⟨rfl, hcd⟩ | ⟨rfl, hcd⟩
    · rw [hcd]
      refine vx_catch (E := eI) (name := "java/lang/IndexOutOfBoundsException") hown [] (⟨0, 10, 13, 21⟩ : ExceptionTableEntry) [(⟨0, 10, 17, 13⟩ : ExceptionTableEntry)] (htab.trans rfl) (fun z hz => absurd hz List.not_mem_nil) (by decide) (by decide) (hts (.classLink RL 21 "java/lang/IndexOutOfBoundsException") (by decide +kernel)) (va_Nw.use rfl (hX.cast (E := eI) (by decide))) hcell hcv hcl ?_
      refine lv_astore (lv' := [(4, .ref q9), (0, .ref (gX g)), (1, .int p0), (2, .int c0), (3, .ref (gO g))]) (pc := 13) hx hb dL_setClef_13 hl (by decide) rfl (fun ls hl => ?_)
      refine lv_iconst (v := 1) (pc := 15) hx hb dL_setClef_15 (by decide) ?_
      refine W.widen (k := 2) (n := 12) (Nat.le_of_ble_eq_true rfl) (Nat.le_of_ble_eq_true rfl) ?_
      exact W.iret hx hb hr (fun t ht hW => ⟨⟨_, (sB σ, f), rfl, ⟨rfl, hI, fun q => absurd q (by decide)⟩, by rw [ht]; exact hP, hD⟩, hS.F ht⟩) hS.2.2 dL_setClef_16
    · rw [hcd]
      refine vx_catch (E := eA) (name := "java/lang/IllegalArgumentException") hown [(⟨0, 10, 13, 21⟩ : ExceptionTableEntry)] (⟨0, 10, 17, 13⟩ : ExceptionTableEntry) [] (htab.trans rfl) (List.forall_mem_cons.mpr ⟨Or.inr ⟨by decide, "java/lang/IndexOutOfBoundsException", hts (.classLink RL 21 "java/lang/IndexOutOfBoundsException") (by decide +kernel), hNc (eA, eI) (by decide)⟩, (fun z hz => absurd hz List.not_mem_nil)⟩) (by decide) (by decide) (hts (.classLink RL 13 "java/lang/IllegalArgumentException") (by decide +kernel)) (va_Nw.use rfl (hX.cast (E := eA) (by decide))) hcell hcv hcl ?_
      refine lv_astore (lv' := [(4, .ref q9), (0, .ref (gX g)), (1, .int p0), (2, .int c0), (3, .ref (gO g))]) (pc := 17) hx hb dL_setClef_17 hl (by decide) rfl (fun ls hl => ?_)
      refine lv_iconst (v := 2) (pc := 19) hx hb dL_setClef_19 (by decide) ?_
      refine W.widen (k := 2) (n := 12) (Nat.le_of_ble_eq_true rfl) (Nat.le_of_ble_eq_true rfl) ?_
      exact W.iret hx hb hr (fun t ht hW => ⟨⟨_, (sB σ, f), rfl, ⟨rfl, hI, fun q => absurd q (by decide)⟩, by rw [ht]; exact hP, hD⟩, hS.F ht⟩) hS.2.2 dL_setClef_20
  · obtain ⟨hcd, rfl, hI1⟩ := hr1
    obtain ⟨hP, hD⟩ := hB
    rw [ht] at hP
    rw [hcd]
    rw [← uB_self (uL σ (ix p0) c0)] at hP hD hI1
    refine lv_i2l (pc := 8) hx hb dL_setClef_8 rfl ?_
    refine k_last (pc := 9) (ws' := cw g (uB (uL σ (ix p0) c0) (sB (uL σ (ix p0) c0))) ++ (ow g (vp_updL f 0 ((sL σ (ix p0)).toInt64)) ++ rest)) hx hb hK hP hD hS 26 3 (oa g (uB (uL σ (ix p0) c0) (sB (uL σ (ix p0) c0))) f rest) rfl 0 rfl (by decide) (by decide) (os g (uB (uL σ (ix p0) c0) (sB (uL σ (ix p0) c0))) f (vp_updL f 0 ((sL σ (ix p0)).toInt64)) rest) dL_setClef_9 (fun H1 locs1 hP hD hS => ?_)
    refine lv_goto (tgt := 21) (pc := 10) hx hb dL_setClef_10 (by decide) ?_
    refine lv_iconst (v := 0) (pc := 21) hx hb dL_setClef_21 (by decide) ?_
    refine W.widen (k := 2) (n := 12) (Nat.le_of_ble_eq_true rfl) (Nat.le_of_ble_eq_true rfl) ?_
    exact W.iret hx hb hr (fun t ht hW => ⟨⟨_, (sB (uL σ (ix p0) c0), (vp_updL f 0 ((sL σ (ix p0)).toInt64))), rfl, ⟨rfl, hI1, fun _ => rfl⟩, by rw [ht]; exact hP, hD⟩, hS.F ht⟩) hS.2.2 dL_setClef_22
set_option maxHeartbeats 4000000 in
set_option maxRecDepth 100000 in
/-- the law: setMensuration -/
theorem hL_setMensuration (l : Launch) (hfl : l.stackTraces = false) (g : GA) (A : Nat → Prop) (σ : St) (f : Nat → Int64) (rest : va_W) (p0 : Int32) (a0 : Int32) (b0 : Int32) (c0 : Int32) (hI : Inv σ) : Met l yL_setMensuration wsL_setMensuration ({ frames := 9, cells := 4, slots := 24, locals := 159 }) (va_Pc [.ref (gX g), .int p0, .int a0, .int b0, .int c0, .ref (gO g)] (CxL g A (cw g σ ++ (ow g f ++ rest)))) (va_Qi (fun (r : Int32) (u : (Nat → Nat → Int32) × (Nat → Int64)) => r = nI (cdVR σ p0 (inM a0 b0 c0)) ∧ Inv (uB (efs (cdVR σ p0 (inM a0 b0 c0)) (meS σ (ix p0) (ix a0) (ix b0) (ix c0)) σ) u.1) ∧ (cdVR σ p0 (inM a0 b0 c0) = 0 → u.2 0 = (nI (len (meS σ (ix p0) (ix a0) (ix b0) (ix c0)) (ix p0))).toInt64)) (fun u t => kB g A (cw g (uB (efs (cdVR σ p0 (inM a0 b0 c0)) (meS σ (ix p0) (ix a0) (ix b0) (ix c0)) σ) u.1) ++ (ow g u.2 ++ rest)) t) A) 4 24 A := by
  refine k_ofWH (cc := cL_setMensuration) (maxL := 7) (ret := some .int) (hh := [(0, 14, 17, 21), (0, 14, 21, 13)]) (by decide) rfl ?_
  intro p e s m args below meth c s₁ B hml htab hv0
  obtain ⟨rfl, ⟨hP, hD, hA, hK, hX⟩, hNc⟩ := hv0
  have hx := B.exec
  have hb := B.bytes
  have hr := B.returns
  have hts := atoms_spec (ws := wsL_setMensuration) B.pre
  have hown : s.vm.findClass RL = some m.cls := findClass_of_methodNamed B.named
  have hlocks := B.notSynchronized
  have hS : va_S A s.heap s.heap [] := va_S.rf
  have hl := lv_entry ([.ref (gX g), .int p0, .int a0, .int b0, .int c0, .ref (gO g)]) (n := 7) (Nat.le_of_ble_eq_true rfl)
  rw [lg_entry_eq]
  generalize (lg_sl ([.ref (gX g), .int p0, .int a0, .int b0, .int c0, .ref (gO g)]) ++ List.replicate (7 - (lg_sl ([.ref (gX g), .int p0, .int a0, .int b0, .int c0, .ref (gO g)])).length) Slot.unset).toArray = ls at hl ⊢
  have hl : lv_has ls 7 [(0, .ref (gX g)), (1, .int p0), (2, .int a0), (3, .int b0), (4, .int c0), (5, .ref (gO g))] := hl
  refine lv_aload (pc := 0) hx hb dL_setMensuration_0 (lv_at hl 5 rfl) ?_
  refine lv_iconst (v := 0) (pc := 2) hx hb dL_setMensuration_2 (by decide) ?_
  refine lv_aload_n (pc := 3) hx hb dL_setMensuration_3 rfl (lv_at hl 0 rfl) ?_
  refine lv_iload_n (pc := 4) hx hb dL_setMensuration_4 rfl (lv_at hl 1 rfl) ?_
  refine lv_iload_n (pc := 5) hx hb dL_setMensuration_5 rfl (lv_at hl 2 rfl) ?_
  refine lv_iload_n (pc := 6) hx hb dL_setMensuration_6 rfl (lv_at hl 3 rfl) ?_
  refine lv_iload (pc := 7) hx hb dL_setMensuration_7 (lv_at hl 4 rfl) ?_
  refine k_hwi (pc := 9) (vx_runV (As := [.int p0, .int a0, .int b0, .int c0]) (rest := [.int 0, .ref (gO g)]) ⟨hx, hb, hml, hown, hts⟩ (cX1_setMensuration_m l hfl g A σ (ow g f ++ rest) p0 a0 b0 c0 hI) (cwV 4 hts gL_setMensuration_X1_setMensuration rfl rfl rfl (by decide +kernel) ⟨Nat.le_of_ble_eq_true rfl, Nat.le_of_ble_eq_true rfl⟩) (cx_V (q0 := 0) (ci := 1) (r := (RX1, TX1, 2)) rfl (cx0 g σ (ow g f ++ rest)) hP hD hA hK hX hS) rfl rfl hl.1 rfl (lv_room (Nat.le_of_ble_eq_true rfl)) dL_setMensuration_9 ⟨Nat.le_of_ble_eq_true rfl, Nat.le_of_ble_eq_true rfl⟩) hS (fun E ce q9 H1 locs1 hE hS hkp hcell hcv hcl => ?_) (fun r u t H1 locs1 ht hr1 hB hS => ?_)
  · have hP : va_P (gD g) vwCl (cw g σ ++ (ow g f ++ rest)) H1 := hP.kept (fun k q hk => hkp q.1 ((hP k q hk).lt))
    rcases hE with ⟨rfl, hcd⟩ | ⟨rfl, hcd⟩
    · rw [hcd]
      refine vx_catch (E := eI) (name := "java/lang/IndexOutOfBoundsException") hown [] (⟨0, 14, 17, 21⟩ : ExceptionTableEntry) [(⟨0, 14, 21, 13⟩ : ExceptionTableEntry)] (htab.trans rfl) (fun z hz => absurd hz List.not_mem_nil) (by decide) (by decide) (hts (.classLink RL 21 "java/lang/IndexOutOfBoundsException") (by decide +kernel)) (va_Nw.use rfl (hX.cast (E := eI) (by decide))) hcell hcv hcl ?_
      refine lv_astore (lv' := [(6, .ref q9), (0, .ref (gX g)), (1, .int p0), (2, .int a0), (3, .int b0), (4, .int c0), (5, .ref (gO g))]) (pc := 17) hx hb dL_setMensuration_17 hl (by decide) rfl (fun ls hl => ?_)
      refine lv_iconst (v := 1) (pc := 19) hx hb dL_setMensuration_19 (by decide) ?_
      refine W.widen (k := 4) (n := 24) (Nat.le_of_ble_eq_true rfl) (Nat.le_of_ble_eq_true rfl) ?_
      exact W.iret hx hb hr (fun t ht hW => ⟨⟨_, (sB σ, f), rfl, ⟨rfl, hI, fun q => absurd q (by decide)⟩, by rw [ht]; exact hP, hD⟩, hS.F ht⟩) hS.2.2 dL_setMensuration_20
    · rw [hcd]
      refine vx_catch (E := eA) (name := "java/lang/IllegalArgumentException") hown [(⟨0, 14, 17, 21⟩ : ExceptionTableEntry)] (⟨0, 14, 21, 13⟩ : ExceptionTableEntry) [] (htab.trans rfl) (List.forall_mem_cons.mpr ⟨Or.inr ⟨by decide, "java/lang/IndexOutOfBoundsException", hts (.classLink RL 21 "java/lang/IndexOutOfBoundsException") (by decide +kernel), hNc (eA, eI) (by decide)⟩, (fun z hz => absurd hz List.not_mem_nil)⟩) (by decide) (by decide) (hts (.classLink RL 13 "java/lang/IllegalArgumentException") (by decide +kernel)) (va_Nw.use rfl (hX.cast (E := eA) (by decide))) hcell hcv hcl ?_
      refine lv_astore (lv' := [(6, .ref q9), (0, .ref (gX g)), (1, .int p0), (2, .int a0), (3, .int b0), (4, .int c0), (5, .ref (gO g))]) (pc := 21) hx hb dL_setMensuration_21 hl (by decide) rfl (fun ls hl => ?_)
      refine lv_iconst (v := 2) (pc := 23) hx hb dL_setMensuration_23 (by decide) ?_
      refine W.widen (k := 4) (n := 24) (Nat.le_of_ble_eq_true rfl) (Nat.le_of_ble_eq_true rfl) ?_
      exact W.iret hx hb hr (fun t ht hW => ⟨⟨_, (sB σ, f), rfl, ⟨rfl, hI, fun q => absurd q (by decide)⟩, by rw [ht]; exact hP, hD⟩, hS.F ht⟩) hS.2.2 dL_setMensuration_24
  · obtain ⟨hcd, rfl, hI1⟩ := hr1
    obtain ⟨hP, hD⟩ := hB
    rw [ht] at hP
    rw [hcd]
    refine lv_i2l (pc := 12) hx hb dL_setMensuration_12 rfl ?_
    refine k_last (pc := 13) (ws' := cw g (uB (meS σ (ix p0) (ix a0) (ix b0) (ix c0)) u) ++ (ow g (vp_updL f 0 ((nI (len (meS σ (ix p0) (ix a0) (ix b0) (ix c0)) (ix p0))).toInt64)) ++ rest)) hx hb hK hP hD hS 26 3 (oa g (uB (meS σ (ix p0) (ix a0) (ix b0) (ix c0)) u) f rest) rfl 0 rfl (by decide) (by decide) (os g (uB (meS σ (ix p0) (ix a0) (ix b0) (ix c0)) u) f (vp_updL f 0 ((nI (len (meS σ (ix p0) (ix a0) (ix b0) (ix c0)) (ix p0))).toInt64)) rest) dL_setMensuration_13 (fun H1 locs1 hP hD hS => ?_)
    refine lv_goto (tgt := 25) (pc := 14) hx hb dL_setMensuration_14 (by decide) ?_
    refine lv_iconst (v := 0) (pc := 25) hx hb dL_setMensuration_25 (by decide) ?_
    refine W.widen (k := 4) (n := 24) (Nat.le_of_ble_eq_true rfl) (Nat.le_of_ble_eq_true rfl) ?_
    exact W.iret hx hb hr (fun t ht hW => ⟨⟨_, (u, (vp_updL f 0 ((nI (len (meS σ (ix p0) (ix a0) (ix b0) (ix c0)) (ix p0))).toInt64))), rfl, ⟨rfl, hI1, fun _ => rfl⟩, by rw [ht]; exact hP, hD⟩, hS.F ht⟩) hS.2.2 dL_setMensuration_26
set_option maxHeartbeats 4000000 in
set_option maxRecDepth 100000 in
/-- the law: signs -/
theorem hL_signs (l : Launch) (hfl : l.stackTraces = false) (g : GA) (A : Nat → Prop) (σ : St) (f : Nat → Int64) (rest : va_W) (p0 : Int32) (hI : Inv σ) : Met l yL_signs wsL_signs ({ frames := 8, cells := 1, slots := 6, locals := 132 }) (va_Pc [.ref (gX g), .int p0, .ref (gO g)] (CxL g A (cw g σ ++ (ow g f ++ rest)))) (va_Qi (fun (r : Int32) (u : Nat → Int64) => r = nI (cdV σ p0) ∧ (cdV σ p0 = 0 → u 0 = (nI (sC σ (ix p0))).toInt64)) (fun u t => kB g A (cw g σ ++ (ow g u ++ rest)) t) A) 1 6 A := by
  refine k_ofWH (cc := cL_signs) (maxL := 4) (ret := some .int) (hh := [(0, 9, 12, 21)]) (by decide) rfl ?_
  intro p e s m args below meth c s₁ B hml htab hv0
  obtain ⟨rfl, ⟨hP, hD, hA, hK, hX⟩, hNc⟩ := hv0
  have hx := B.exec
  have hb := B.bytes
  have hr := B.returns
  have hts := atoms_spec (ws := wsL_signs) B.pre
  have hown : s.vm.findClass RL = some m.cls := findClass_of_methodNamed B.named
  have hlocks := B.notSynchronized
  have hS : va_S A s.heap s.heap [] := va_S.rf
  have hl := lv_entry ([.ref (gX g), .int p0, .ref (gO g)]) (n := 4) (Nat.le_of_ble_eq_true rfl)
  rw [lg_entry_eq]
  generalize (lg_sl ([.ref (gX g), .int p0, .ref (gO g)]) ++ List.replicate (4 - (lg_sl ([.ref (gX g), .int p0, .ref (gO g)])).length) Slot.unset).toArray = ls at hl ⊢
  have hl : lv_has ls 4 [(0, .ref (gX g)), (1, .int p0), (2, .ref (gO g))] := hl
  refine lv_aload_n (pc := 0) hx hb dL_signs_0 rfl (lv_at hl 2 rfl) ?_
  refine lv_iconst (v := 0) (pc := 1) hx hb dL_signs_1 (by decide) ?_
  refine lv_aload_n (pc := 2) hx hb dL_signs_2 rfl (lv_at hl 0 rfl) ?_
  refine lv_iload_n (pc := 3) hx hb dL_signs_3 rfl (lv_at hl 1 rfl) ?_
  refine k_hri (pc := 4) (vx_runV (As := [.int p0]) (rest := [.int 0, .ref (gO g)]) ⟨hx, hb, hml, hown, hts⟩ (cX1_signs_m l hfl g A σ (ow g f ++ rest) p0 hI) (cwV 1 hts gL_signs_X1_signs rfl rfl rfl (by decide +kernel) ⟨Nat.le_of_ble_eq_true rfl, Nat.le_of_ble_eq_true rfl⟩) (cx_V (q0 := 0) (ci := 1) (r := (RX1, TX1, 2)) rfl (cx0 g σ (ow g f ++ rest)) hP hD hA hK hX hS) rfl rfl hl.1 rfl (lv_room (Nat.le_of_ble_eq_true rfl)) dL_signs_4 ⟨Nat.le_of_ble_eq_true rfl, Nat.le_of_ble_eq_true rfl⟩) hS (fun E ce q9 H1 locs1 hE hS hkp hcell hcv hcl => ?_) (fun r hr1 => ?_)
  · have hP : va_P (gD g) vwCl (cw g σ ++ (ow g f ++ rest)) H1 := hP.kept (fun k q hk => hkp q.1 ((hP k q hk).lt))
    obtain ⟨rfl, hcd⟩ := hE
    rw [hcd]
    refine vx_catch (E := eI) (name := "java/lang/IndexOutOfBoundsException") hown [] (⟨0, 9, 12, 21⟩ : ExceptionTableEntry) [] (htab.trans rfl) (fun z hz => absurd hz List.not_mem_nil) (by decide) (by decide) (hts (.classLink RL 21 "java/lang/IndexOutOfBoundsException") (by decide +kernel)) (va_Nw.use rfl (hX.cast (E := eI) (by decide))) hcell hcv hcl ?_
    refine lv_astore_n (lv' := [(3, .ref q9), (0, .ref (gX g)), (1, .int p0), (2, .ref (gO g))]) (pc := 12) hx hb dL_signs_12 rfl hl (by decide) rfl (fun ls hl => ?_)
    refine lv_iconst (v := 1) (pc := 13) hx hb dL_signs_13 (by decide) ?_
    refine W.widen (k := 1) (n := 6) (Nat.le_of_ble_eq_true rfl) (Nat.le_of_ble_eq_true rfl) ?_
    exact W.iret hx hb hr (fun t ht hW => ⟨⟨_, f, rfl, ⟨rfl, fun q => absurd q (by decide)⟩, by rw [ht]; exact hP, hD⟩, hS.F ht⟩) hS.2.2 dL_signs_14
  · obtain ⟨hcd, rfl⟩ := hr1
    rw [hcd]
    refine lv_i2l (pc := 7) hx hb dL_signs_7 rfl ?_
    refine k_last (pc := 8) (ws' := cw g σ ++ (ow g (vp_updL f 0 ((nI (sC σ (ix p0))).toInt64)) ++ rest)) hx hb hK hP hD hS 26 3 (oa g σ f rest) rfl 0 rfl (by decide) (by decide) (os g σ f (vp_updL f 0 ((nI (sC σ (ix p0))).toInt64)) rest) dL_signs_8 (fun H1 locs1 hP hD hS => ?_)
    refine lv_goto (tgt := 15) (pc := 9) hx hb dL_signs_9 (by decide) ?_
    refine lv_iconst (v := 0) (pc := 15) hx hb dL_signs_15 (by decide) ?_
    refine W.widen (k := 1) (n := 6) (Nat.le_of_ble_eq_true rfl) (Nat.le_of_ble_eq_true rfl) ?_
    exact W.iret hx hb hr (fun t ht hW => ⟨⟨_, (vp_updL f 0 ((nI (sC σ (ix p0))).toInt64)), rfl, ⟨rfl, fun _ => rfl⟩, by rw [ht]; exact hP, hD⟩, hS.F ht⟩) hS.2.2 dL_signs_16
set_option maxHeartbeats 4000000 in
set_option maxRecDepth 100000 in
/-- the law: notes -/
theorem hL_notes (l : Launch) (hfl : l.stackTraces = false) (g : GA) (A : Nat → Prop) (σ : St) (f : Nat → Int64) (rest : va_W) (p0 : Int32) (hI : Inv σ) : Met l yL_notes wsL_notes ({ frames := 8, cells := 1, slots := 6, locals := 132 }) (va_Pc [.ref (gX g), .int p0, .ref (gO g)] (CxL g A (cw g σ ++ (ow g f ++ rest)))) (va_Qi (fun (r : Int32) (u : Nat → Int64) => r = nI (cdV σ p0) ∧ (cdV σ p0 = 0 → u 0 = (nI (cnt (isNt σ (ix p0)) (sC σ (ix p0)))).toInt64)) (fun u t => kB g A (cw g σ ++ (ow g u ++ rest)) t) A) 1 6 A := by
  refine k_ofWH (cc := cL_notes) (maxL := 4) (ret := some .int) (hh := [(0, 9, 12, 21)]) (by decide) rfl ?_
  intro p e s m args below meth c s₁ B hml htab hv0
  obtain ⟨rfl, ⟨hP, hD, hA, hK, hX⟩, hNc⟩ := hv0
  have hx := B.exec
  have hb := B.bytes
  have hr := B.returns
  have hts := atoms_spec (ws := wsL_notes) B.pre
  have hown : s.vm.findClass RL = some m.cls := findClass_of_methodNamed B.named
  have hlocks := B.notSynchronized
  have hS : va_S A s.heap s.heap [] := va_S.rf
  have hl := lv_entry ([.ref (gX g), .int p0, .ref (gO g)]) (n := 4) (Nat.le_of_ble_eq_true rfl)
  rw [lg_entry_eq]
  generalize (lg_sl ([.ref (gX g), .int p0, .ref (gO g)]) ++ List.replicate (4 - (lg_sl ([.ref (gX g), .int p0, .ref (gO g)])).length) Slot.unset).toArray = ls at hl ⊢
  have hl : lv_has ls 4 [(0, .ref (gX g)), (1, .int p0), (2, .ref (gO g))] := hl
  refine lv_aload_n (pc := 0) hx hb dL_notes_0 rfl (lv_at hl 2 rfl) ?_
  refine lv_iconst (v := 0) (pc := 1) hx hb dL_notes_1 (by decide) ?_
  refine lv_aload_n (pc := 2) hx hb dL_notes_2 rfl (lv_at hl 0 rfl) ?_
  refine lv_iload_n (pc := 3) hx hb dL_notes_3 rfl (lv_at hl 1 rfl) ?_
  refine k_hri (pc := 4) (vx_runV (As := [.int p0]) (rest := [.int 0, .ref (gO g)]) ⟨hx, hb, hml, hown, hts⟩ (cX1_notes_m l hfl g A σ (ow g f ++ rest) p0 hI) (cwV 1 hts gL_notes_X1_notes rfl rfl rfl (by decide +kernel) ⟨Nat.le_of_ble_eq_true rfl, Nat.le_of_ble_eq_true rfl⟩) (cx_V (q0 := 0) (ci := 1) (r := (RX1, TX1, 2)) rfl (cx0 g σ (ow g f ++ rest)) hP hD hA hK hX hS) rfl rfl hl.1 rfl (lv_room (Nat.le_of_ble_eq_true rfl)) dL_notes_4 ⟨Nat.le_of_ble_eq_true rfl, Nat.le_of_ble_eq_true rfl⟩) hS (fun E ce q9 H1 locs1 hE hS hkp hcell hcv hcl => ?_) (fun r hr1 => ?_)
  · have hP : va_P (gD g) vwCl (cw g σ ++ (ow g f ++ rest)) H1 := hP.kept (fun k q hk => hkp q.1 ((hP k q hk).lt))
    obtain ⟨rfl, hcd⟩ := hE
    rw [hcd]
    refine vx_catch (E := eI) (name := "java/lang/IndexOutOfBoundsException") hown [] (⟨0, 9, 12, 21⟩ : ExceptionTableEntry) [] (htab.trans rfl) (fun z hz => absurd hz List.not_mem_nil) (by decide) (by decide) (hts (.classLink RL 21 "java/lang/IndexOutOfBoundsException") (by decide +kernel)) (va_Nw.use rfl (hX.cast (E := eI) (by decide))) hcell hcv hcl ?_
    refine lv_astore_n (lv' := [(3, .ref q9), (0, .ref (gX g)), (1, .int p0), (2, .ref (gO g))]) (pc := 12) hx hb dL_notes_12 rfl hl (by decide) rfl (fun ls hl => ?_)
    refine lv_iconst (v := 1) (pc := 13) hx hb dL_notes_13 (by decide) ?_
    refine W.widen (k := 1) (n := 6) (Nat.le_of_ble_eq_true rfl) (Nat.le_of_ble_eq_true rfl) ?_
    exact W.iret hx hb hr (fun t ht hW => ⟨⟨_, f, rfl, ⟨rfl, fun q => absurd q (by decide)⟩, by rw [ht]; exact hP, hD⟩, hS.F ht⟩) hS.2.2 dL_notes_14
  · obtain ⟨hcd, rfl⟩ := hr1
    rw [hcd]
    refine lv_i2l (pc := 7) hx hb dL_notes_7 rfl ?_
    refine k_last (pc := 8) (ws' := cw g σ ++ (ow g (vp_updL f 0 ((nI (cnt (isNt σ (ix p0)) (sC σ (ix p0)))).toInt64)) ++ rest)) hx hb hK hP hD hS 26 3 (oa g σ f rest) rfl 0 rfl (by decide) (by decide) (os g σ f (vp_updL f 0 ((nI (cnt (isNt σ (ix p0)) (sC σ (ix p0)))).toInt64)) rest) dL_notes_8 (fun H1 locs1 hP hD hS => ?_)
    refine lv_goto (tgt := 15) (pc := 9) hx hb dL_notes_9 (by decide) ?_
    refine lv_iconst (v := 0) (pc := 15) hx hb dL_notes_15 (by decide) ?_
    refine W.widen (k := 1) (n := 6) (Nat.le_of_ble_eq_true rfl) (Nat.le_of_ble_eq_true rfl) ?_
    exact W.iret hx hb hr (fun t ht hW => ⟨⟨_, (vp_updL f 0 ((nI (cnt (isNt σ (ix p0)) (sC σ (ix p0)))).toInt64)), rfl, ⟨rfl, fun _ => rfl⟩, by rw [ht]; exact hP, hD⟩, hS.F ht⟩) hS.2.2 dL_notes_16
set_option maxHeartbeats 4000000 in
set_option maxRecDepth 100000 in
/-- the law: ligatures -/
theorem hL_ligatures (l : Launch) (hfl : l.stackTraces = false) (g : GA) (A : Nat → Prop) (σ : St) (f : Nat → Int64) (rest : va_W) (p0 : Int32) (hI : Inv σ) : Met l yL_ligatures wsL_ligatures ({ frames := 8, cells := 1, slots := 6, locals := 132 }) (va_Pc [.ref (gX g), .int p0, .ref (gO g)] (CxL g A (cw g σ ++ (ow g f ++ rest)))) (va_Qi (fun (r : Int32) (u : Nat → Int64) => r = nI (cdV σ p0) ∧ (cdV σ p0 = 0 → u 0 = (nI (cnt (isLg σ (ix p0)) (sC σ (ix p0)))).toInt64)) (fun u t => kB g A (cw g σ ++ (ow g u ++ rest)) t) A) 1 6 A := by
  refine k_ofWH (cc := cL_ligatures) (maxL := 4) (ret := some .int) (hh := [(0, 9, 12, 21)]) (by decide) rfl ?_
  intro p e s m args below meth c s₁ B hml htab hv0
  obtain ⟨rfl, ⟨hP, hD, hA, hK, hX⟩, hNc⟩ := hv0
  have hx := B.exec
  have hb := B.bytes
  have hr := B.returns
  have hts := atoms_spec (ws := wsL_ligatures) B.pre
  have hown : s.vm.findClass RL = some m.cls := findClass_of_methodNamed B.named
  have hlocks := B.notSynchronized
  have hS : va_S A s.heap s.heap [] := va_S.rf
  have hl := lv_entry ([.ref (gX g), .int p0, .ref (gO g)]) (n := 4) (Nat.le_of_ble_eq_true rfl)
  rw [lg_entry_eq]
  generalize (lg_sl ([.ref (gX g), .int p0, .ref (gO g)]) ++ List.replicate (4 - (lg_sl ([.ref (gX g), .int p0, .ref (gO g)])).length) Slot.unset).toArray = ls at hl ⊢
  have hl : lv_has ls 4 [(0, .ref (gX g)), (1, .int p0), (2, .ref (gO g))] := hl
  refine lv_aload_n (pc := 0) hx hb dL_ligatures_0 rfl (lv_at hl 2 rfl) ?_
  refine lv_iconst (v := 0) (pc := 1) hx hb dL_ligatures_1 (by decide) ?_
  refine lv_aload_n (pc := 2) hx hb dL_ligatures_2 rfl (lv_at hl 0 rfl) ?_
  refine lv_iload_n (pc := 3) hx hb dL_ligatures_3 rfl (lv_at hl 1 rfl) ?_
  refine k_hri (pc := 4) (vx_runV (As := [.int p0]) (rest := [.int 0, .ref (gO g)]) ⟨hx, hb, hml, hown, hts⟩ (cX1_ligatures_m l hfl g A σ (ow g f ++ rest) p0 hI) (cwV 1 hts gL_ligatures_X1_ligatures rfl rfl rfl (by decide +kernel) ⟨Nat.le_of_ble_eq_true rfl, Nat.le_of_ble_eq_true rfl⟩) (cx_V (q0 := 0) (ci := 1) (r := (RX1, TX1, 2)) rfl (cx0 g σ (ow g f ++ rest)) hP hD hA hK hX hS) rfl rfl hl.1 rfl (lv_room (Nat.le_of_ble_eq_true rfl)) dL_ligatures_4 ⟨Nat.le_of_ble_eq_true rfl, Nat.le_of_ble_eq_true rfl⟩) hS (fun E ce q9 H1 locs1 hE hS hkp hcell hcv hcl => ?_) (fun r hr1 => ?_)
  · have hP : va_P (gD g) vwCl (cw g σ ++ (ow g f ++ rest)) H1 := hP.kept (fun k q hk => hkp q.1 ((hP k q hk).lt))
    obtain ⟨rfl, hcd⟩ := hE
    rw [hcd]
    refine vx_catch (E := eI) (name := "java/lang/IndexOutOfBoundsException") hown [] (⟨0, 9, 12, 21⟩ : ExceptionTableEntry) [] (htab.trans rfl) (fun z hz => absurd hz List.not_mem_nil) (by decide) (by decide) (hts (.classLink RL 21 "java/lang/IndexOutOfBoundsException") (by decide +kernel)) (va_Nw.use rfl (hX.cast (E := eI) (by decide))) hcell hcv hcl ?_
    refine lv_astore_n (lv' := [(3, .ref q9), (0, .ref (gX g)), (1, .int p0), (2, .ref (gO g))]) (pc := 12) hx hb dL_ligatures_12 rfl hl (by decide) rfl (fun ls hl => ?_)
    refine lv_iconst (v := 1) (pc := 13) hx hb dL_ligatures_13 (by decide) ?_
    refine W.widen (k := 1) (n := 6) (Nat.le_of_ble_eq_true rfl) (Nat.le_of_ble_eq_true rfl) ?_
    exact W.iret hx hb hr (fun t ht hW => ⟨⟨_, f, rfl, ⟨rfl, fun q => absurd q (by decide)⟩, by rw [ht]; exact hP, hD⟩, hS.F ht⟩) hS.2.2 dL_ligatures_14
  · obtain ⟨hcd, rfl⟩ := hr1
    rw [hcd]
    refine lv_i2l (pc := 7) hx hb dL_ligatures_7 rfl ?_
    refine k_last (pc := 8) (ws' := cw g σ ++ (ow g (vp_updL f 0 ((nI (cnt (isLg σ (ix p0)) (sC σ (ix p0)))).toInt64)) ++ rest)) hx hb hK hP hD hS 26 3 (oa g σ f rest) rfl 0 rfl (by decide) (by decide) (os g σ f (vp_updL f 0 ((nI (cnt (isLg σ (ix p0)) (sC σ (ix p0)))).toInt64)) rest) dL_ligatures_8 (fun H1 locs1 hP hD hS => ?_)
    refine lv_goto (tgt := 15) (pc := 9) hx hb dL_ligatures_9 (by decide) ?_
    refine lv_iconst (v := 0) (pc := 15) hx hb dL_ligatures_15 (by decide) ?_
    refine W.widen (k := 1) (n := 6) (Nat.le_of_ble_eq_true rfl) (Nat.le_of_ble_eq_true rfl) ?_
    exact W.iret hx hb hr (fun t ht hW => ⟨⟨_, (vp_updL f 0 ((nI (cnt (isLg σ (ix p0)) (sC σ (ix p0)))).toInt64)), rfl, ⟨rfl, fun _ => rfl⟩, by rw [ht]; exact hP, hD⟩, hS.F ht⟩) hS.2.2 dL_ligatures_16
set_option maxHeartbeats 4000000 in
set_option maxRecDepth 100000 in
/-- the law: kindOf -/
theorem hL_kindOf (l : Launch) (hfl : l.stackTraces = false) (g : GA) (A : Nat → Prop) (σ : St) (f : Nat → Int64) (rest : va_W) (p0 : Int32) (q0 : Int32) (hI : Inv σ) : Met l yL_kindOf wsL_kindOf ({ frames := 9, cells := 2, slots := 12, locals := 156 }) (va_Pc [.ref (gX g), .int p0, .int q0, .ref (gO g)] (CxL g A (cw g σ ++ (ow g f ++ rest)))) (va_Qi (fun (r : Int32) (u : Nat → Int64) => r = nI (cdS σ p0 q0) ∧ (cdS σ p0 q0 = 0 → u 0 = (nI (sK σ (ix p0) (ix q0))).toInt64)) (fun u t => kB g A (cw g σ ++ (ow g u ++ rest)) t) A) 2 12 A := by
  refine k_ofWH (cc := cL_kindOf) (maxL := 5) (ret := some .int) (hh := [(0, 10, 13, 21)]) (by decide) rfl ?_
  intro p e s m args below meth c s₁ B hml htab hv0
  obtain ⟨rfl, ⟨hP, hD, hA, hK, hX⟩, hNc⟩ := hv0
  have hx := B.exec
  have hb := B.bytes
  have hr := B.returns
  have hts := atoms_spec (ws := wsL_kindOf) B.pre
  have hown : s.vm.findClass RL = some m.cls := findClass_of_methodNamed B.named
  have hlocks := B.notSynchronized
  have hS : va_S A s.heap s.heap [] := va_S.rf
  have hl := lv_entry ([.ref (gX g), .int p0, .int q0, .ref (gO g)]) (n := 5) (Nat.le_of_ble_eq_true rfl)
  rw [lg_entry_eq]
  generalize (lg_sl ([.ref (gX g), .int p0, .int q0, .ref (gO g)]) ++ List.replicate (5 - (lg_sl ([.ref (gX g), .int p0, .int q0, .ref (gO g)])).length) Slot.unset).toArray = ls at hl ⊢
  have hl : lv_has ls 5 [(0, .ref (gX g)), (1, .int p0), (2, .int q0), (3, .ref (gO g))] := hl
  refine lv_aload_n (pc := 0) hx hb dL_kindOf_0 rfl (lv_at hl 3 rfl) ?_
  refine lv_iconst (v := 0) (pc := 1) hx hb dL_kindOf_1 (by decide) ?_
  refine lv_aload_n (pc := 2) hx hb dL_kindOf_2 rfl (lv_at hl 0 rfl) ?_
  refine lv_iload_n (pc := 3) hx hb dL_kindOf_3 rfl (lv_at hl 1 rfl) ?_
  refine lv_iload_n (pc := 4) hx hb dL_kindOf_4 rfl (lv_at hl 2 rfl) ?_
  refine k_hri (pc := 5) (vx_runV (As := [.int p0, .int q0]) (rest := [.int 0, .ref (gO g)]) ⟨hx, hb, hml, hown, hts⟩ (cX1_kindOf_m l hfl g A σ (ow g f ++ rest) p0 q0 hI) (cwV 2 hts gL_kindOf_X1_kindOf rfl rfl rfl (by decide +kernel) ⟨Nat.le_of_ble_eq_true rfl, Nat.le_of_ble_eq_true rfl⟩) (cx_V (q0 := 0) (ci := 1) (r := (RX1, TX1, 2)) rfl (cx0 g σ (ow g f ++ rest)) hP hD hA hK hX hS) rfl rfl hl.1 rfl (lv_room (Nat.le_of_ble_eq_true rfl)) dL_kindOf_5 ⟨Nat.le_of_ble_eq_true rfl, Nat.le_of_ble_eq_true rfl⟩) hS (fun E ce q9 H1 locs1 hE hS hkp hcell hcv hcl => ?_) (fun r hr1 => ?_)
  · have hP : va_P (gD g) vwCl (cw g σ ++ (ow g f ++ rest)) H1 := hP.kept (fun k q hk => hkp q.1 ((hP k q hk).lt))
    obtain ⟨rfl, hcd⟩ := hE
    rw [hcd]
    refine vx_catch (E := eI) (name := "java/lang/IndexOutOfBoundsException") hown [] (⟨0, 10, 13, 21⟩ : ExceptionTableEntry) [] (htab.trans rfl) (fun z hz => absurd hz List.not_mem_nil) (by decide) (by decide) (hts (.classLink RL 21 "java/lang/IndexOutOfBoundsException") (by decide +kernel)) (va_Nw.use rfl (hX.cast (E := eI) (by decide))) hcell hcv hcl ?_
    refine lv_astore (lv' := [(4, .ref q9), (0, .ref (gX g)), (1, .int p0), (2, .int q0), (3, .ref (gO g))]) (pc := 13) hx hb dL_kindOf_13 hl (by decide) rfl (fun ls hl => ?_)
    refine lv_iconst (v := 1) (pc := 15) hx hb dL_kindOf_15 (by decide) ?_
    refine W.widen (k := 2) (n := 12) (Nat.le_of_ble_eq_true rfl) (Nat.le_of_ble_eq_true rfl) ?_
    exact W.iret hx hb hr (fun t ht hW => ⟨⟨_, f, rfl, ⟨rfl, fun q => absurd q (by decide)⟩, by rw [ht]; exact hP, hD⟩, hS.F ht⟩) hS.2.2 dL_kindOf_16
  · obtain ⟨hcd, rfl⟩ := hr1
    rw [hcd]
    refine lv_i2l (pc := 8) hx hb dL_kindOf_8 rfl ?_
    refine k_last (pc := 9) (ws' := cw g σ ++ (ow g (vp_updL f 0 ((nI (sK σ (ix p0) (ix q0))).toInt64)) ++ rest)) hx hb hK hP hD hS 26 3 (oa g σ f rest) rfl 0 rfl (by decide) (by decide) (os g σ f (vp_updL f 0 ((nI (sK σ (ix p0) (ix q0))).toInt64)) rest) dL_kindOf_9 (fun H1 locs1 hP hD hS => ?_)
    refine lv_goto (tgt := 17) (pc := 10) hx hb dL_kindOf_10 (by decide) ?_
    refine lv_iconst (v := 0) (pc := 17) hx hb dL_kindOf_17 (by decide) ?_
    refine W.widen (k := 2) (n := 12) (Nat.le_of_ble_eq_true rfl) (Nat.le_of_ble_eq_true rfl) ?_
    exact W.iret hx hb hr (fun t ht hW => ⟨⟨_, (vp_updL f 0 ((nI (sK σ (ix p0) (ix q0))).toInt64)), rfl, ⟨rfl, fun _ => rfl⟩, by rw [ht]; exact hP, hD⟩, hS.F ht⟩) hS.2.2 dL_kindOf_18
set_option maxHeartbeats 4000000 in
set_option maxRecDepth 100000 in
/-- the law: placeOf -/
theorem hL_placeOf (l : Launch) (hfl : l.stackTraces = false) (g : GA) (A : Nat → Prop) (σ : St) (f : Nat → Int64) (rest : va_W) (p0 : Int32) (q0 : Int32) (hI : Inv σ) : Met l yL_placeOf wsL_placeOf ({ frames := 9, cells := 2, slots := 12, locals := 156 }) (va_Pc [.ref (gX g), .int p0, .int q0, .ref (gO g)] (CxL g A (cw g σ ++ (ow g f ++ rest)))) (va_Qi (fun (r : Int32) (u : Nat → Int64) => r = nI (cdS σ p0 q0) ∧ (cdS σ p0 q0 = 0 → u 0 = (sP σ (ix p0) (ix q0)).toInt64)) (fun u t => kB g A (cw g σ ++ (ow g u ++ rest)) t) A) 2 12 A := by
  refine k_ofWH (cc := cL_placeOf) (maxL := 5) (ret := some .int) (hh := [(0, 10, 13, 21)]) (by decide) rfl ?_
  intro p e s m args below meth c s₁ B hml htab hv0
  obtain ⟨rfl, ⟨hP, hD, hA, hK, hX⟩, hNc⟩ := hv0
  have hx := B.exec
  have hb := B.bytes
  have hr := B.returns
  have hts := atoms_spec (ws := wsL_placeOf) B.pre
  have hown : s.vm.findClass RL = some m.cls := findClass_of_methodNamed B.named
  have hlocks := B.notSynchronized
  have hS : va_S A s.heap s.heap [] := va_S.rf
  have hl := lv_entry ([.ref (gX g), .int p0, .int q0, .ref (gO g)]) (n := 5) (Nat.le_of_ble_eq_true rfl)
  rw [lg_entry_eq]
  generalize (lg_sl ([.ref (gX g), .int p0, .int q0, .ref (gO g)]) ++ List.replicate (5 - (lg_sl ([.ref (gX g), .int p0, .int q0, .ref (gO g)])).length) Slot.unset).toArray = ls at hl ⊢
  have hl : lv_has ls 5 [(0, .ref (gX g)), (1, .int p0), (2, .int q0), (3, .ref (gO g))] := hl
  refine lv_aload_n (pc := 0) hx hb dL_placeOf_0 rfl (lv_at hl 3 rfl) ?_
  refine lv_iconst (v := 0) (pc := 1) hx hb dL_placeOf_1 (by decide) ?_
  refine lv_aload_n (pc := 2) hx hb dL_placeOf_2 rfl (lv_at hl 0 rfl) ?_
  refine lv_iload_n (pc := 3) hx hb dL_placeOf_3 rfl (lv_at hl 1 rfl) ?_
  refine lv_iload_n (pc := 4) hx hb dL_placeOf_4 rfl (lv_at hl 2 rfl) ?_
  refine k_hri (pc := 5) (vx_runV (As := [.int p0, .int q0]) (rest := [.int 0, .ref (gO g)]) ⟨hx, hb, hml, hown, hts⟩ (cX1_placeOf_m l hfl g A σ (ow g f ++ rest) p0 q0 hI) (cwV 2 hts gL_placeOf_X1_placeOf rfl rfl rfl (by decide +kernel) ⟨Nat.le_of_ble_eq_true rfl, Nat.le_of_ble_eq_true rfl⟩) (cx_V (q0 := 0) (ci := 1) (r := (RX1, TX1, 2)) rfl (cx0 g σ (ow g f ++ rest)) hP hD hA hK hX hS) rfl rfl hl.1 rfl (lv_room (Nat.le_of_ble_eq_true rfl)) dL_placeOf_5 ⟨Nat.le_of_ble_eq_true rfl, Nat.le_of_ble_eq_true rfl⟩) hS (fun E ce q9 H1 locs1 hE hS hkp hcell hcv hcl => ?_) (fun r hr1 => ?_)
  · have hP : va_P (gD g) vwCl (cw g σ ++ (ow g f ++ rest)) H1 := hP.kept (fun k q hk => hkp q.1 ((hP k q hk).lt))
    obtain ⟨rfl, hcd⟩ := hE
    rw [hcd]
    refine vx_catch (E := eI) (name := "java/lang/IndexOutOfBoundsException") hown [] (⟨0, 10, 13, 21⟩ : ExceptionTableEntry) [] (htab.trans rfl) (fun z hz => absurd hz List.not_mem_nil) (by decide) (by decide) (hts (.classLink RL 21 "java/lang/IndexOutOfBoundsException") (by decide +kernel)) (va_Nw.use rfl (hX.cast (E := eI) (by decide))) hcell hcv hcl ?_
    refine lv_astore (lv' := [(4, .ref q9), (0, .ref (gX g)), (1, .int p0), (2, .int q0), (3, .ref (gO g))]) (pc := 13) hx hb dL_placeOf_13 hl (by decide) rfl (fun ls hl => ?_)
    refine lv_iconst (v := 1) (pc := 15) hx hb dL_placeOf_15 (by decide) ?_
    refine W.widen (k := 2) (n := 12) (Nat.le_of_ble_eq_true rfl) (Nat.le_of_ble_eq_true rfl) ?_
    exact W.iret hx hb hr (fun t ht hW => ⟨⟨_, f, rfl, ⟨rfl, fun q => absurd q (by decide)⟩, by rw [ht]; exact hP, hD⟩, hS.F ht⟩) hS.2.2 dL_placeOf_16
  · obtain ⟨hcd, rfl⟩ := hr1
    rw [hcd]
    refine lv_i2l (pc := 8) hx hb dL_placeOf_8 rfl ?_
    refine k_last (pc := 9) (ws' := cw g σ ++ (ow g (vp_updL f 0 ((sP σ (ix p0) (ix q0)).toInt64)) ++ rest)) hx hb hK hP hD hS 26 3 (oa g σ f rest) rfl 0 rfl (by decide) (by decide) (os g σ f (vp_updL f 0 ((sP σ (ix p0) (ix q0)).toInt64)) rest) dL_placeOf_9 (fun H1 locs1 hP hD hS => ?_)
    refine lv_goto (tgt := 17) (pc := 10) hx hb dL_placeOf_10 (by decide) ?_
    refine lv_iconst (v := 0) (pc := 17) hx hb dL_placeOf_17 (by decide) ?_
    refine W.widen (k := 2) (n := 12) (Nat.le_of_ble_eq_true rfl) (Nat.le_of_ble_eq_true rfl) ?_
    exact W.iret hx hb hr (fun t ht hW => ⟨⟨_, (vp_updL f 0 ((sP σ (ix p0) (ix q0)).toInt64)), rfl, ⟨rfl, fun _ => rfl⟩, by rw [ht]; exact hP, hD⟩, hS.F ht⟩) hS.2.2 dL_placeOf_18
set_option maxHeartbeats 4000000 in
set_option maxRecDepth 100000 in
/-- the law: isColoured -/
theorem hL_isColoured (l : Launch) (hfl : l.stackTraces = false) (g : GA) (A : Nat → Prop) (σ : St) (f : Nat → Int64) (rest : va_W) (p0 : Int32) (q0 : Int32) (hI : Inv σ) : Met l yL_isColoured wsL_isColoured ({ frames := 9, cells := 2, slots := 12, locals := 156 }) (va_Pc [.ref (gX g), .int p0, .int q0, .ref (gO g)] (CxL g A (cw g σ ++ (ow g f ++ rest)))) (va_Qi (fun (r : Int32) (u : Nat → Int64) => r = nI (cdS σ p0 q0) ∧ (cdS σ p0 q0 = 0 → u 0 = (bI (sR σ (ix p0) (ix q0))).toInt64)) (fun u t => kB g A (cw g σ ++ (ow g u ++ rest)) t) A) 2 12 A := by
  refine k_ofWH (cc := cL_isColoured) (maxL := 5) (ret := some .int) (hh := [(0, 17, 20, 21)]) (by decide) rfl ?_
  intro p e s m args below meth c s₁ B hml htab hv0
  obtain ⟨rfl, ⟨hP, hD, hA, hK, hX⟩, hNc⟩ := hv0
  have hx := B.exec
  have hb := B.bytes
  have hr := B.returns
  have hts := atoms_spec (ws := wsL_isColoured) B.pre
  have hown : s.vm.findClass RL = some m.cls := findClass_of_methodNamed B.named
  have hlocks := B.notSynchronized
  have hS : va_S A s.heap s.heap [] := va_S.rf
  have hl := lv_entry ([.ref (gX g), .int p0, .int q0, .ref (gO g)]) (n := 5) (Nat.le_of_ble_eq_true rfl)
  rw [lg_entry_eq]
  generalize (lg_sl ([.ref (gX g), .int p0, .int q0, .ref (gO g)]) ++ List.replicate (5 - (lg_sl ([.ref (gX g), .int p0, .int q0, .ref (gO g)])).length) Slot.unset).toArray = ls at hl ⊢
  have hl : lv_has ls 5 [(0, .ref (gX g)), (1, .int p0), (2, .int q0), (3, .ref (gO g))] := hl
  refine lv_aload_n (pc := 0) hx hb dL_isColoured_0 rfl (lv_at hl 3 rfl) ?_
  refine lv_iconst (v := 0) (pc := 1) hx hb dL_isColoured_1 (by decide) ?_
  refine lv_aload_n (pc := 2) hx hb dL_isColoured_2 rfl (lv_at hl 0 rfl) ?_
  refine lv_iload_n (pc := 3) hx hb dL_isColoured_3 rfl (lv_at hl 1 rfl) ?_
  refine lv_iload_n (pc := 4) hx hb dL_isColoured_4 rfl (lv_at hl 2 rfl) ?_
  refine k_hri (pc := 5) (vx_runV (As := [.int p0, .int q0]) (rest := [.int 0, .ref (gO g)]) ⟨hx, hb, hml, hown, hts⟩ (cX1_isColoured_m l hfl g A σ (ow g f ++ rest) p0 q0 hI) (cwV 2 hts gL_isColoured_X1_isColoured rfl rfl rfl (by decide +kernel) ⟨Nat.le_of_ble_eq_true rfl, Nat.le_of_ble_eq_true rfl⟩) (cx_V (q0 := 0) (ci := 1) (r := (RX1, TX1, 2)) rfl (cx0 g σ (ow g f ++ rest)) hP hD hA hK hX hS) rfl rfl hl.1 rfl (lv_room (Nat.le_of_ble_eq_true rfl)) dL_isColoured_5 ⟨Nat.le_of_ble_eq_true rfl, Nat.le_of_ble_eq_true rfl⟩) hS (fun E ce q9 H1 locs1 hE hS hkp hcell hcv hcl => ?_) (fun r hr1 => ?_)
  · have hP : va_P (gD g) vwCl (cw g σ ++ (ow g f ++ rest)) H1 := hP.kept (fun k q hk => hkp q.1 ((hP k q hk).lt))
    obtain ⟨rfl, hcd⟩ := hE
    rw [hcd]
    refine vx_catch (E := eI) (name := "java/lang/IndexOutOfBoundsException") hown [] (⟨0, 17, 20, 21⟩ : ExceptionTableEntry) [] (htab.trans rfl) (fun z hz => absurd hz List.not_mem_nil) (by decide) (by decide) (hts (.classLink RL 21 "java/lang/IndexOutOfBoundsException") (by decide +kernel)) (va_Nw.use rfl (hX.cast (E := eI) (by decide))) hcell hcv hcl ?_
    refine lv_astore (lv' := [(4, .ref q9), (0, .ref (gX g)), (1, .int p0), (2, .int q0), (3, .ref (gO g))]) (pc := 20) hx hb dL_isColoured_20 hl (by decide) rfl (fun ls hl => ?_)
    refine lv_iconst (v := 1) (pc := 22) hx hb dL_isColoured_22 (by decide) ?_
    refine W.widen (k := 2) (n := 12) (Nat.le_of_ble_eq_true rfl) (Nat.le_of_ble_eq_true rfl) ?_
    exact W.iret hx hb hr (fun t ht hW => ⟨⟨_, f, rfl, ⟨rfl, fun q => absurd q (by decide)⟩, by rw [ht]; exact hP, hD⟩, hS.F ht⟩) hS.2.2 dL_isColoured_23
  · obtain ⟨hcd, rfl⟩ := hr1
    rw [hcd]
    refine lv_if_eq (tgt := 15) (pc := 8) hx hb dL_isColoured_8 (by decide) (fun c1 => ?_) (fun c1 => ?_)
    · have c1 := bI_0.mp c1
      refine lv_lconst (v := 0) (pc := 15) hx hb dL_isColoured_15 (by decide) ?_
      refine k_last (pc := 16) (ws' := cw g σ ++ (ow g (vp_updL f 0 0) ++ rest)) hx hb hK hP hD hS 26 3 (oa g σ f rest) rfl 0 rfl (by decide) (by decide) (os g σ f (vp_updL f 0 0) rest) dL_isColoured_16 (fun H2 locs2 hP hD hS => ?_)
      refine lv_goto (tgt := 24) (pc := 17) hx hb dL_isColoured_17 (by decide) ?_
      refine lv_iconst (v := 0) (pc := 24) hx hb dL_isColoured_24 (by decide) ?_
      refine W.widen (k := 2) (n := 12) (Nat.le_of_ble_eq_true rfl) (Nat.le_of_ble_eq_true rfl) ?_
      exact W.iret hx hb hr (fun t ht hW => ⟨⟨_, (vp_updL f 0 0), rfl, ⟨rfl, fun _ => (by rw [c1]; rfl)⟩, by rw [ht]; exact hP, hD⟩, hS.F ht⟩) hS.2.2 dL_isColoured_25
    · have c1 := bI_n0.mp c1
      refine lv_lconst (v := 1) (pc := 11) hx hb dL_isColoured_11 (by decide) ?_
      refine lv_goto (tgt := 16) (pc := 12) hx hb dL_isColoured_12 (by decide) ?_
      refine k_last (pc := 16) (ws' := cw g σ ++ (ow g (vp_updL f 0 1) ++ rest)) hx hb hK hP hD hS 26 3 (oa g σ f rest) rfl 0 rfl (by decide) (by decide) (os g σ f (vp_updL f 0 1) rest) dL_isColoured_16 (fun H3 locs3 hP hD hS => ?_)
      refine lv_goto (tgt := 24) (pc := 17) hx hb dL_isColoured_17 (by decide) ?_
      refine lv_iconst (v := 0) (pc := 24) hx hb dL_isColoured_24 (by decide) ?_
      refine W.widen (k := 2) (n := 12) (Nat.le_of_ble_eq_true rfl) (Nat.le_of_ble_eq_true rfl) ?_
      exact W.iret hx hb hr (fun t ht hW => ⟨⟨_, (vp_updL f 0 1), rfl, ⟨rfl, fun _ => (by rw [c1]; rfl)⟩, by rw [ht]; exact hP, hD⟩, hS.F ht⟩) hS.2.2 dL_isColoured_25
set_option maxHeartbeats 4000000 in
set_option maxRecDepth 100000 in
/-- the law: placeInLigature -/
theorem hL_placeInLigature (l : Launch) (hfl : l.stackTraces = false) (g : GA) (A : Nat → Prop) (σ : St) (f : Nat → Int64) (rest : va_W) (p0 : Int32) (q0 : Int32) (hI : Inv σ) : Met l yL_placeInLigature wsL_placeInLigature ({ frames := 9, cells := 2, slots := 12, locals := 156 }) (va_Pc [.ref (gX g), .int p0, .int q0, .ref (gO g)] (CxL g A (cw g σ ++ (ow g f ++ rest)))) (va_Qi (fun (r : Int32) (u : Nat → Int64) => r = nI (cdS σ p0 q0) ∧ (cdS σ p0 q0 = 0 → u 0 = (sT σ (ix p0) (ix q0)).toInt64)) (fun u t => kB g A (cw g σ ++ (ow g u ++ rest)) t) A) 2 12 A := by
  refine k_ofWH (cc := cL_placeInLigature) (maxL := 5) (ret := some .int) (hh := [(0, 10, 13, 21)]) (by decide) rfl ?_
  intro p e s m args below meth c s₁ B hml htab hv0
  obtain ⟨rfl, ⟨hP, hD, hA, hK, hX⟩, hNc⟩ := hv0
  have hx := B.exec
  have hb := B.bytes
  have hr := B.returns
  have hts := atoms_spec (ws := wsL_placeInLigature) B.pre
  have hown : s.vm.findClass RL = some m.cls := findClass_of_methodNamed B.named
  have hlocks := B.notSynchronized
  have hS : va_S A s.heap s.heap [] := va_S.rf
  have hl := lv_entry ([.ref (gX g), .int p0, .int q0, .ref (gO g)]) (n := 5) (Nat.le_of_ble_eq_true rfl)
  rw [lg_entry_eq]
  generalize (lg_sl ([.ref (gX g), .int p0, .int q0, .ref (gO g)]) ++ List.replicate (5 - (lg_sl ([.ref (gX g), .int p0, .int q0, .ref (gO g)])).length) Slot.unset).toArray = ls at hl ⊢
  have hl : lv_has ls 5 [(0, .ref (gX g)), (1, .int p0), (2, .int q0), (3, .ref (gO g))] := hl
  refine lv_aload_n (pc := 0) hx hb dL_placeInLigature_0 rfl (lv_at hl 3 rfl) ?_
  refine lv_iconst (v := 0) (pc := 1) hx hb dL_placeInLigature_1 (by decide) ?_
  refine lv_aload_n (pc := 2) hx hb dL_placeInLigature_2 rfl (lv_at hl 0 rfl) ?_
  refine lv_iload_n (pc := 3) hx hb dL_placeInLigature_3 rfl (lv_at hl 1 rfl) ?_
  refine lv_iload_n (pc := 4) hx hb dL_placeInLigature_4 rfl (lv_at hl 2 rfl) ?_
  refine k_hri (pc := 5) (vx_runV (As := [.int p0, .int q0]) (rest := [.int 0, .ref (gO g)]) ⟨hx, hb, hml, hown, hts⟩ (cX1_placeInLigature_m l hfl g A σ (ow g f ++ rest) p0 q0 hI) (cwV 2 hts gL_placeInLigature_X1_placeInLigature rfl rfl rfl (by decide +kernel) ⟨Nat.le_of_ble_eq_true rfl, Nat.le_of_ble_eq_true rfl⟩) (cx_V (q0 := 0) (ci := 1) (r := (RX1, TX1, 2)) rfl (cx0 g σ (ow g f ++ rest)) hP hD hA hK hX hS) rfl rfl hl.1 rfl (lv_room (Nat.le_of_ble_eq_true rfl)) dL_placeInLigature_5 ⟨Nat.le_of_ble_eq_true rfl, Nat.le_of_ble_eq_true rfl⟩) hS (fun E ce q9 H1 locs1 hE hS hkp hcell hcv hcl => ?_) (fun r hr1 => ?_)
  · have hP : va_P (gD g) vwCl (cw g σ ++ (ow g f ++ rest)) H1 := hP.kept (fun k q hk => hkp q.1 ((hP k q hk).lt))
    obtain ⟨rfl, hcd⟩ := hE
    rw [hcd]
    refine vx_catch (E := eI) (name := "java/lang/IndexOutOfBoundsException") hown [] (⟨0, 10, 13, 21⟩ : ExceptionTableEntry) [] (htab.trans rfl) (fun z hz => absurd hz List.not_mem_nil) (by decide) (by decide) (hts (.classLink RL 21 "java/lang/IndexOutOfBoundsException") (by decide +kernel)) (va_Nw.use rfl (hX.cast (E := eI) (by decide))) hcell hcv hcl ?_
    refine lv_astore (lv' := [(4, .ref q9), (0, .ref (gX g)), (1, .int p0), (2, .int q0), (3, .ref (gO g))]) (pc := 13) hx hb dL_placeInLigature_13 hl (by decide) rfl (fun ls hl => ?_)
    refine lv_iconst (v := 1) (pc := 15) hx hb dL_placeInLigature_15 (by decide) ?_
    refine W.widen (k := 2) (n := 12) (Nat.le_of_ble_eq_true rfl) (Nat.le_of_ble_eq_true rfl) ?_
    exact W.iret hx hb hr (fun t ht hW => ⟨⟨_, f, rfl, ⟨rfl, fun q => absurd q (by decide)⟩, by rw [ht]; exact hP, hD⟩, hS.F ht⟩) hS.2.2 dL_placeInLigature_16
  · obtain ⟨hcd, rfl⟩ := hr1
    rw [hcd]
    refine lv_i2l (pc := 8) hx hb dL_placeInLigature_8 rfl ?_
    refine k_last (pc := 9) (ws' := cw g σ ++ (ow g (vp_updL f 0 ((sT σ (ix p0) (ix q0)).toInt64)) ++ rest)) hx hb hK hP hD hS 26 3 (oa g σ f rest) rfl 0 rfl (by decide) (by decide) (os g σ f (vp_updL f 0 ((sT σ (ix p0) (ix q0)).toInt64)) rest) dL_placeInLigature_9 (fun H1 locs1 hP hD hS => ?_)
    refine lv_goto (tgt := 17) (pc := 10) hx hb dL_placeInLigature_10 (by decide) ?_
    refine lv_iconst (v := 0) (pc := 17) hx hb dL_placeInLigature_17 (by decide) ?_
    refine W.widen (k := 2) (n := 12) (Nat.le_of_ble_eq_true rfl) (Nat.le_of_ble_eq_true rfl) ?_
    exact W.iret hx hb hr (fun t ht hW => ⟨⟨_, (vp_updL f 0 ((sT σ (ix p0) (ix q0)).toInt64)), rfl, ⟨rfl, fun _ => rfl⟩, by rw [ht]; exact hP, hD⟩, hS.F ht⟩) hS.2.2 dL_placeInLigature_18
set_option maxHeartbeats 4000000 in
set_option maxRecDepth 100000 in
/-- the law: lengthOf -/
theorem hL_lengthOf (l : Launch) (hfl : l.stackTraces = false) (g : GA) (A : Nat → Prop) (σ : St) (f : Nat → Int64) (rest : va_W) (p0 : Int32) (q0 : Int32) (hI : Inv σ) : Met l yL_lengthOf wsL_lengthOf ({ frames := 9, cells := 2, slots := 12, locals := 156 }) (va_Pc [.ref (gX g), .int p0, .int q0, .ref (gO g)] (CxL g A (cw g σ ++ (ow g f ++ rest)))) (va_Qi (fun (r : Int32) (u : Nat → Int64) => r = nI (cdS σ p0 q0) ∧ (cdS σ p0 q0 = 0 → u 0 = (nI (lg σ (ix p0) (ix q0))).toInt64)) (fun u t => kB g A (cw g σ ++ (ow g u ++ rest)) t) A) 2 12 A := by
  refine k_ofWH (cc := cL_lengthOf) (maxL := 5) (ret := some .int) (hh := [(0, 10, 13, 21)]) (by decide) rfl ?_
  intro p e s m args below meth c s₁ B hml htab hv0
  obtain ⟨rfl, ⟨hP, hD, hA, hK, hX⟩, hNc⟩ := hv0
  have hx := B.exec
  have hb := B.bytes
  have hr := B.returns
  have hts := atoms_spec (ws := wsL_lengthOf) B.pre
  have hown : s.vm.findClass RL = some m.cls := findClass_of_methodNamed B.named
  have hlocks := B.notSynchronized
  have hS : va_S A s.heap s.heap [] := va_S.rf
  have hl := lv_entry ([.ref (gX g), .int p0, .int q0, .ref (gO g)]) (n := 5) (Nat.le_of_ble_eq_true rfl)
  rw [lg_entry_eq]
  generalize (lg_sl ([.ref (gX g), .int p0, .int q0, .ref (gO g)]) ++ List.replicate (5 - (lg_sl ([.ref (gX g), .int p0, .int q0, .ref (gO g)])).length) Slot.unset).toArray = ls at hl ⊢
  have hl : lv_has ls 5 [(0, .ref (gX g)), (1, .int p0), (2, .int q0), (3, .ref (gO g))] := hl
  refine lv_aload_n (pc := 0) hx hb dL_lengthOf_0 rfl (lv_at hl 3 rfl) ?_
  refine lv_iconst (v := 0) (pc := 1) hx hb dL_lengthOf_1 (by decide) ?_
  refine lv_aload_n (pc := 2) hx hb dL_lengthOf_2 rfl (lv_at hl 0 rfl) ?_
  refine lv_iload_n (pc := 3) hx hb dL_lengthOf_3 rfl (lv_at hl 1 rfl) ?_
  refine lv_iload_n (pc := 4) hx hb dL_lengthOf_4 rfl (lv_at hl 2 rfl) ?_
  refine k_hri (pc := 5) (vx_runV (As := [.int p0, .int q0]) (rest := [.int 0, .ref (gO g)]) ⟨hx, hb, hml, hown, hts⟩ (cX1_lengthOf_m l hfl g A σ (ow g f ++ rest) p0 q0 hI) (cwV 2 hts gL_lengthOf_X1_lengthOf rfl rfl rfl (by decide +kernel) ⟨Nat.le_of_ble_eq_true rfl, Nat.le_of_ble_eq_true rfl⟩) (cx_V (q0 := 0) (ci := 1) (r := (RX1, TX1, 2)) rfl (cx0 g σ (ow g f ++ rest)) hP hD hA hK hX hS) rfl rfl hl.1 rfl (lv_room (Nat.le_of_ble_eq_true rfl)) dL_lengthOf_5 ⟨Nat.le_of_ble_eq_true rfl, Nat.le_of_ble_eq_true rfl⟩) hS (fun E ce q9 H1 locs1 hE hS hkp hcell hcv hcl => ?_) (fun r hr1 => ?_)
  · have hP : va_P (gD g) vwCl (cw g σ ++ (ow g f ++ rest)) H1 := hP.kept (fun k q hk => hkp q.1 ((hP k q hk).lt))
    obtain ⟨rfl, hcd⟩ := hE
    rw [hcd]
    refine vx_catch (E := eI) (name := "java/lang/IndexOutOfBoundsException") hown [] (⟨0, 10, 13, 21⟩ : ExceptionTableEntry) [] (htab.trans rfl) (fun z hz => absurd hz List.not_mem_nil) (by decide) (by decide) (hts (.classLink RL 21 "java/lang/IndexOutOfBoundsException") (by decide +kernel)) (va_Nw.use rfl (hX.cast (E := eI) (by decide))) hcell hcv hcl ?_
    refine lv_astore (lv' := [(4, .ref q9), (0, .ref (gX g)), (1, .int p0), (2, .int q0), (3, .ref (gO g))]) (pc := 13) hx hb dL_lengthOf_13 hl (by decide) rfl (fun ls hl => ?_)
    refine lv_iconst (v := 1) (pc := 15) hx hb dL_lengthOf_15 (by decide) ?_
    refine W.widen (k := 2) (n := 12) (Nat.le_of_ble_eq_true rfl) (Nat.le_of_ble_eq_true rfl) ?_
    exact W.iret hx hb hr (fun t ht hW => ⟨⟨_, f, rfl, ⟨rfl, fun q => absurd q (by decide)⟩, by rw [ht]; exact hP, hD⟩, hS.F ht⟩) hS.2.2 dL_lengthOf_16
  · obtain ⟨hcd, rfl⟩ := hr1
    rw [hcd]
    refine lv_i2l (pc := 8) hx hb dL_lengthOf_8 rfl ?_
    refine k_last (pc := 9) (ws' := cw g σ ++ (ow g (vp_updL f 0 ((nI (lg σ (ix p0) (ix q0))).toInt64)) ++ rest)) hx hb hK hP hD hS 26 3 (oa g σ f rest) rfl 0 rfl (by decide) (by decide) (os g σ f (vp_updL f 0 ((nI (lg σ (ix p0) (ix q0))).toInt64)) rest) dL_lengthOf_9 (fun H1 locs1 hP hD hS => ?_)
    refine lv_goto (tgt := 17) (pc := 10) hx hb dL_lengthOf_10 (by decide) ?_
    refine lv_iconst (v := 0) (pc := 17) hx hb dL_lengthOf_17 (by decide) ?_
    refine W.widen (k := 2) (n := 12) (Nat.le_of_ble_eq_true rfl) (Nat.le_of_ble_eq_true rfl) ?_
    exact W.iret hx hb hr (fun t ht hW => ⟨⟨_, (vp_updL f 0 ((nI (lg σ (ix p0) (ix q0))).toInt64)), rfl, ⟨rfl, fun _ => rfl⟩, by rw [ht]; exact hP, hD⟩, hS.F ht⟩) hS.2.2 dL_lengthOf_18
set_option maxHeartbeats 4000000 in
set_option maxRecDepth 100000 in
/-- the law: beginOf -/
theorem hL_beginOf (l : Launch) (hfl : l.stackTraces = false) (g : GA) (A : Nat → Prop) (σ : St) (f : Nat → Int64) (rest : va_W) (p0 : Int32) (q0 : Int32) (hI : Inv σ) : Met l yL_beginOf wsL_beginOf ({ frames := 9, cells := 2, slots := 12, locals := 156 }) (va_Pc [.ref (gX g), .int p0, .int q0, .ref (gO g)] (CxL g A (cw g σ ++ (ow g f ++ rest)))) (va_Qi (fun (r : Int32) (u : Nat → Int64) => r = nI (cdS σ p0 q0) ∧ (cdS σ p0 q0 = 0 → u 0 = (nI (bg σ (ix p0) (ix q0))).toInt64)) (fun u t => kB g A (cw g σ ++ (ow g u ++ rest)) t) A) 2 12 A := by
  refine k_ofWH (cc := cL_beginOf) (maxL := 5) (ret := some .int) (hh := [(0, 10, 13, 21)]) (by decide) rfl ?_
  intro p e s m args below meth c s₁ B hml htab hv0
  obtain ⟨rfl, ⟨hP, hD, hA, hK, hX⟩, hNc⟩ := hv0
  have hx := B.exec
  have hb := B.bytes
  have hr := B.returns
  have hts := atoms_spec (ws := wsL_beginOf) B.pre
  have hown : s.vm.findClass RL = some m.cls := findClass_of_methodNamed B.named
  have hlocks := B.notSynchronized
  have hS : va_S A s.heap s.heap [] := va_S.rf
  have hl := lv_entry ([.ref (gX g), .int p0, .int q0, .ref (gO g)]) (n := 5) (Nat.le_of_ble_eq_true rfl)
  rw [lg_entry_eq]
  generalize (lg_sl ([.ref (gX g), .int p0, .int q0, .ref (gO g)]) ++ List.replicate (5 - (lg_sl ([.ref (gX g), .int p0, .int q0, .ref (gO g)])).length) Slot.unset).toArray = ls at hl ⊢
  have hl : lv_has ls 5 [(0, .ref (gX g)), (1, .int p0), (2, .int q0), (3, .ref (gO g))] := hl
  refine lv_aload_n (pc := 0) hx hb dL_beginOf_0 rfl (lv_at hl 3 rfl) ?_
  refine lv_iconst (v := 0) (pc := 1) hx hb dL_beginOf_1 (by decide) ?_
  refine lv_aload_n (pc := 2) hx hb dL_beginOf_2 rfl (lv_at hl 0 rfl) ?_
  refine lv_iload_n (pc := 3) hx hb dL_beginOf_3 rfl (lv_at hl 1 rfl) ?_
  refine lv_iload_n (pc := 4) hx hb dL_beginOf_4 rfl (lv_at hl 2 rfl) ?_
  refine k_hri (pc := 5) (vx_runV (As := [.int p0, .int q0]) (rest := [.int 0, .ref (gO g)]) ⟨hx, hb, hml, hown, hts⟩ (cX1_beginOf_m l hfl g A σ (ow g f ++ rest) p0 q0 hI) (cwV 2 hts gL_beginOf_X1_beginOf rfl rfl rfl (by decide +kernel) ⟨Nat.le_of_ble_eq_true rfl, Nat.le_of_ble_eq_true rfl⟩) (cx_V (q0 := 0) (ci := 1) (r := (RX1, TX1, 2)) rfl (cx0 g σ (ow g f ++ rest)) hP hD hA hK hX hS) rfl rfl hl.1 rfl (lv_room (Nat.le_of_ble_eq_true rfl)) dL_beginOf_5 ⟨Nat.le_of_ble_eq_true rfl, Nat.le_of_ble_eq_true rfl⟩) hS (fun E ce q9 H1 locs1 hE hS hkp hcell hcv hcl => ?_) (fun r hr1 => ?_)
  · have hP : va_P (gD g) vwCl (cw g σ ++ (ow g f ++ rest)) H1 := hP.kept (fun k q hk => hkp q.1 ((hP k q hk).lt))
    obtain ⟨rfl, hcd⟩ := hE
    rw [hcd]
    refine vx_catch (E := eI) (name := "java/lang/IndexOutOfBoundsException") hown [] (⟨0, 10, 13, 21⟩ : ExceptionTableEntry) [] (htab.trans rfl) (fun z hz => absurd hz List.not_mem_nil) (by decide) (by decide) (hts (.classLink RL 21 "java/lang/IndexOutOfBoundsException") (by decide +kernel)) (va_Nw.use rfl (hX.cast (E := eI) (by decide))) hcell hcv hcl ?_
    refine lv_astore (lv' := [(4, .ref q9), (0, .ref (gX g)), (1, .int p0), (2, .int q0), (3, .ref (gO g))]) (pc := 13) hx hb dL_beginOf_13 hl (by decide) rfl (fun ls hl => ?_)
    refine lv_iconst (v := 1) (pc := 15) hx hb dL_beginOf_15 (by decide) ?_
    refine W.widen (k := 2) (n := 12) (Nat.le_of_ble_eq_true rfl) (Nat.le_of_ble_eq_true rfl) ?_
    exact W.iret hx hb hr (fun t ht hW => ⟨⟨_, f, rfl, ⟨rfl, fun q => absurd q (by decide)⟩, by rw [ht]; exact hP, hD⟩, hS.F ht⟩) hS.2.2 dL_beginOf_16
  · obtain ⟨hcd, rfl⟩ := hr1
    rw [hcd]
    refine lv_i2l (pc := 8) hx hb dL_beginOf_8 rfl ?_
    refine k_last (pc := 9) (ws' := cw g σ ++ (ow g (vp_updL f 0 ((nI (bg σ (ix p0) (ix q0))).toInt64)) ++ rest)) hx hb hK hP hD hS 26 3 (oa g σ f rest) rfl 0 rfl (by decide) (by decide) (os g σ f (vp_updL f 0 ((nI (bg σ (ix p0) (ix q0))).toInt64)) rest) dL_beginOf_9 (fun H1 locs1 hP hD hS => ?_)
    refine lv_goto (tgt := 17) (pc := 10) hx hb dL_beginOf_10 (by decide) ?_
    refine lv_iconst (v := 0) (pc := 17) hx hb dL_beginOf_17 (by decide) ?_
    refine W.widen (k := 2) (n := 12) (Nat.le_of_ble_eq_true rfl) (Nat.le_of_ble_eq_true rfl) ?_
    exact W.iret hx hb hr (fun t ht hW => ⟨⟨_, (vp_updL f 0 ((nI (bg σ (ix p0) (ix q0))).toInt64)), rfl, ⟨rfl, fun _ => rfl⟩, by rw [ht]; exact hP, hD⟩, hS.F ht⟩) hS.2.2 dL_beginOf_18
set_option maxHeartbeats 4000000 in
set_option maxRecDepth 100000 in
/-- the law: length -/
theorem hL_length (l : Launch) (hfl : l.stackTraces = false) (g : GA) (A : Nat → Prop) (σ : St) (f : Nat → Int64) (rest : va_W) (p0 : Int32) (hI : Inv σ) : Met l yL_length wsL_length ({ frames := 8, cells := 1, slots := 6, locals := 132 }) (va_Pc [.ref (gX g), .int p0, .ref (gO g)] (CxL g A (cw g σ ++ (ow g f ++ rest)))) (va_Qi (fun (r : Int32) (u : Nat → Int64) => r = nI (cdV σ p0) ∧ (cdV σ p0 = 0 → u 0 = (nI (len σ (ix p0))).toInt64)) (fun u t => kB g A (cw g σ ++ (ow g u ++ rest)) t) A) 1 6 A := by
  refine k_ofWH (cc := cL_length) (maxL := 4) (ret := some .int) (hh := [(0, 9, 12, 21)]) (by decide) rfl ?_
  intro p e s m args below meth c s₁ B hml htab hv0
  obtain ⟨rfl, ⟨hP, hD, hA, hK, hX⟩, hNc⟩ := hv0
  have hx := B.exec
  have hb := B.bytes
  have hr := B.returns
  have hts := atoms_spec (ws := wsL_length) B.pre
  have hown : s.vm.findClass RL = some m.cls := findClass_of_methodNamed B.named
  have hlocks := B.notSynchronized
  have hS : va_S A s.heap s.heap [] := va_S.rf
  have hl := lv_entry ([.ref (gX g), .int p0, .ref (gO g)]) (n := 4) (Nat.le_of_ble_eq_true rfl)
  rw [lg_entry_eq]
  generalize (lg_sl ([.ref (gX g), .int p0, .ref (gO g)]) ++ List.replicate (4 - (lg_sl ([.ref (gX g), .int p0, .ref (gO g)])).length) Slot.unset).toArray = ls at hl ⊢
  have hl : lv_has ls 4 [(0, .ref (gX g)), (1, .int p0), (2, .ref (gO g))] := hl
  refine lv_aload_n (pc := 0) hx hb dL_length_0 rfl (lv_at hl 2 rfl) ?_
  refine lv_iconst (v := 0) (pc := 1) hx hb dL_length_1 (by decide) ?_
  refine lv_aload_n (pc := 2) hx hb dL_length_2 rfl (lv_at hl 0 rfl) ?_
  refine lv_iload_n (pc := 3) hx hb dL_length_3 rfl (lv_at hl 1 rfl) ?_
  refine k_hri (pc := 4) (vx_runV (As := [.int p0]) (rest := [.int 0, .ref (gO g)]) ⟨hx, hb, hml, hown, hts⟩ (cX1_length_m l hfl g A σ (ow g f ++ rest) p0 hI) (cwV 1 hts gL_length_X1_length rfl rfl rfl (by decide +kernel) ⟨Nat.le_of_ble_eq_true rfl, Nat.le_of_ble_eq_true rfl⟩) (cx_V (q0 := 0) (ci := 1) (r := (RX1, TX1, 2)) rfl (cx0 g σ (ow g f ++ rest)) hP hD hA hK hX hS) rfl rfl hl.1 rfl (lv_room (Nat.le_of_ble_eq_true rfl)) dL_length_4 ⟨Nat.le_of_ble_eq_true rfl, Nat.le_of_ble_eq_true rfl⟩) hS (fun E ce q9 H1 locs1 hE hS hkp hcell hcv hcl => ?_) (fun r hr1 => ?_)
  · have hP : va_P (gD g) vwCl (cw g σ ++ (ow g f ++ rest)) H1 := hP.kept (fun k q hk => hkp q.1 ((hP k q hk).lt))
    obtain ⟨rfl, hcd⟩ := hE
    rw [hcd]
    refine vx_catch (E := eI) (name := "java/lang/IndexOutOfBoundsException") hown [] (⟨0, 9, 12, 21⟩ : ExceptionTableEntry) [] (htab.trans rfl) (fun z hz => absurd hz List.not_mem_nil) (by decide) (by decide) (hts (.classLink RL 21 "java/lang/IndexOutOfBoundsException") (by decide +kernel)) (va_Nw.use rfl (hX.cast (E := eI) (by decide))) hcell hcv hcl ?_
    refine lv_astore_n (lv' := [(3, .ref q9), (0, .ref (gX g)), (1, .int p0), (2, .ref (gO g))]) (pc := 12) hx hb dL_length_12 rfl hl (by decide) rfl (fun ls hl => ?_)
    refine lv_iconst (v := 1) (pc := 13) hx hb dL_length_13 (by decide) ?_
    refine W.widen (k := 1) (n := 6) (Nat.le_of_ble_eq_true rfl) (Nat.le_of_ble_eq_true rfl) ?_
    exact W.iret hx hb hr (fun t ht hW => ⟨⟨_, f, rfl, ⟨rfl, fun q => absurd q (by decide)⟩, by rw [ht]; exact hP, hD⟩, hS.F ht⟩) hS.2.2 dL_length_14
  · obtain ⟨hcd, rfl⟩ := hr1
    rw [hcd]
    refine lv_i2l (pc := 7) hx hb dL_length_7 rfl ?_
    refine k_last (pc := 8) (ws' := cw g σ ++ (ow g (vp_updL f 0 ((nI (len σ (ix p0))).toInt64)) ++ rest)) hx hb hK hP hD hS 26 3 (oa g σ f rest) rfl 0 rfl (by decide) (by decide) (os g σ f (vp_updL f 0 ((nI (len σ (ix p0))).toInt64)) rest) dL_length_8 (fun H1 locs1 hP hD hS => ?_)
    refine lv_goto (tgt := 15) (pc := 9) hx hb dL_length_9 (by decide) ?_
    refine lv_iconst (v := 0) (pc := 15) hx hb dL_length_15 (by decide) ?_
    refine W.widen (k := 1) (n := 6) (Nat.le_of_ble_eq_true rfl) (Nat.le_of_ble_eq_true rfl) ?_
    exact W.iret hx hb hr (fun t ht hW => ⟨⟨_, (vp_updL f 0 ((nI (len σ (ix p0))).toInt64)), rfl, ⟨rfl, fun _ => rfl⟩, by rw [ht]; exact hP, hD⟩, hS.F ht⟩) hS.2.2 dL_length_16
set_option maxHeartbeats 4000000 in
set_option maxRecDepth 100000 in
/-- the law: signAt -/
theorem hL_signAt (l : Launch) (hfl : l.stackTraces = false) (g : GA) (A : Nat → Prop) (σ : St) (f : Nat → Int64) (rest : va_W) (p0 : Int32) (t0 : Int32) (hI : Inv σ) : Met l yL_signAt wsL_signAt ({ frames := 8, cells := 2, slots := 12, locals := 135 }) (va_Pc [.ref (gX g), .int p0, .int t0, .ref (gO g)] (CxL g A (cw g σ ++ (ow g f ++ rest)))) (va_Qi (fun (r : Int32) (u : Nat → Int64) => r = nI (cdVR σ p0 (!decide (t0 < 0))) ∧ (cdVR σ p0 (!decide (t0 < 0)) = 0 → u 0 = (sgAt σ (ix p0) t0 (sC σ (ix p0))).toInt64)) (fun u t => kB g A (cw g σ ++ (ow g u ++ rest)) t) A) 2 12 A := by
  refine k_ofWH (cc := cL_signAt) (maxL := 5) (ret := some .int) (hh := [(0, 10, 13, 21), (0, 10, 17, 13)]) (by decide) rfl ?_
  intro p e s m args below meth c s₁ B hml htab hv0
  obtain ⟨rfl, ⟨hP, hD, hA, hK, hX⟩, hNc⟩ := hv0
  have hx := B.exec
  have hb := B.bytes
  have hr := B.returns
  have hts := atoms_spec (ws := wsL_signAt) B.pre
  have hown : s.vm.findClass RL = some m.cls := findClass_of_methodNamed B.named
  have hlocks := B.notSynchronized
  have hS : va_S A s.heap s.heap [] := va_S.rf
  have hl := lv_entry ([.ref (gX g), .int p0, .int t0, .ref (gO g)]) (n := 5) (Nat.le_of_ble_eq_true rfl)
  rw [lg_entry_eq]
  generalize (lg_sl ([.ref (gX g), .int p0, .int t0, .ref (gO g)]) ++ List.replicate (5 - (lg_sl ([.ref (gX g), .int p0, .int t0, .ref (gO g)])).length) Slot.unset).toArray = ls at hl ⊢
  have hl : lv_has ls 5 [(0, .ref (gX g)), (1, .int p0), (2, .int t0), (3, .ref (gO g))] := hl
  refine lv_aload_n (pc := 0) hx hb dL_signAt_0 rfl (lv_at hl 3 rfl) ?_
  refine lv_iconst (v := 0) (pc := 1) hx hb dL_signAt_1 (by decide) ?_
  refine lv_aload_n (pc := 2) hx hb dL_signAt_2 rfl (lv_at hl 0 rfl) ?_
  refine lv_iload_n (pc := 3) hx hb dL_signAt_3 rfl (lv_at hl 1 rfl) ?_
  refine lv_iload_n (pc := 4) hx hb dL_signAt_4 rfl (lv_at hl 2 rfl) ?_
  refine k_hri (pc := 5) (vx_runV (As := [.int p0, .int t0]) (rest := [.int 0, .ref (gO g)]) ⟨hx, hb, hml, hown, hts⟩ (cX1_signAt_m l hfl g A σ (ow g f ++ rest) p0 t0 hI) (cwV 2 hts gL_signAt_X1_signAt rfl rfl rfl (by decide +kernel) ⟨Nat.le_of_ble_eq_true rfl, Nat.le_of_ble_eq_true rfl⟩) (cx_V (q0 := 0) (ci := 1) (r := (RX1, TX1, 2)) rfl (cx0 g σ (ow g f ++ rest)) hP hD hA hK hX hS) rfl rfl hl.1 rfl (lv_room (Nat.le_of_ble_eq_true rfl)) dL_signAt_5 ⟨Nat.le_of_ble_eq_true rfl, Nat.le_of_ble_eq_true rfl⟩) hS (fun E ce q9 H1 locs1 hE hS hkp hcell hcv hcl => ?_) (fun r hr1 => ?_)
  · have hP : va_P (gD g) vwCl (cw g σ ++ (ow g f ++ rest)) H1 := hP.kept (fun k q hk => hkp q.1 ((hP k q hk).lt))
    rcases hE with ⟨rfl, hcd⟩ | ⟨rfl, hcd⟩
    · rw [hcd]
      refine vx_catch (E := eI) (name := "java/lang/IndexOutOfBoundsException") hown [] (⟨0, 10, 13, 21⟩ : ExceptionTableEntry) [(⟨0, 10, 17, 13⟩ : ExceptionTableEntry)] (htab.trans rfl) (fun z hz => absurd hz List.not_mem_nil) (by decide) (by decide) (hts (.classLink RL 21 "java/lang/IndexOutOfBoundsException") (by decide +kernel)) (va_Nw.use rfl (hX.cast (E := eI) (by decide))) hcell hcv hcl ?_
      refine lv_astore (lv' := [(4, .ref q9), (0, .ref (gX g)), (1, .int p0), (2, .int t0), (3, .ref (gO g))]) (pc := 13) hx hb dL_signAt_13 hl (by decide) rfl (fun ls hl => ?_)
      refine lv_iconst (v := 1) (pc := 15) hx hb dL_signAt_15 (by decide) ?_
      refine W.widen (k := 2) (n := 12) (Nat.le_of_ble_eq_true rfl) (Nat.le_of_ble_eq_true rfl) ?_
      exact W.iret hx hb hr (fun t ht hW => ⟨⟨_, f, rfl, ⟨rfl, fun q => absurd q (by decide)⟩, by rw [ht]; exact hP, hD⟩, hS.F ht⟩) hS.2.2 dL_signAt_16
    · rw [hcd]
      refine vx_catch (E := eA) (name := "java/lang/IllegalArgumentException") hown [(⟨0, 10, 13, 21⟩ : ExceptionTableEntry)] (⟨0, 10, 17, 13⟩ : ExceptionTableEntry) [] (htab.trans rfl) (List.forall_mem_cons.mpr ⟨Or.inr ⟨by decide, "java/lang/IndexOutOfBoundsException", hts (.classLink RL 21 "java/lang/IndexOutOfBoundsException") (by decide +kernel), hNc (eA, eI) (by decide)⟩, (fun z hz => absurd hz List.not_mem_nil)⟩) (by decide) (by decide) (hts (.classLink RL 13 "java/lang/IllegalArgumentException") (by decide +kernel)) (va_Nw.use rfl (hX.cast (E := eA) (by decide))) hcell hcv hcl ?_
      refine lv_astore (lv' := [(4, .ref q9), (0, .ref (gX g)), (1, .int p0), (2, .int t0), (3, .ref (gO g))]) (pc := 17) hx hb dL_signAt_17 hl (by decide) rfl (fun ls hl => ?_)
      refine lv_iconst (v := 2) (pc := 19) hx hb dL_signAt_19 (by decide) ?_
      refine W.widen (k := 2) (n := 12) (Nat.le_of_ble_eq_true rfl) (Nat.le_of_ble_eq_true rfl) ?_
      exact W.iret hx hb hr (fun t ht hW => ⟨⟨_, f, rfl, ⟨rfl, fun q => absurd q (by decide)⟩, by rw [ht]; exact hP, hD⟩, hS.F ht⟩) hS.2.2 dL_signAt_20
  · obtain ⟨hcd, rfl⟩ := hr1
    rw [hcd]
    refine lv_i2l (pc := 8) hx hb dL_signAt_8 rfl ?_
    refine k_last (pc := 9) (ws' := cw g σ ++ (ow g (vp_updL f 0 ((sgAt σ (ix p0) t0 (sC σ (ix p0))).toInt64)) ++ rest)) hx hb hK hP hD hS 26 3 (oa g σ f rest) rfl 0 rfl (by decide) (by decide) (os g σ f (vp_updL f 0 ((sgAt σ (ix p0) t0 (sC σ (ix p0))).toInt64)) rest) dL_signAt_9 (fun H1 locs1 hP hD hS => ?_)
    refine lv_goto (tgt := 21) (pc := 10) hx hb dL_signAt_10 (by decide) ?_
    refine lv_iconst (v := 0) (pc := 21) hx hb dL_signAt_21 (by decide) ?_
    refine W.widen (k := 2) (n := 12) (Nat.le_of_ble_eq_true rfl) (Nat.le_of_ble_eq_true rfl) ?_
    exact W.iret hx hb hr (fun t ht hW => ⟨⟨_, (vp_updL f 0 ((sgAt σ (ix p0) t0 (sC σ (ix p0))).toInt64)), rfl, ⟨rfl, fun _ => rfl⟩, by rw [ht]; exact hP, hD⟩, hS.F ht⟩) hS.2.2 dL_signAt_22
set_option maxHeartbeats 4000000 in
set_option maxRecDepth 100000 in
/-- the law: clefOf -/
theorem hL_clefOf (l : Launch) (hfl : l.stackTraces = false) (g : GA) (A : Nat → Prop) (σ : St) (f : Nat → Int64) (rest : va_W) (p0 : Int32) (hI : Inv σ) : Met l yL_clefOf wsL_clefOf ({ frames := 8, cells := 1, slots := 6, locals := 132 }) (va_Pc [.ref (gX g), .int p0, .ref (gO g)] (CxL g A (cw g σ ++ (ow g f ++ rest)))) (va_Qi (fun (r : Int32) (u : Nat → Int64) => r = nI (cdV σ p0) ∧ (cdV σ p0 = 0 → u 0 = (sL σ (ix p0)).toInt64)) (fun u t => kB g A (cw g σ ++ (ow g u ++ rest)) t) A) 1 6 A := by
  refine k_ofWH (cc := cL_clefOf) (maxL := 4) (ret := some .int) (hh := [(0, 9, 12, 21)]) (by decide) rfl ?_
  intro p e s m args below meth c s₁ B hml htab hv0
  obtain ⟨rfl, ⟨hP, hD, hA, hK, hX⟩, hNc⟩ := hv0
  have hx := B.exec
  have hb := B.bytes
  have hr := B.returns
  have hts := atoms_spec (ws := wsL_clefOf) B.pre
  have hown : s.vm.findClass RL = some m.cls := findClass_of_methodNamed B.named
  have hlocks := B.notSynchronized
  have hS : va_S A s.heap s.heap [] := va_S.rf
  have hl := lv_entry ([.ref (gX g), .int p0, .ref (gO g)]) (n := 4) (Nat.le_of_ble_eq_true rfl)
  rw [lg_entry_eq]
  generalize (lg_sl ([.ref (gX g), .int p0, .ref (gO g)]) ++ List.replicate (4 - (lg_sl ([.ref (gX g), .int p0, .ref (gO g)])).length) Slot.unset).toArray = ls at hl ⊢
  have hl : lv_has ls 4 [(0, .ref (gX g)), (1, .int p0), (2, .ref (gO g))] := hl
  refine lv_aload_n (pc := 0) hx hb dL_clefOf_0 rfl (lv_at hl 2 rfl) ?_
  refine lv_iconst (v := 0) (pc := 1) hx hb dL_clefOf_1 (by decide) ?_
  refine lv_aload_n (pc := 2) hx hb dL_clefOf_2 rfl (lv_at hl 0 rfl) ?_
  refine lv_iload_n (pc := 3) hx hb dL_clefOf_3 rfl (lv_at hl 1 rfl) ?_
  refine k_hri (pc := 4) (vx_runV (As := [.int p0]) (rest := [.int 0, .ref (gO g)]) ⟨hx, hb, hml, hown, hts⟩ (cX1_clefOf_m l hfl g A σ (ow g f ++ rest) p0 hI) (cwV 1 hts gL_clefOf_X1_clefOf rfl rfl rfl (by decide +kernel) ⟨Nat.le_of_ble_eq_true rfl, Nat.le_of_ble_eq_true rfl⟩) (cx_V (q0 := 0) (ci := 1) (r := (RX1, TX1, 2)) rfl (cx0 g σ (ow g f ++ rest)) hP hD hA hK hX hS) rfl rfl hl.1 rfl (lv_room (Nat.le_of_ble_eq_true rfl)) dL_clefOf_4 ⟨Nat.le_of_ble_eq_true rfl, Nat.le_of_ble_eq_true rfl⟩) hS (fun E ce q9 H1 locs1 hE hS hkp hcell hcv hcl => ?_) (fun r hr1 => ?_)
  · have hP : va_P (gD g) vwCl (cw g σ ++ (ow g f ++ rest)) H1 := hP.kept (fun k q hk => hkp q.1 ((hP k q hk).lt))
    obtain ⟨rfl, hcd⟩ := hE
    rw [hcd]
    refine vx_catch (E := eI) (name := "java/lang/IndexOutOfBoundsException") hown [] (⟨0, 9, 12, 21⟩ : ExceptionTableEntry) [] (htab.trans rfl) (fun z hz => absurd hz List.not_mem_nil) (by decide) (by decide) (hts (.classLink RL 21 "java/lang/IndexOutOfBoundsException") (by decide +kernel)) (va_Nw.use rfl (hX.cast (E := eI) (by decide))) hcell hcv hcl ?_
    refine lv_astore_n (lv' := [(3, .ref q9), (0, .ref (gX g)), (1, .int p0), (2, .ref (gO g))]) (pc := 12) hx hb dL_clefOf_12 rfl hl (by decide) rfl (fun ls hl => ?_)
    refine lv_iconst (v := 1) (pc := 13) hx hb dL_clefOf_13 (by decide) ?_
    refine W.widen (k := 1) (n := 6) (Nat.le_of_ble_eq_true rfl) (Nat.le_of_ble_eq_true rfl) ?_
    exact W.iret hx hb hr (fun t ht hW => ⟨⟨_, f, rfl, ⟨rfl, fun q => absurd q (by decide)⟩, by rw [ht]; exact hP, hD⟩, hS.F ht⟩) hS.2.2 dL_clefOf_14
  · obtain ⟨hcd, rfl⟩ := hr1
    rw [hcd]
    refine lv_i2l (pc := 7) hx hb dL_clefOf_7 rfl ?_
    refine k_last (pc := 8) (ws' := cw g σ ++ (ow g (vp_updL f 0 ((sL σ (ix p0)).toInt64)) ++ rest)) hx hb hK hP hD hS 26 3 (oa g σ f rest) rfl 0 rfl (by decide) (by decide) (os g σ f (vp_updL f 0 ((sL σ (ix p0)).toInt64)) rest) dL_clefOf_8 (fun H1 locs1 hP hD hS => ?_)
    refine lv_goto (tgt := 15) (pc := 9) hx hb dL_clefOf_9 (by decide) ?_
    refine lv_iconst (v := 0) (pc := 15) hx hb dL_clefOf_15 (by decide) ?_
    refine W.widen (k := 1) (n := 6) (Nat.le_of_ble_eq_true rfl) (Nat.le_of_ble_eq_true rfl) ?_
    exact W.iret hx hb hr (fun t ht hW => ⟨⟨_, (vp_updL f 0 ((sL σ (ix p0)).toInt64)), rfl, ⟨rfl, fun _ => rfl⟩, by rw [ht]; exact hP, hD⟩, hS.F ht⟩) hS.2.2 dL_clefOf_16
set_option maxHeartbeats 4000000 in
set_option maxRecDepth 100000 in
/-- the law: pitchOf -/
theorem hL_pitchOf (l : Launch) (hfl : l.stackTraces = false) (g : GA) (A : Nat → Prop) (σ : St) (f : Nat → Int64) (rest : va_W) (p0 : Int32) (q0 : Int32) (hI : Inv σ) : Met l yL_pitchOf wsL_pitchOf ({ frames := 9, cells := 3, slots := 18, locals := 157 }) (va_Pc [.ref (gX g), .int p0, .int q0, .ref (gO g)] (CxL g A (cw g σ ++ (ow g f ++ rest)))) (va_Qi (fun (r : Int32) (u : Nat → Int64) => r = nI (cd_pitchOf σ p0 q0) ∧ (cd_pitchOf σ p0 q0 = 0 → u 0 = (an_pitchOf σ (ix p0) (ix q0)).toInt64)) (fun u t => kB g A (cw g σ ++ (ow g u ++ rest)) t) A) 3 18 A := by
  refine k_ofWH (cc := cL_pitchOf) (maxL := 5) (ret := some .int) (hh := [(0, 10, 13, 21), (0, 10, 17, 15)]) (by decide) rfl ?_
  intro p e s m args below meth c s₁ B hml htab hv0
  obtain ⟨rfl, ⟨hP, hD, hA, hK, hX⟩, hNc⟩ := hv0
  have hx := B.exec
  have hb := B.bytes
  have hr := B.returns
  have hts := atoms_spec (ws := wsL_pitchOf) B.pre
  have hown : s.vm.findClass RL = some m.cls := findClass_of_methodNamed B.named
  have hlocks := B.notSynchronized
  have hS : va_S A s.heap s.heap [] := va_S.rf
  have hl := lv_entry ([.ref (gX g), .int p0, .int q0, .ref (gO g)]) (n := 5) (Nat.le_of_ble_eq_true rfl)
  rw [lg_entry_eq]
  generalize (lg_sl ([.ref (gX g), .int p0, .int q0, .ref (gO g)]) ++ List.replicate (5 - (lg_sl ([.ref (gX g), .int p0, .int q0, .ref (gO g)])).length) Slot.unset).toArray = ls at hl ⊢
  have hl : lv_has ls 5 [(0, .ref (gX g)), (1, .int p0), (2, .int q0), (3, .ref (gO g))] := hl
  refine lv_aload_n (pc := 0) hx hb dL_pitchOf_0 rfl (lv_at hl 3 rfl) ?_
  refine lv_iconst (v := 0) (pc := 1) hx hb dL_pitchOf_1 (by decide) ?_
  refine lv_aload_n (pc := 2) hx hb dL_pitchOf_2 rfl (lv_at hl 0 rfl) ?_
  refine lv_iload_n (pc := 3) hx hb dL_pitchOf_3 rfl (lv_at hl 1 rfl) ?_
  refine lv_iload_n (pc := 4) hx hb dL_pitchOf_4 rfl (lv_at hl 2 rfl) ?_
  refine k_hri (pc := 5) (vx_runV (As := [.int p0, .int q0]) (rest := [.int 0, .ref (gO g)]) ⟨hx, hb, hml, hown, hts⟩ (cX1_pitchOf_m l hfl g A σ (ow g f ++ rest) p0 q0 hI) (cwV 2 hts gL_pitchOf_X1_pitchOf rfl rfl rfl (by decide +kernel) ⟨Nat.le_of_ble_eq_true rfl, Nat.le_of_ble_eq_true rfl⟩) (cx_V (q0 := 0) (ci := 1) (r := (RX1, TX1, 2)) rfl (cx0 g σ (ow g f ++ rest)) hP hD hA hK hX hS) rfl rfl hl.1 rfl (lv_room (Nat.le_of_ble_eq_true rfl)) dL_pitchOf_5 ⟨Nat.le_of_ble_eq_true rfl, Nat.le_of_ble_eq_true rfl⟩) hS (fun E ce q9 H1 locs1 hE hS hkp hcell hcv hcl => ?_) (fun r hr1 => ?_)
  · have hP : va_P (gD g) vwCl (cw g σ ++ (ow g f ++ rest)) H1 := hP.kept (fun k q hk => hkp q.1 ((hP k q hk).lt))
    rcases hE with ⟨rfl, hcd⟩ | ⟨rfl, hcd⟩
    · rw [hcd]
      refine vx_catch (E := eI) (name := "java/lang/IndexOutOfBoundsException") hown [] (⟨0, 10, 13, 21⟩ : ExceptionTableEntry) [(⟨0, 10, 17, 15⟩ : ExceptionTableEntry)] (htab.trans rfl) (fun z hz => absurd hz List.not_mem_nil) (by decide) (by decide) (hts (.classLink RL 21 "java/lang/IndexOutOfBoundsException") (by decide +kernel)) (va_Nw.use rfl (hX.cast (E := eI) (by decide))) hcell hcv hcl ?_
      refine lv_astore (lv' := [(4, .ref q9), (0, .ref (gX g)), (1, .int p0), (2, .int q0), (3, .ref (gO g))]) (pc := 13) hx hb dL_pitchOf_13 hl (by decide) rfl (fun ls hl => ?_)
      refine lv_iconst (v := 1) (pc := 15) hx hb dL_pitchOf_15 (by decide) ?_
      refine W.widen (k := 3) (n := 18) (Nat.le_of_ble_eq_true rfl) (Nat.le_of_ble_eq_true rfl) ?_
      exact W.iret hx hb hr (fun t ht hW => ⟨⟨_, f, rfl, ⟨rfl, fun q => absurd q (by decide)⟩, by rw [ht]; exact hP, hD⟩, hS.F ht⟩) hS.2.2 dL_pitchOf_16
    · rw [hcd]
      refine vx_catch (E := eS) (name := "java/lang/IllegalStateException") hown [(⟨0, 10, 13, 21⟩ : ExceptionTableEntry)] (⟨0, 10, 17, 15⟩ : ExceptionTableEntry) [] (htab.trans rfl) (List.forall_mem_cons.mpr ⟨Or.inr ⟨by decide, "java/lang/IndexOutOfBoundsException", hts (.classLink RL 21 "java/lang/IndexOutOfBoundsException") (by decide +kernel), hNc (eS, eI) (by decide)⟩, (fun z hz => absurd hz List.not_mem_nil)⟩) (by decide) (by decide) (hts (.classLink RL 15 "java/lang/IllegalStateException") (by decide +kernel)) (va_Nw.use rfl (hX.cast (E := eS) (by decide))) hcell hcv hcl ?_
      refine lv_astore (lv' := [(4, .ref q9), (0, .ref (gX g)), (1, .int p0), (2, .int q0), (3, .ref (gO g))]) (pc := 17) hx hb dL_pitchOf_17 hl (by decide) rfl (fun ls hl => ?_)
      refine lv_iconst (v := 2) (pc := 19) hx hb dL_pitchOf_19 (by decide) ?_
      refine W.widen (k := 3) (n := 18) (Nat.le_of_ble_eq_true rfl) (Nat.le_of_ble_eq_true rfl) ?_
      exact W.iret hx hb hr (fun t ht hW => ⟨⟨_, f, rfl, ⟨rfl, fun q => absurd q (by decide)⟩, by rw [ht]; exact hP, hD⟩, hS.F ht⟩) hS.2.2 dL_pitchOf_20
  · obtain ⟨hcd, rfl⟩ := hr1
    rw [hcd]
    refine lv_i2l (pc := 8) hx hb dL_pitchOf_8 rfl ?_
    refine k_last (pc := 9) (ws' := cw g σ ++ (ow g (vp_updL f 0 ((an_pitchOf σ (ix p0) (ix q0)).toInt64)) ++ rest)) hx hb hK hP hD hS 26 3 (oa g σ f rest) rfl 0 rfl (by decide) (by decide) (os g σ f (vp_updL f 0 ((an_pitchOf σ (ix p0) (ix q0)).toInt64)) rest) dL_pitchOf_9 (fun H1 locs1 hP hD hS => ?_)
    refine lv_goto (tgt := 21) (pc := 10) hx hb dL_pitchOf_10 (by decide) ?_
    refine lv_iconst (v := 0) (pc := 21) hx hb dL_pitchOf_21 (by decide) ?_
    refine W.widen (k := 3) (n := 18) (Nat.le_of_ble_eq_true rfl) (Nat.le_of_ble_eq_true rfl) ?_
    exact W.iret hx hb hr (fun t ht hW => ⟨⟨_, (vp_updL f 0 ((an_pitchOf σ (ix p0) (ix q0)).toInt64)), rfl, ⟨rfl, fun _ => rfl⟩, by rw [ht]; exact hP, hD⟩, hS.F ht⟩) hS.2.2 dL_pitchOf_22
set_option maxHeartbeats 4000000 in
set_option maxRecDepth 100000 in
/-- the law: fits -/
theorem hL_fits (l : Launch) (hfl : l.stackTraces = false) (g : GA) (A : Nat → Prop) (σ : St) (f : Nat → Int64) (rest : va_W) (p0 : Int32) (c0 : Int32) (hI : Inv σ) : Met l yL_fits wsL_fits ({ frames := 8, cells := 2, slots := 12, locals := 135 }) (va_Pc [.ref (gX g), .int p0, .int c0, .ref (gO g)] (CxL g A (cw g σ ++ (ow g f ++ rest)))) (va_Qi (fun (r : Int32) (u : Nat → Int64) => r = nI (cdVR σ p0 (inr 0 5 c0)) ∧ (cdVR σ p0 (inr 0 5 c0) = 0 → u 0 = (bI (ft σ (ix p0) c0)).toInt64)) (fun u t => kB g A (cw g σ ++ (ow g u ++ rest)) t) A) 2 12 A := by
  refine k_ofWH (cc := cL_fits) (maxL := 5) (ret := some .int) (hh := [(0, 17, 20, 21), (0, 17, 24, 13)]) (by decide) rfl ?_
  intro p e s m args below meth c s₁ B hml htab hv0
  obtain ⟨rfl, ⟨hP, hD, hA, hK, hX⟩, hNc⟩ := hv0
  have hx := B.exec
  have hb := B.bytes
  have hr := B.returns
  have hts := atoms_spec (ws := wsL_fits) B.pre
  have hown : s.vm.findClass RL = some m.cls := findClass_of_methodNamed B.named
  have hlocks := B.notSynchronized
  have hS : va_S A s.heap s.heap [] := va_S.rf
  have hl := lv_entry ([.ref (gX g), .int p0, .int c0, .ref (gO g)]) (n := 5) (Nat.le_of_ble_eq_true rfl)
  rw [lg_entry_eq]
  generalize (lg_sl ([.ref (gX g), .int p0, .int c0, .ref (gO g)]) ++ List.replicate (5 - (lg_sl ([.ref (gX g), .int p0, .int c0, .ref (gO g)])).length) Slot.unset).toArray = ls at hl ⊢
  have hl : lv_has ls 5 [(0, .ref (gX g)), (1, .int p0), (2, .int c0), (3, .ref (gO g))] := hl
  refine lv_aload_n (pc := 0) hx hb dL_fits_0 rfl (lv_at hl 3 rfl) ?_
  refine lv_iconst (v := 0) (pc := 1) hx hb dL_fits_1 (by decide) ?_
  refine lv_aload_n (pc := 2) hx hb dL_fits_2 rfl (lv_at hl 0 rfl) ?_
  refine lv_iload_n (pc := 3) hx hb dL_fits_3 rfl (lv_at hl 1 rfl) ?_
  refine lv_iload_n (pc := 4) hx hb dL_fits_4 rfl (lv_at hl 2 rfl) ?_
  refine k_hri (pc := 5) (vx_runV (As := [.int p0, .int c0]) (rest := [.int 0, .ref (gO g)]) ⟨hx, hb, hml, hown, hts⟩ (cX1_fits_m l hfl g A σ (ow g f ++ rest) p0 c0 hI) (cwV 2 hts gL_fits_X1_fits rfl rfl rfl (by decide +kernel) ⟨Nat.le_of_ble_eq_true rfl, Nat.le_of_ble_eq_true rfl⟩) (cx_V (q0 := 0) (ci := 1) (r := (RX1, TX1, 2)) rfl (cx0 g σ (ow g f ++ rest)) hP hD hA hK hX hS) rfl rfl hl.1 rfl (lv_room (Nat.le_of_ble_eq_true rfl)) dL_fits_5 ⟨Nat.le_of_ble_eq_true rfl, Nat.le_of_ble_eq_true rfl⟩) hS (fun E ce q9 H1 locs1 hE hS hkp hcell hcv hcl => ?_) (fun r hr1 => ?_)
  · have hP : va_P (gD g) vwCl (cw g σ ++ (ow g f ++ rest)) H1 := hP.kept (fun k q hk => hkp q.1 ((hP k q hk).lt))
    rcases hE with ⟨rfl, hcd⟩ | ⟨rfl, hcd⟩
    · rw [hcd]
      refine vx_catch (E := eI) (name := "java/lang/IndexOutOfBoundsException") hown [] (⟨0, 17, 20, 21⟩ : ExceptionTableEntry) [(⟨0, 17, 24, 13⟩ : ExceptionTableEntry)] (htab.trans rfl) (fun z hz => absurd hz List.not_mem_nil) (by decide) (by decide) (hts (.classLink RL 21 "java/lang/IndexOutOfBoundsException") (by decide +kernel)) (va_Nw.use rfl (hX.cast (E := eI) (by decide))) hcell hcv hcl ?_
      refine lv_astore (lv' := [(4, .ref q9), (0, .ref (gX g)), (1, .int p0), (2, .int c0), (3, .ref (gO g))]) (pc := 20) hx hb dL_fits_20 hl (by decide) rfl (fun ls hl => ?_)
      refine lv_iconst (v := 1) (pc := 22) hx hb dL_fits_22 (by decide) ?_
      refine W.widen (k := 2) (n := 12) (Nat.le_of_ble_eq_true rfl) (Nat.le_of_ble_eq_true rfl) ?_
      exact W.iret hx hb hr (fun t ht hW => ⟨⟨_, f, rfl, ⟨rfl, fun q => absurd q (by decide)⟩, by rw [ht]; exact hP, hD⟩, hS.F ht⟩) hS.2.2 dL_fits_23
    · rw [hcd]
      refine vx_catch (E := eA) (name := "java/lang/IllegalArgumentException") hown [(⟨0, 17, 20, 21⟩ : ExceptionTableEntry)] (⟨0, 17, 24, 13⟩ : ExceptionTableEntry) [] (htab.trans rfl) (List.forall_mem_cons.mpr ⟨Or.inr ⟨by decide, "java/lang/IndexOutOfBoundsException", hts (.classLink RL 21 "java/lang/IndexOutOfBoundsException") (by decide +kernel), hNc (eA, eI) (by decide)⟩, (fun z hz => absurd hz List.not_mem_nil)⟩) (by decide) (by decide) (hts (.classLink RL 13 "java/lang/IllegalArgumentException") (by decide +kernel)) (va_Nw.use rfl (hX.cast (E := eA) (by decide))) hcell hcv hcl ?_
      refine lv_astore (lv' := [(4, .ref q9), (0, .ref (gX g)), (1, .int p0), (2, .int c0), (3, .ref (gO g))]) (pc := 24) hx hb dL_fits_24 hl (by decide) rfl (fun ls hl => ?_)
      refine lv_iconst (v := 2) (pc := 26) hx hb dL_fits_26 (by decide) ?_
      refine W.widen (k := 2) (n := 12) (Nat.le_of_ble_eq_true rfl) (Nat.le_of_ble_eq_true rfl) ?_
      exact W.iret hx hb hr (fun t ht hW => ⟨⟨_, f, rfl, ⟨rfl, fun q => absurd q (by decide)⟩, by rw [ht]; exact hP, hD⟩, hS.F ht⟩) hS.2.2 dL_fits_27
  · obtain ⟨hcd, rfl⟩ := hr1
    rw [hcd]
    refine lv_if_eq (tgt := 15) (pc := 8) hx hb dL_fits_8 (by decide) (fun c1 => ?_) (fun c1 => ?_)
    · have c1 := bI_0.mp c1
      refine lv_lconst (v := 0) (pc := 15) hx hb dL_fits_15 (by decide) ?_
      refine k_last (pc := 16) (ws' := cw g σ ++ (ow g (vp_updL f 0 0) ++ rest)) hx hb hK hP hD hS 26 3 (oa g σ f rest) rfl 0 rfl (by decide) (by decide) (os g σ f (vp_updL f 0 0) rest) dL_fits_16 (fun H2 locs2 hP hD hS => ?_)
      refine lv_goto (tgt := 28) (pc := 17) hx hb dL_fits_17 (by decide) ?_
      refine lv_iconst (v := 0) (pc := 28) hx hb dL_fits_28 (by decide) ?_
      refine W.widen (k := 2) (n := 12) (Nat.le_of_ble_eq_true rfl) (Nat.le_of_ble_eq_true rfl) ?_
      exact W.iret hx hb hr (fun t ht hW => ⟨⟨_, (vp_updL f 0 0), rfl, ⟨rfl, fun _ => (by rw [c1]; rfl)⟩, by rw [ht]; exact hP, hD⟩, hS.F ht⟩) hS.2.2 dL_fits_29
    · have c1 := bI_n0.mp c1
      refine lv_lconst (v := 1) (pc := 11) hx hb dL_fits_11 (by decide) ?_
      refine lv_goto (tgt := 16) (pc := 12) hx hb dL_fits_12 (by decide) ?_
      refine k_last (pc := 16) (ws' := cw g σ ++ (ow g (vp_updL f 0 1) ++ rest)) hx hb hK hP hD hS 26 3 (oa g σ f rest) rfl 0 rfl (by decide) (by decide) (os g σ f (vp_updL f 0 1) rest) dL_fits_16 (fun H3 locs3 hP hD hS => ?_)
      refine lv_goto (tgt := 28) (pc := 17) hx hb dL_fits_17 (by decide) ?_
      refine lv_iconst (v := 0) (pc := 28) hx hb dL_fits_28 (by decide) ?_
      refine W.widen (k := 2) (n := 12) (Nat.le_of_ble_eq_true rfl) (Nat.le_of_ble_eq_true rfl) ?_
      exact W.iret hx hb hr (fun t ht hW => ⟨⟨_, (vp_updL f 0 1), rfl, ⟨rfl, fun _ => (by rw [c1]; rfl)⟩, by rw [ht]; exact hP, hD⟩, hS.F ht⟩) hS.2.2 dL_fits_29
set_option maxHeartbeats 4000000 in
set_option maxRecDepth 100000 in
/-- the law: clefsThatFit -/
theorem hL_clefsThatFit (l : Launch) (hfl : l.stackTraces = false) (g : GA) (A : Nat → Prop) (σ : St) (f : Nat → Int64) (rest : va_W) (p0 : Int32) (hI : Inv σ) : Met l yL_clefsThatFit wsL_clefsThatFit ({ frames := 8, cells := 1, slots := 6, locals := 132 }) (va_Pc [.ref (gX g), .int p0, .ref (gO g)] (CxL g A (cw g σ ++ (ow g f ++ rest)))) (va_Qi (fun (r : Int32) (u : Nat → Int64) => r = nI (cdV σ p0) ∧ (cdV σ p0 = 0 → u 0 = (nI (fct σ (ix p0))).toInt64)) (fun u t => kB g A (cw g σ ++ (ow g u ++ rest)) t) A) 1 6 A := by
  refine k_ofWH (cc := cL_clefsThatFit) (maxL := 4) (ret := some .int) (hh := [(0, 9, 12, 21)]) (by decide) rfl ?_
  intro p e s m args below meth c s₁ B hml htab hv0
  obtain ⟨rfl, ⟨hP, hD, hA, hK, hX⟩, hNc⟩ := hv0
  have hx := B.exec
  have hb := B.bytes
  have hr := B.returns
  have hts := atoms_spec (ws := wsL_clefsThatFit) B.pre
  have hown : s.vm.findClass RL = some m.cls := findClass_of_methodNamed B.named
  have hlocks := B.notSynchronized
  have hS : va_S A s.heap s.heap [] := va_S.rf
  have hl := lv_entry ([.ref (gX g), .int p0, .ref (gO g)]) (n := 4) (Nat.le_of_ble_eq_true rfl)
  rw [lg_entry_eq]
  generalize (lg_sl ([.ref (gX g), .int p0, .ref (gO g)]) ++ List.replicate (4 - (lg_sl ([.ref (gX g), .int p0, .ref (gO g)])).length) Slot.unset).toArray = ls at hl ⊢
  have hl : lv_has ls 4 [(0, .ref (gX g)), (1, .int p0), (2, .ref (gO g))] := hl
  refine lv_aload_n (pc := 0) hx hb dL_clefsThatFit_0 rfl (lv_at hl 2 rfl) ?_
  refine lv_iconst (v := 0) (pc := 1) hx hb dL_clefsThatFit_1 (by decide) ?_
  refine lv_aload_n (pc := 2) hx hb dL_clefsThatFit_2 rfl (lv_at hl 0 rfl) ?_
  refine lv_iload_n (pc := 3) hx hb dL_clefsThatFit_3 rfl (lv_at hl 1 rfl) ?_
  refine k_hri (pc := 4) (vx_runV (As := [.int p0]) (rest := [.int 0, .ref (gO g)]) ⟨hx, hb, hml, hown, hts⟩ (cX1_clefsThatFit_m l hfl g A σ (ow g f ++ rest) p0 hI) (cwV 1 hts gL_clefsThatFit_X1_clefsThatFit rfl rfl rfl (by decide +kernel) ⟨Nat.le_of_ble_eq_true rfl, Nat.le_of_ble_eq_true rfl⟩) (cx_V (q0 := 0) (ci := 1) (r := (RX1, TX1, 2)) rfl (cx0 g σ (ow g f ++ rest)) hP hD hA hK hX hS) rfl rfl hl.1 rfl (lv_room (Nat.le_of_ble_eq_true rfl)) dL_clefsThatFit_4 ⟨Nat.le_of_ble_eq_true rfl, Nat.le_of_ble_eq_true rfl⟩) hS (fun E ce q9 H1 locs1 hE hS hkp hcell hcv hcl => ?_) (fun r hr1 => ?_)
  · have hP : va_P (gD g) vwCl (cw g σ ++ (ow g f ++ rest)) H1 := hP.kept (fun k q hk => hkp q.1 ((hP k q hk).lt))
    obtain ⟨rfl, hcd⟩ := hE
    rw [hcd]
    refine vx_catch (E := eI) (name := "java/lang/IndexOutOfBoundsException") hown [] (⟨0, 9, 12, 21⟩ : ExceptionTableEntry) [] (htab.trans rfl) (fun z hz => absurd hz List.not_mem_nil) (by decide) (by decide) (hts (.classLink RL 21 "java/lang/IndexOutOfBoundsException") (by decide +kernel)) (va_Nw.use rfl (hX.cast (E := eI) (by decide))) hcell hcv hcl ?_
    refine lv_astore_n (lv' := [(3, .ref q9), (0, .ref (gX g)), (1, .int p0), (2, .ref (gO g))]) (pc := 12) hx hb dL_clefsThatFit_12 rfl hl (by decide) rfl (fun ls hl => ?_)
    refine lv_iconst (v := 1) (pc := 13) hx hb dL_clefsThatFit_13 (by decide) ?_
    refine W.widen (k := 1) (n := 6) (Nat.le_of_ble_eq_true rfl) (Nat.le_of_ble_eq_true rfl) ?_
    exact W.iret hx hb hr (fun t ht hW => ⟨⟨_, f, rfl, ⟨rfl, fun q => absurd q (by decide)⟩, by rw [ht]; exact hP, hD⟩, hS.F ht⟩) hS.2.2 dL_clefsThatFit_14
  · obtain ⟨hcd, rfl⟩ := hr1
    rw [hcd]
    refine lv_i2l (pc := 7) hx hb dL_clefsThatFit_7 rfl ?_
    refine k_last (pc := 8) (ws' := cw g σ ++ (ow g (vp_updL f 0 ((nI (fct σ (ix p0))).toInt64)) ++ rest)) hx hb hK hP hD hS 26 3 (oa g σ f rest) rfl 0 rfl (by decide) (by decide) (os g σ f (vp_updL f 0 ((nI (fct σ (ix p0))).toInt64)) rest) dL_clefsThatFit_8 (fun H1 locs1 hP hD hS => ?_)
    refine lv_goto (tgt := 15) (pc := 9) hx hb dL_clefsThatFit_9 (by decide) ?_
    refine lv_iconst (v := 0) (pc := 15) hx hb dL_clefsThatFit_15 (by decide) ?_
    refine W.widen (k := 1) (n := 6) (Nat.le_of_ble_eq_true rfl) (Nat.le_of_ble_eq_true rfl) ?_
    exact W.iret hx hb hr (fun t ht hW => ⟨⟨_, (vp_updL f 0 ((nI (fct σ (ix p0))).toInt64)), rfl, ⟨rfl, fun _ => rfl⟩, by rw [ht]; exact hP, hD⟩, hS.F ht⟩) hS.2.2 dL_clefsThatFit_16
set_option maxHeartbeats 4000000 in
set_option maxRecDepth 100000 in
/-- the law: clashes -/
theorem hL_clashes (l : Launch) (hfl : l.stackTraces = false) (g : GA) (A : Nat → Prop) (σ : St) (f : Nat → Int64) (rest : va_W) (p0 : Int32) (q0 : Int32) (hI : Inv σ) : Met l yL_clashes wsL_clashes ({ frames := 8, cells := 4, slots := 24, locals := 135 }) (va_Pc [.ref (gX g), .int p0, .int q0, .ref (gO g)] (CxL g A (cw g σ ++ (ow g f ++ rest)))) (va_Qi (fun (r : Int32) (u : Nat → Int64) => r = nI (cd_clashes σ p0 q0) ∧ (cd_clashes σ p0 q0 = 0 → u 0 = (nI (clN σ (ix p0) (ix q0) 0 (2 * (sL σ (ix q0) - sL σ (ix p0))))).toInt64)) (fun u t => kB g A (cw g σ ++ (ow g u ++ rest)) t) A) 4 24 A := by
  refine k_ofWH (cc := cL_clashes) (maxL := 5) (ret := some .int) (hh := [(0, 10, 13, 21), (0, 10, 17, 15)]) (by decide) rfl ?_
  intro p e s m args below meth c s₁ B hml htab hv0
  obtain ⟨rfl, ⟨hP, hD, hA, hK, hX⟩, hNc⟩ := hv0
  have hx := B.exec
  have hb := B.bytes
  have hr := B.returns
  have hts := atoms_spec (ws := wsL_clashes) B.pre
  have hown : s.vm.findClass RL = some m.cls := findClass_of_methodNamed B.named
  have hlocks := B.notSynchronized
  have hS : va_S A s.heap s.heap [] := va_S.rf
  have hl := lv_entry ([.ref (gX g), .int p0, .int q0, .ref (gO g)]) (n := 5) (Nat.le_of_ble_eq_true rfl)
  rw [lg_entry_eq]
  generalize (lg_sl ([.ref (gX g), .int p0, .int q0, .ref (gO g)]) ++ List.replicate (5 - (lg_sl ([.ref (gX g), .int p0, .int q0, .ref (gO g)])).length) Slot.unset).toArray = ls at hl ⊢
  have hl : lv_has ls 5 [(0, .ref (gX g)), (1, .int p0), (2, .int q0), (3, .ref (gO g))] := hl
  refine lv_aload_n (pc := 0) hx hb dL_clashes_0 rfl (lv_at hl 3 rfl) ?_
  refine lv_iconst (v := 0) (pc := 1) hx hb dL_clashes_1 (by decide) ?_
  refine lv_aload_n (pc := 2) hx hb dL_clashes_2 rfl (lv_at hl 0 rfl) ?_
  refine lv_iload_n (pc := 3) hx hb dL_clashes_3 rfl (lv_at hl 1 rfl) ?_
  refine lv_iload_n (pc := 4) hx hb dL_clashes_4 rfl (lv_at hl 2 rfl) ?_
  refine k_hri (pc := 5) (vx_runV (As := [.int p0, .int q0]) (rest := [.int 0, .ref (gO g)]) ⟨hx, hb, hml, hown, hts⟩ (cX1_clashes_m l hfl g A σ (ow g f ++ rest) p0 q0 hI) (cwV 2 hts gL_clashes_X1_clashes rfl rfl rfl (by decide +kernel) ⟨Nat.le_of_ble_eq_true rfl, Nat.le_of_ble_eq_true rfl⟩) (cx_V (q0 := 0) (ci := 1) (r := (RX1, TX1, 2)) rfl (cx0 g σ (ow g f ++ rest)) hP hD hA hK hX hS) rfl rfl hl.1 rfl (lv_room (Nat.le_of_ble_eq_true rfl)) dL_clashes_5 ⟨Nat.le_of_ble_eq_true rfl, Nat.le_of_ble_eq_true rfl⟩) hS (fun E ce q9 H1 locs1 hE hS hkp hcell hcv hcl => ?_) (fun r hr1 => ?_)
  · have hP : va_P (gD g) vwCl (cw g σ ++ (ow g f ++ rest)) H1 := hP.kept (fun k q hk => hkp q.1 ((hP k q hk).lt))
    rcases hE with ⟨rfl, hcd⟩ | ⟨rfl, hcd⟩
    · rw [hcd]
      refine vx_catch (E := eI) (name := "java/lang/IndexOutOfBoundsException") hown [] (⟨0, 10, 13, 21⟩ : ExceptionTableEntry) [(⟨0, 10, 17, 15⟩ : ExceptionTableEntry)] (htab.trans rfl) (fun z hz => absurd hz List.not_mem_nil) (by decide) (by decide) (hts (.classLink RL 21 "java/lang/IndexOutOfBoundsException") (by decide +kernel)) (va_Nw.use rfl (hX.cast (E := eI) (by decide))) hcell hcv hcl ?_
      refine lv_astore (lv' := [(4, .ref q9), (0, .ref (gX g)), (1, .int p0), (2, .int q0), (3, .ref (gO g))]) (pc := 13) hx hb dL_clashes_13 hl (by decide) rfl (fun ls hl => ?_)
      refine lv_iconst (v := 1) (pc := 15) hx hb dL_clashes_15 (by decide) ?_
      refine W.widen (k := 4) (n := 24) (Nat.le_of_ble_eq_true rfl) (Nat.le_of_ble_eq_true rfl) ?_
      exact W.iret hx hb hr (fun t ht hW => ⟨⟨_, f, rfl, ⟨rfl, fun q => absurd q (by decide)⟩, by rw [ht]; exact hP, hD⟩, hS.F ht⟩) hS.2.2 dL_clashes_16
    · rw [hcd]
      refine vx_catch (E := eS) (name := "java/lang/IllegalStateException") hown [(⟨0, 10, 13, 21⟩ : ExceptionTableEntry)] (⟨0, 10, 17, 15⟩ : ExceptionTableEntry) [] (htab.trans rfl) (List.forall_mem_cons.mpr ⟨Or.inr ⟨by decide, "java/lang/IndexOutOfBoundsException", hts (.classLink RL 21 "java/lang/IndexOutOfBoundsException") (by decide +kernel), hNc (eS, eI) (by decide)⟩, (fun z hz => absurd hz List.not_mem_nil)⟩) (by decide) (by decide) (hts (.classLink RL 15 "java/lang/IllegalStateException") (by decide +kernel)) (va_Nw.use rfl (hX.cast (E := eS) (by decide))) hcell hcv hcl ?_
      refine lv_astore (lv' := [(4, .ref q9), (0, .ref (gX g)), (1, .int p0), (2, .int q0), (3, .ref (gO g))]) (pc := 17) hx hb dL_clashes_17 hl (by decide) rfl (fun ls hl => ?_)
      refine lv_iconst (v := 2) (pc := 19) hx hb dL_clashes_19 (by decide) ?_
      refine W.widen (k := 4) (n := 24) (Nat.le_of_ble_eq_true rfl) (Nat.le_of_ble_eq_true rfl) ?_
      exact W.iret hx hb hr (fun t ht hW => ⟨⟨_, f, rfl, ⟨rfl, fun q => absurd q (by decide)⟩, by rw [ht]; exact hP, hD⟩, hS.F ht⟩) hS.2.2 dL_clashes_20
  · obtain ⟨hcd, rfl⟩ := hr1
    rw [hcd]
    refine lv_i2l (pc := 8) hx hb dL_clashes_8 rfl ?_
    refine k_last (pc := 9) (ws' := cw g σ ++ (ow g (vp_updL f 0 ((nI (clN σ (ix p0) (ix q0) 0 (2 * (sL σ (ix q0) - sL σ (ix p0))))).toInt64)) ++ rest)) hx hb hK hP hD hS 26 3 (oa g σ f rest) rfl 0 rfl (by decide) (by decide) (os g σ f (vp_updL f 0 ((nI (clN σ (ix p0) (ix q0) 0 (2 * (sL σ (ix q0) - sL σ (ix p0))))).toInt64)) rest) dL_clashes_9 (fun H1 locs1 hP hD hS => ?_)
    refine lv_goto (tgt := 21) (pc := 10) hx hb dL_clashes_10 (by decide) ?_
    refine lv_iconst (v := 0) (pc := 21) hx hb dL_clashes_21 (by decide) ?_
    refine W.widen (k := 4) (n := 24) (Nat.le_of_ble_eq_true rfl) (Nat.le_of_ble_eq_true rfl) ?_
    exact W.iret hx hb hr (fun t ht hW => ⟨⟨_, (vp_updL f 0 ((nI (clN σ (ix p0) (ix q0) 0 (2 * (sL σ (ix q0) - sL σ (ix p0))))).toInt64)), rfl, ⟨rfl, fun _ => rfl⟩, by rw [ht]; exact hP, hD⟩, hS.F ht⟩) hS.2.2 dL_clashes_22
set_option maxHeartbeats 4000000 in
set_option maxRecDepth 100000 in
/-- the law: firstClash -/
theorem hL_firstClash (l : Launch) (hfl : l.stackTraces = false) (g : GA) (A : Nat → Prop) (σ : St) (f : Nat → Int64) (rest : va_W) (p0 : Int32) (q0 : Int32) (hI : Inv σ) : Met l yL_firstClash wsL_firstClash ({ frames := 8, cells := 4, slots := 24, locals := 135 }) (va_Pc [.ref (gX g), .int p0, .int q0, .ref (gO g)] (CxL g A (cw g σ ++ (ow g f ++ rest)))) (va_Qi (fun (r : Int32) (u : Nat → Int64) => r = nI (cd_clashes σ p0 q0) ∧ (cd_clashes σ p0 q0 = 0 → u 0 = (fst (clT σ (ix p0) (ix q0) 0 (2 * (sL σ (ix q0) - sL σ (ix p0)))) (len σ (ix p0))).toInt64)) (fun u t => kB g A (cw g σ ++ (ow g u ++ rest)) t) A) 4 24 A := by
  refine k_ofWH (cc := cL_firstClash) (maxL := 5) (ret := some .int) (hh := [(0, 10, 13, 21), (0, 10, 17, 15)]) (by decide) rfl ?_
  intro p e s m args below meth c s₁ B hml htab hv0
  obtain ⟨rfl, ⟨hP, hD, hA, hK, hX⟩, hNc⟩ := hv0
  have hx := B.exec
  have hb := B.bytes
  have hr := B.returns
  have hts := atoms_spec (ws := wsL_firstClash) B.pre
  have hown : s.vm.findClass RL = some m.cls := findClass_of_methodNamed B.named
  have hlocks := B.notSynchronized
  have hS : va_S A s.heap s.heap [] := va_S.rf
  have hl := lv_entry ([.ref (gX g), .int p0, .int q0, .ref (gO g)]) (n := 5) (Nat.le_of_ble_eq_true rfl)
  rw [lg_entry_eq]
  generalize (lg_sl ([.ref (gX g), .int p0, .int q0, .ref (gO g)]) ++ List.replicate (5 - (lg_sl ([.ref (gX g), .int p0, .int q0, .ref (gO g)])).length) Slot.unset).toArray = ls at hl ⊢
  have hl : lv_has ls 5 [(0, .ref (gX g)), (1, .int p0), (2, .int q0), (3, .ref (gO g))] := hl
  refine lv_aload_n (pc := 0) hx hb dL_firstClash_0 rfl (lv_at hl 3 rfl) ?_
  refine lv_iconst (v := 0) (pc := 1) hx hb dL_firstClash_1 (by decide) ?_
  refine lv_aload_n (pc := 2) hx hb dL_firstClash_2 rfl (lv_at hl 0 rfl) ?_
  refine lv_iload_n (pc := 3) hx hb dL_firstClash_3 rfl (lv_at hl 1 rfl) ?_
  refine lv_iload_n (pc := 4) hx hb dL_firstClash_4 rfl (lv_at hl 2 rfl) ?_
  refine k_hri (pc := 5) (vx_runV (As := [.int p0, .int q0]) (rest := [.int 0, .ref (gO g)]) ⟨hx, hb, hml, hown, hts⟩ (cX1_firstClash_m l hfl g A σ (ow g f ++ rest) p0 q0 hI) (cwV 2 hts gL_firstClash_X1_firstClash rfl rfl rfl (by decide +kernel) ⟨Nat.le_of_ble_eq_true rfl, Nat.le_of_ble_eq_true rfl⟩) (cx_V (q0 := 0) (ci := 1) (r := (RX1, TX1, 2)) rfl (cx0 g σ (ow g f ++ rest)) hP hD hA hK hX hS) rfl rfl hl.1 rfl (lv_room (Nat.le_of_ble_eq_true rfl)) dL_firstClash_5 ⟨Nat.le_of_ble_eq_true rfl, Nat.le_of_ble_eq_true rfl⟩) hS (fun E ce q9 H1 locs1 hE hS hkp hcell hcv hcl => ?_) (fun r hr1 => ?_)
  · have hP : va_P (gD g) vwCl (cw g σ ++ (ow g f ++ rest)) H1 := hP.kept (fun k q hk => hkp q.1 ((hP k q hk).lt))
    rcases hE with ⟨rfl, hcd⟩ | ⟨rfl, hcd⟩
    · rw [hcd]
      refine vx_catch (E := eI) (name := "java/lang/IndexOutOfBoundsException") hown [] (⟨0, 10, 13, 21⟩ : ExceptionTableEntry) [(⟨0, 10, 17, 15⟩ : ExceptionTableEntry)] (htab.trans rfl) (fun z hz => absurd hz List.not_mem_nil) (by decide) (by decide) (hts (.classLink RL 21 "java/lang/IndexOutOfBoundsException") (by decide +kernel)) (va_Nw.use rfl (hX.cast (E := eI) (by decide))) hcell hcv hcl ?_
      refine lv_astore (lv' := [(4, .ref q9), (0, .ref (gX g)), (1, .int p0), (2, .int q0), (3, .ref (gO g))]) (pc := 13) hx hb dL_firstClash_13 hl (by decide) rfl (fun ls hl => ?_)
      refine lv_iconst (v := 1) (pc := 15) hx hb dL_firstClash_15 (by decide) ?_
      refine W.widen (k := 4) (n := 24) (Nat.le_of_ble_eq_true rfl) (Nat.le_of_ble_eq_true rfl) ?_
      exact W.iret hx hb hr (fun t ht hW => ⟨⟨_, f, rfl, ⟨rfl, fun q => absurd q (by decide)⟩, by rw [ht]; exact hP, hD⟩, hS.F ht⟩) hS.2.2 dL_firstClash_16
    · rw [hcd]
      refine vx_catch (E := eS) (name := "java/lang/IllegalStateException") hown [(⟨0, 10, 13, 21⟩ : ExceptionTableEntry)] (⟨0, 10, 17, 15⟩ : ExceptionTableEntry) [] (htab.trans rfl) (List.forall_mem_cons.mpr ⟨Or.inr ⟨by decide, "java/lang/IndexOutOfBoundsException", hts (.classLink RL 21 "java/lang/IndexOutOfBoundsException") (by decide +kernel), hNc (eS, eI) (by decide)⟩, (fun z hz => absurd hz List.not_mem_nil)⟩) (by decide) (by decide) (hts (.classLink RL 15 "java/lang/IllegalStateException") (by decide +kernel)) (va_Nw.use rfl (hX.cast (E := eS) (by decide))) hcell hcv hcl ?_
      refine lv_astore (lv' := [(4, .ref q9), (0, .ref (gX g)), (1, .int p0), (2, .int q0), (3, .ref (gO g))]) (pc := 17) hx hb dL_firstClash_17 hl (by decide) rfl (fun ls hl => ?_)
      refine lv_iconst (v := 2) (pc := 19) hx hb dL_firstClash_19 (by decide) ?_
      refine W.widen (k := 4) (n := 24) (Nat.le_of_ble_eq_true rfl) (Nat.le_of_ble_eq_true rfl) ?_
      exact W.iret hx hb hr (fun t ht hW => ⟨⟨_, f, rfl, ⟨rfl, fun q => absurd q (by decide)⟩, by rw [ht]; exact hP, hD⟩, hS.F ht⟩) hS.2.2 dL_firstClash_20
  · obtain ⟨hcd, rfl⟩ := hr1
    rw [hcd]
    refine lv_i2l (pc := 8) hx hb dL_firstClash_8 rfl ?_
    refine k_last (pc := 9) (ws' := cw g σ ++ (ow g (vp_updL f 0 ((fst (clT σ (ix p0) (ix q0) 0 (2 * (sL σ (ix q0) - sL σ (ix p0)))) (len σ (ix p0))).toInt64)) ++ rest)) hx hb hK hP hD hS 26 3 (oa g σ f rest) rfl 0 rfl (by decide) (by decide) (os g σ f (vp_updL f 0 ((fst (clT σ (ix p0) (ix q0) 0 (2 * (sL σ (ix q0) - sL σ (ix p0)))) (len σ (ix p0))).toInt64)) rest) dL_firstClash_9 (fun H1 locs1 hP hD hS => ?_)
    refine lv_goto (tgt := 21) (pc := 10) hx hb dL_firstClash_10 (by decide) ?_
    refine lv_iconst (v := 0) (pc := 21) hx hb dL_firstClash_21 (by decide) ?_
    refine W.widen (k := 4) (n := 24) (Nat.le_of_ble_eq_true rfl) (Nat.le_of_ble_eq_true rfl) ?_
    exact W.iret hx hb hr (fun t ht hW => ⟨⟨_, (vp_updL f 0 ((fst (clT σ (ix p0) (ix q0) 0 (2 * (sL σ (ix q0) - sL σ (ix p0)))) (len σ (ix p0))).toInt64)), rfl, ⟨rfl, fun _ => rfl⟩, by rw [ht]; exact hP, hD⟩, hS.F ht⟩) hS.2.2 dL_firstClash_22
set_option maxHeartbeats 4000000 in
set_option maxRecDepth 100000 in
/-- the law: clashesWith -/
theorem hL_clashesWith (l : Launch) (hfl : l.stackTraces = false) (g : GA) (A : Nat → Prop) (σ : St) (f : Nat → Int64) (rest : va_W) (p0 : Int32) (c0 : Int32) (hI : Inv σ) : Met l yL_clashesWith wsL_clashesWith ({ frames := 8, cells := 2, slots := 12, locals := 135 }) (va_Pc [.ref (gX g), .int p0, .int c0, .ref (gO g)] (CxL g A (cw g σ ++ (ow g f ++ rest)))) (va_Qi (fun (r : Int32) (u : Nat → Int64) => r = nI (cdVR σ p0 (inr 0 5 c0)) ∧ (cdVR σ p0 (inr 0 5 c0) = 0 → u 0 = (nI (cwN σ (ix p0) c0)).toInt64)) (fun u t => kB g A (cw g σ ++ (ow g u ++ rest)) t) A) 2 12 A := by
  refine k_ofWH (cc := cL_clashesWith) (maxL := 5) (ret := some .int) (hh := [(0, 10, 13, 21), (0, 10, 17, 13)]) (by decide) rfl ?_
  intro p e s m args below meth c s₁ B hml htab hv0
  obtain ⟨rfl, ⟨hP, hD, hA, hK, hX⟩, hNc⟩ := hv0
  have hx := B.exec
  have hb := B.bytes
  have hr := B.returns
  have hts := atoms_spec (ws := wsL_clashesWith) B.pre
  have hown : s.vm.findClass RL = some m.cls := findClass_of_methodNamed B.named
  have hlocks := B.notSynchronized
  have hS : va_S A s.heap s.heap [] := va_S.rf
  have hl := lv_entry ([.ref (gX g), .int p0, .int c0, .ref (gO g)]) (n := 5) (Nat.le_of_ble_eq_true rfl)
  rw [lg_entry_eq]
  generalize (lg_sl ([.ref (gX g), .int p0, .int c0, .ref (gO g)]) ++ List.replicate (5 - (lg_sl ([.ref (gX g), .int p0, .int c0, .ref (gO g)])).length) Slot.unset).toArray = ls at hl ⊢
  have hl : lv_has ls 5 [(0, .ref (gX g)), (1, .int p0), (2, .int c0), (3, .ref (gO g))] := hl
  refine lv_aload_n (pc := 0) hx hb dL_clashesWith_0 rfl (lv_at hl 3 rfl) ?_
  refine lv_iconst (v := 0) (pc := 1) hx hb dL_clashesWith_1 (by decide) ?_
  refine lv_aload_n (pc := 2) hx hb dL_clashesWith_2 rfl (lv_at hl 0 rfl) ?_
  refine lv_iload_n (pc := 3) hx hb dL_clashesWith_3 rfl (lv_at hl 1 rfl) ?_
  refine lv_iload_n (pc := 4) hx hb dL_clashesWith_4 rfl (lv_at hl 2 rfl) ?_
  refine k_hri (pc := 5) (vx_runV (As := [.int p0, .int c0]) (rest := [.int 0, .ref (gO g)]) ⟨hx, hb, hml, hown, hts⟩ (cX1_clashesWith_m l hfl g A σ (ow g f ++ rest) p0 c0 hI) (cwV 2 hts gL_clashesWith_X1_clashesWith rfl rfl rfl (by decide +kernel) ⟨Nat.le_of_ble_eq_true rfl, Nat.le_of_ble_eq_true rfl⟩) (cx_V (q0 := 0) (ci := 1) (r := (RX1, TX1, 2)) rfl (cx0 g σ (ow g f ++ rest)) hP hD hA hK hX hS) rfl rfl hl.1 rfl (lv_room (Nat.le_of_ble_eq_true rfl)) dL_clashesWith_5 ⟨Nat.le_of_ble_eq_true rfl, Nat.le_of_ble_eq_true rfl⟩) hS (fun E ce q9 H1 locs1 hE hS hkp hcell hcv hcl => ?_) (fun r hr1 => ?_)
  · have hP : va_P (gD g) vwCl (cw g σ ++ (ow g f ++ rest)) H1 := hP.kept (fun k q hk => hkp q.1 ((hP k q hk).lt))
    rcases hE with ⟨rfl, hcd⟩ | ⟨rfl, hcd⟩
    · rw [hcd]
      refine vx_catch (E := eI) (name := "java/lang/IndexOutOfBoundsException") hown [] (⟨0, 10, 13, 21⟩ : ExceptionTableEntry) [(⟨0, 10, 17, 13⟩ : ExceptionTableEntry)] (htab.trans rfl) (fun z hz => absurd hz List.not_mem_nil) (by decide) (by decide) (hts (.classLink RL 21 "java/lang/IndexOutOfBoundsException") (by decide +kernel)) (va_Nw.use rfl (hX.cast (E := eI) (by decide))) hcell hcv hcl ?_
      refine lv_astore (lv' := [(4, .ref q9), (0, .ref (gX g)), (1, .int p0), (2, .int c0), (3, .ref (gO g))]) (pc := 13) hx hb dL_clashesWith_13 hl (by decide) rfl (fun ls hl => ?_)
      refine lv_iconst (v := 1) (pc := 15) hx hb dL_clashesWith_15 (by decide) ?_
      refine W.widen (k := 2) (n := 12) (Nat.le_of_ble_eq_true rfl) (Nat.le_of_ble_eq_true rfl) ?_
      exact W.iret hx hb hr (fun t ht hW => ⟨⟨_, f, rfl, ⟨rfl, fun q => absurd q (by decide)⟩, by rw [ht]; exact hP, hD⟩, hS.F ht⟩) hS.2.2 dL_clashesWith_16
    · rw [hcd]
      refine vx_catch (E := eA) (name := "java/lang/IllegalArgumentException") hown [(⟨0, 10, 13, 21⟩ : ExceptionTableEntry)] (⟨0, 10, 17, 13⟩ : ExceptionTableEntry) [] (htab.trans rfl) (List.forall_mem_cons.mpr ⟨Or.inr ⟨by decide, "java/lang/IndexOutOfBoundsException", hts (.classLink RL 21 "java/lang/IndexOutOfBoundsException") (by decide +kernel), hNc (eA, eI) (by decide)⟩, (fun z hz => absurd hz List.not_mem_nil)⟩) (by decide) (by decide) (hts (.classLink RL 13 "java/lang/IllegalArgumentException") (by decide +kernel)) (va_Nw.use rfl (hX.cast (E := eA) (by decide))) hcell hcv hcl ?_
      refine lv_astore (lv' := [(4, .ref q9), (0, .ref (gX g)), (1, .int p0), (2, .int c0), (3, .ref (gO g))]) (pc := 17) hx hb dL_clashesWith_17 hl (by decide) rfl (fun ls hl => ?_)
      refine lv_iconst (v := 2) (pc := 19) hx hb dL_clashesWith_19 (by decide) ?_
      refine W.widen (k := 2) (n := 12) (Nat.le_of_ble_eq_true rfl) (Nat.le_of_ble_eq_true rfl) ?_
      exact W.iret hx hb hr (fun t ht hW => ⟨⟨_, f, rfl, ⟨rfl, fun q => absurd q (by decide)⟩, by rw [ht]; exact hP, hD⟩, hS.F ht⟩) hS.2.2 dL_clashesWith_20
  · obtain ⟨hcd, rfl⟩ := hr1
    rw [hcd]
    refine lv_i2l (pc := 8) hx hb dL_clashesWith_8 rfl ?_
    refine k_last (pc := 9) (ws' := cw g σ ++ (ow g (vp_updL f 0 ((nI (cwN σ (ix p0) c0)).toInt64)) ++ rest)) hx hb hK hP hD hS 26 3 (oa g σ f rest) rfl 0 rfl (by decide) (by decide) (os g σ f (vp_updL f 0 ((nI (cwN σ (ix p0) c0)).toInt64)) rest) dL_clashesWith_9 (fun H1 locs1 hP hD hS => ?_)
    refine lv_goto (tgt := 21) (pc := 10) hx hb dL_clashesWith_10 (by decide) ?_
    refine lv_iconst (v := 0) (pc := 21) hx hb dL_clashesWith_21 (by decide) ?_
    refine W.widen (k := 2) (n := 12) (Nat.le_of_ble_eq_true rfl) (Nat.le_of_ble_eq_true rfl) ?_
    exact W.iret hx hb hr (fun t ht hW => ⟨⟨_, (vp_updL f 0 ((nI (cwN σ (ix p0) c0)).toInt64)), rfl, ⟨rfl, fun _ => rfl⟩, by rw [ht]; exact hP, hD⟩, hS.F ht⟩) hS.2.2 dL_clashesWith_22
set_option maxHeartbeats 4000000 in
set_option maxRecDepth 100000 in
/-- the law: bestClef -/
theorem hL_bestClef (l : Launch) (hfl : l.stackTraces = false) (g : GA) (A : Nat → Prop) (σ : St) (f : Nat → Int64) (rest : va_W) (p0 : Int32) (hI : Inv σ) : Met l yL_bestClef wsL_bestClef ({ frames := 8, cells := 1, slots := 6, locals := 147 }) (va_Pc [.ref (gX g), .int p0, .ref (gO g)] (CxL g A (cw g σ ++ (ow g f ++ rest)))) (va_Qi (fun (r : Int32) (u : Nat → Int64) => r = nI (cdV σ p0) ∧ (cdV σ p0 = 0 → u 0 = (bcl σ (ix p0)).toInt64)) (fun u t => kB g A (cw g σ ++ (ow g u ++ rest)) t) A) 1 6 A := by
  refine k_ofWH (cc := cL_bestClef) (maxL := 4) (ret := some .int) (hh := [(0, 9, 12, 21)]) (by decide) rfl ?_
  intro p e s m args below meth c s₁ B hml htab hv0
  obtain ⟨rfl, ⟨hP, hD, hA, hK, hX⟩, hNc⟩ := hv0
  have hx := B.exec
  have hb := B.bytes
  have hr := B.returns
  have hts := atoms_spec (ws := wsL_bestClef) B.pre
  have hown : s.vm.findClass RL = some m.cls := findClass_of_methodNamed B.named
  have hlocks := B.notSynchronized
  have hS : va_S A s.heap s.heap [] := va_S.rf
  have hl := lv_entry ([.ref (gX g), .int p0, .ref (gO g)]) (n := 4) (Nat.le_of_ble_eq_true rfl)
  rw [lg_entry_eq]
  generalize (lg_sl ([.ref (gX g), .int p0, .ref (gO g)]) ++ List.replicate (4 - (lg_sl ([.ref (gX g), .int p0, .ref (gO g)])).length) Slot.unset).toArray = ls at hl ⊢
  have hl : lv_has ls 4 [(0, .ref (gX g)), (1, .int p0), (2, .ref (gO g))] := hl
  refine lv_aload_n (pc := 0) hx hb dL_bestClef_0 rfl (lv_at hl 2 rfl) ?_
  refine lv_iconst (v := 0) (pc := 1) hx hb dL_bestClef_1 (by decide) ?_
  refine lv_aload_n (pc := 2) hx hb dL_bestClef_2 rfl (lv_at hl 0 rfl) ?_
  refine lv_iload_n (pc := 3) hx hb dL_bestClef_3 rfl (lv_at hl 1 rfl) ?_
  refine k_hri (pc := 4) (vx_runV (As := [.int p0]) (rest := [.int 0, .ref (gO g)]) ⟨hx, hb, hml, hown, hts⟩ (cX1_bestClef_m l hfl g A σ (ow g f ++ rest) p0 hI) (cwV 1 hts gL_bestClef_X1_bestClef rfl rfl rfl (by decide +kernel) ⟨Nat.le_of_ble_eq_true rfl, Nat.le_of_ble_eq_true rfl⟩) (cx_V (q0 := 0) (ci := 1) (r := (RX1, TX1, 2)) rfl (cx0 g σ (ow g f ++ rest)) hP hD hA hK hX hS) rfl rfl hl.1 rfl (lv_room (Nat.le_of_ble_eq_true rfl)) dL_bestClef_4 ⟨Nat.le_of_ble_eq_true rfl, Nat.le_of_ble_eq_true rfl⟩) hS (fun E ce q9 H1 locs1 hE hS hkp hcell hcv hcl => ?_) (fun r hr1 => ?_)
  · have hP : va_P (gD g) vwCl (cw g σ ++ (ow g f ++ rest)) H1 := hP.kept (fun k q hk => hkp q.1 ((hP k q hk).lt))
    obtain ⟨rfl, hcd⟩ := hE
    rw [hcd]
    refine vx_catch (E := eI) (name := "java/lang/IndexOutOfBoundsException") hown [] (⟨0, 9, 12, 21⟩ : ExceptionTableEntry) [] (htab.trans rfl) (fun z hz => absurd hz List.not_mem_nil) (by decide) (by decide) (hts (.classLink RL 21 "java/lang/IndexOutOfBoundsException") (by decide +kernel)) (va_Nw.use rfl (hX.cast (E := eI) (by decide))) hcell hcv hcl ?_
    refine lv_astore_n (lv' := [(3, .ref q9), (0, .ref (gX g)), (1, .int p0), (2, .ref (gO g))]) (pc := 12) hx hb dL_bestClef_12 rfl hl (by decide) rfl (fun ls hl => ?_)
    refine lv_iconst (v := 1) (pc := 13) hx hb dL_bestClef_13 (by decide) ?_
    refine W.widen (k := 1) (n := 6) (Nat.le_of_ble_eq_true rfl) (Nat.le_of_ble_eq_true rfl) ?_
    exact W.iret hx hb hr (fun t ht hW => ⟨⟨_, f, rfl, ⟨rfl, fun q => absurd q (by decide)⟩, by rw [ht]; exact hP, hD⟩, hS.F ht⟩) hS.2.2 dL_bestClef_14
  · obtain ⟨hcd, rfl⟩ := hr1
    rw [hcd]
    refine lv_i2l (pc := 7) hx hb dL_bestClef_7 rfl ?_
    refine k_last (pc := 8) (ws' := cw g σ ++ (ow g (vp_updL f 0 ((bcl σ (ix p0)).toInt64)) ++ rest)) hx hb hK hP hD hS 26 3 (oa g σ f rest) rfl 0 rfl (by decide) (by decide) (os g σ f (vp_updL f 0 ((bcl σ (ix p0)).toInt64)) rest) dL_bestClef_8 (fun H1 locs1 hP hD hS => ?_)
    refine lv_goto (tgt := 15) (pc := 9) hx hb dL_bestClef_9 (by decide) ?_
    refine lv_iconst (v := 0) (pc := 15) hx hb dL_bestClef_15 (by decide) ?_
    refine W.widen (k := 1) (n := 6) (Nat.le_of_ble_eq_true rfl) (Nat.le_of_ble_eq_true rfl) ?_
    exact W.iret hx hb hr (fun t ht hW => ⟨⟨_, (vp_updL f 0 ((bcl σ (ix p0)).toInt64)), rfl, ⟨rfl, fun _ => rfl⟩, by rw [ht]; exact hP, hD⟩, hS.F ht⟩) hS.2.2 dL_bestClef_16
set_option maxHeartbeats 4000000 in
set_option maxRecDepth 100000 in
/-- the law: canonClashes -/
theorem hL_canonClashes (l : Launch) (hfl : l.stackTraces = false) (g : GA) (A : Nat → Prop) (σ : St) (f : Nat → Int64) (rest : va_W) (p0 : Int32) (d0 : Int32) (u0 : Int32) (hI : Inv σ) : Met l yL_canonClashes wsL_canonClashes ({ frames := 8, cells := 3, slots := 18, locals := 136 }) (va_Pc [.ref (gX g), .int p0, .int d0, .int u0, .ref (gO g)] (CxL g A (cw g σ ++ (ow g f ++ rest)))) (va_Qi (fun (r : Int32) (u : Nat → Int64) => r = nI (cd_canon σ p0 d0 u0) ∧ (cd_canon σ p0 d0 u0 = 0 → u 0 = (nI (clN σ (ix p0) (ix p0) (ix d0) u0)).toInt64)) (fun u t => kB g A (cw g σ ++ (ow g u ++ rest)) t) A) 3 18 A := by
  refine k_ofWH (cc := cL_canonClashes) (maxL := 6) (ret := some .int) (hh := [(0, 12, 15, 21), (0, 12, 19, 13)]) (by decide) rfl ?_
  intro p e s m args below meth c s₁ B hml htab hv0
  obtain ⟨rfl, ⟨hP, hD, hA, hK, hX⟩, hNc⟩ := hv0
  have hx := B.exec
  have hb := B.bytes
  have hr := B.returns
  have hts := atoms_spec (ws := wsL_canonClashes) B.pre
  have hown : s.vm.findClass RL = some m.cls := findClass_of_methodNamed B.named
  have hlocks := B.notSynchronized
  have hS : va_S A s.heap s.heap [] := va_S.rf
  have hl := lv_entry ([.ref (gX g), .int p0, .int d0, .int u0, .ref (gO g)]) (n := 6) (Nat.le_of_ble_eq_true rfl)
  rw [lg_entry_eq]
  generalize (lg_sl ([.ref (gX g), .int p0, .int d0, .int u0, .ref (gO g)]) ++ List.replicate (6 - (lg_sl ([.ref (gX g), .int p0, .int d0, .int u0, .ref (gO g)])).length) Slot.unset).toArray = ls at hl ⊢
  have hl : lv_has ls 6 [(0, .ref (gX g)), (1, .int p0), (2, .int d0), (3, .int u0), (4, .ref (gO g))] := hl
  refine lv_aload (pc := 0) hx hb dL_canonClashes_0 (lv_at hl 4 rfl) ?_
  refine lv_iconst (v := 0) (pc := 2) hx hb dL_canonClashes_2 (by decide) ?_
  refine lv_aload_n (pc := 3) hx hb dL_canonClashes_3 rfl (lv_at hl 0 rfl) ?_
  refine lv_iload_n (pc := 4) hx hb dL_canonClashes_4 rfl (lv_at hl 1 rfl) ?_
  refine lv_iload_n (pc := 5) hx hb dL_canonClashes_5 rfl (lv_at hl 2 rfl) ?_
  refine lv_iload_n (pc := 6) hx hb dL_canonClashes_6 rfl (lv_at hl 3 rfl) ?_
  refine k_hri (pc := 7) (vx_runV (As := [.int p0, .int d0, .int u0]) (rest := [.int 0, .ref (gO g)]) ⟨hx, hb, hml, hown, hts⟩ (cX1_canonClashes_m l hfl g A σ (ow g f ++ rest) p0 d0 u0 hI) (cwV 3 hts gL_canonClashes_X1_canonClashes rfl rfl rfl (by decide +kernel) ⟨Nat.le_of_ble_eq_true rfl, Nat.le_of_ble_eq_true rfl⟩) (cx_V (q0 := 0) (ci := 1) (r := (RX1, TX1, 2)) rfl (cx0 g σ (ow g f ++ rest)) hP hD hA hK hX hS) rfl rfl hl.1 rfl (lv_room (Nat.le_of_ble_eq_true rfl)) dL_canonClashes_7 ⟨Nat.le_of_ble_eq_true rfl, Nat.le_of_ble_eq_true rfl⟩) hS (fun E ce q9 H1 locs1 hE hS hkp hcell hcv hcl => ?_) (fun r hr1 => ?_)
  · have hP : va_P (gD g) vwCl (cw g σ ++ (ow g f ++ rest)) H1 := hP.kept (fun k q hk => hkp q.1 ((hP k q hk).lt))
    rcases hE with ⟨rfl, hcd⟩ | ⟨rfl, hcd⟩
    · rw [hcd]
      refine vx_catch (E := eI) (name := "java/lang/IndexOutOfBoundsException") hown [] (⟨0, 12, 15, 21⟩ : ExceptionTableEntry) [(⟨0, 12, 19, 13⟩ : ExceptionTableEntry)] (htab.trans rfl) (fun z hz => absurd hz List.not_mem_nil) (by decide) (by decide) (hts (.classLink RL 21 "java/lang/IndexOutOfBoundsException") (by decide +kernel)) (va_Nw.use rfl (hX.cast (E := eI) (by decide))) hcell hcv hcl ?_
      refine lv_astore (lv' := [(5, .ref q9), (0, .ref (gX g)), (1, .int p0), (2, .int d0), (3, .int u0), (4, .ref (gO g))]) (pc := 15) hx hb dL_canonClashes_15 hl (by decide) rfl (fun ls hl => ?_)
      refine lv_iconst (v := 1) (pc := 17) hx hb dL_canonClashes_17 (by decide) ?_
      refine W.widen (k := 3) (n := 18) (Nat.le_of_ble_eq_true rfl) (Nat.le_of_ble_eq_true rfl) ?_
      exact W.iret hx hb hr (fun t ht hW => ⟨⟨_, f, rfl, ⟨rfl, fun q => absurd q (by decide)⟩, by rw [ht]; exact hP, hD⟩, hS.F ht⟩) hS.2.2 dL_canonClashes_18
    · rw [hcd]
      refine vx_catch (E := eA) (name := "java/lang/IllegalArgumentException") hown [(⟨0, 12, 15, 21⟩ : ExceptionTableEntry)] (⟨0, 12, 19, 13⟩ : ExceptionTableEntry) [] (htab.trans rfl) (List.forall_mem_cons.mpr ⟨Or.inr ⟨by decide, "java/lang/IndexOutOfBoundsException", hts (.classLink RL 21 "java/lang/IndexOutOfBoundsException") (by decide +kernel), hNc (eA, eI) (by decide)⟩, (fun z hz => absurd hz List.not_mem_nil)⟩) (by decide) (by decide) (hts (.classLink RL 13 "java/lang/IllegalArgumentException") (by decide +kernel)) (va_Nw.use rfl (hX.cast (E := eA) (by decide))) hcell hcv hcl ?_
      refine lv_astore (lv' := [(5, .ref q9), (0, .ref (gX g)), (1, .int p0), (2, .int d0), (3, .int u0), (4, .ref (gO g))]) (pc := 19) hx hb dL_canonClashes_19 hl (by decide) rfl (fun ls hl => ?_)
      refine lv_iconst (v := 2) (pc := 21) hx hb dL_canonClashes_21 (by decide) ?_
      refine W.widen (k := 3) (n := 18) (Nat.le_of_ble_eq_true rfl) (Nat.le_of_ble_eq_true rfl) ?_
      exact W.iret hx hb hr (fun t ht hW => ⟨⟨_, f, rfl, ⟨rfl, fun q => absurd q (by decide)⟩, by rw [ht]; exact hP, hD⟩, hS.F ht⟩) hS.2.2 dL_canonClashes_22
  · obtain ⟨hcd, rfl⟩ := hr1
    rw [hcd]
    refine lv_i2l (pc := 10) hx hb dL_canonClashes_10 rfl ?_
    refine k_last (pc := 11) (ws' := cw g σ ++ (ow g (vp_updL f 0 ((nI (clN σ (ix p0) (ix p0) (ix d0) u0)).toInt64)) ++ rest)) hx hb hK hP hD hS 26 3 (oa g σ f rest) rfl 0 rfl (by decide) (by decide) (os g σ f (vp_updL f 0 ((nI (clN σ (ix p0) (ix p0) (ix d0) u0)).toInt64)) rest) dL_canonClashes_11 (fun H1 locs1 hP hD hS => ?_)
    refine lv_goto (tgt := 23) (pc := 12) hx hb dL_canonClashes_12 (by decide) ?_
    refine lv_iconst (v := 0) (pc := 23) hx hb dL_canonClashes_23 (by decide) ?_
    refine W.widen (k := 3) (n := 18) (Nat.le_of_ble_eq_true rfl) (Nat.le_of_ble_eq_true rfl) ?_
    exact W.iret hx hb hr (fun t ht hW => ⟨⟨_, (vp_updL f 0 ((nI (clN σ (ix p0) (ix p0) (ix d0) u0)).toInt64)), rfl, ⟨rfl, fun _ => rfl⟩, by rw [ht]; exact hP, hD⟩, hS.F ht⟩) hS.2.2 dL_canonClashes_24
set_option maxHeartbeats 4000000 in
set_option maxRecDepth 100000 in
/-- the law: bestDelay -/
theorem hL_bestDelay (l : Launch) (hfl : l.stackTraces = false) (g : GA) (A : Nat → Prop) (σ : St) (f : Nat → Int64) (rest : va_W) (p0 : Int32) (u0 : Int32) (hI : Inv σ) : Met l yL_bestDelay wsL_bestDelay ({ frames := 8, cells := 2, slots := 12, locals := 135 }) (va_Pc [.ref (gX g), .int p0, .int u0, .ref (gO g)] (CxL g A (cw g σ ++ (ow g f ++ rest)))) (va_Qi (fun (r : Int32) (u : Nat → Int64) => r = nI (cdVR σ p0 (inr (-7) 7 u0)) ∧ (cdVR σ p0 (inr (-7) 7 u0) = 0 → u 0 = (bdl σ (ix p0) u0).toInt64)) (fun u t => kB g A (cw g σ ++ (ow g u ++ rest)) t) A) 2 12 A := by
  refine k_ofWH (cc := cL_bestDelay) (maxL := 5) (ret := some .int) (hh := [(0, 10, 13, 21), (0, 10, 17, 13)]) (by decide) rfl ?_
  intro p e s m args below meth c s₁ B hml htab hv0
  obtain ⟨rfl, ⟨hP, hD, hA, hK, hX⟩, hNc⟩ := hv0
  have hx := B.exec
  have hb := B.bytes
  have hr := B.returns
  have hts := atoms_spec (ws := wsL_bestDelay) B.pre
  have hown : s.vm.findClass RL = some m.cls := findClass_of_methodNamed B.named
  have hlocks := B.notSynchronized
  have hS : va_S A s.heap s.heap [] := va_S.rf
  have hl := lv_entry ([.ref (gX g), .int p0, .int u0, .ref (gO g)]) (n := 5) (Nat.le_of_ble_eq_true rfl)
  rw [lg_entry_eq]
  generalize (lg_sl ([.ref (gX g), .int p0, .int u0, .ref (gO g)]) ++ List.replicate (5 - (lg_sl ([.ref (gX g), .int p0, .int u0, .ref (gO g)])).length) Slot.unset).toArray = ls at hl ⊢
  have hl : lv_has ls 5 [(0, .ref (gX g)), (1, .int p0), (2, .int u0), (3, .ref (gO g))] := hl
  refine lv_aload_n (pc := 0) hx hb dL_bestDelay_0 rfl (lv_at hl 3 rfl) ?_
  refine lv_iconst (v := 0) (pc := 1) hx hb dL_bestDelay_1 (by decide) ?_
  refine lv_aload_n (pc := 2) hx hb dL_bestDelay_2 rfl (lv_at hl 0 rfl) ?_
  refine lv_iload_n (pc := 3) hx hb dL_bestDelay_3 rfl (lv_at hl 1 rfl) ?_
  refine lv_iload_n (pc := 4) hx hb dL_bestDelay_4 rfl (lv_at hl 2 rfl) ?_
  refine k_hri (pc := 5) (vx_runV (As := [.int p0, .int u0]) (rest := [.int 0, .ref (gO g)]) ⟨hx, hb, hml, hown, hts⟩ (cX1_bestDelay_m l hfl g A σ (ow g f ++ rest) p0 u0 hI) (cwV 2 hts gL_bestDelay_X1_bestDelay rfl rfl rfl (by decide +kernel) ⟨Nat.le_of_ble_eq_true rfl, Nat.le_of_ble_eq_true rfl⟩) (cx_V (q0 := 0) (ci := 1) (r := (RX1, TX1, 2)) rfl (cx0 g σ (ow g f ++ rest)) hP hD hA hK hX hS) rfl rfl hl.1 rfl (lv_room (Nat.le_of_ble_eq_true rfl)) dL_bestDelay_5 ⟨Nat.le_of_ble_eq_true rfl, Nat.le_of_ble_eq_true rfl⟩) hS (fun E ce q9 H1 locs1 hE hS hkp hcell hcv hcl => ?_) (fun r hr1 => ?_)
  · have hP : va_P (gD g) vwCl (cw g σ ++ (ow g f ++ rest)) H1 := hP.kept (fun k q hk => hkp q.1 ((hP k q hk).lt))
    rcases hE with ⟨rfl, hcd⟩ | ⟨rfl, hcd⟩
    · rw [hcd]
      refine vx_catch (E := eI) (name := "java/lang/IndexOutOfBoundsException") hown [] (⟨0, 10, 13, 21⟩ : ExceptionTableEntry) [(⟨0, 10, 17, 13⟩ : ExceptionTableEntry)] (htab.trans rfl) (fun z hz => absurd hz List.not_mem_nil) (by decide) (by decide) (hts (.classLink RL 21 "java/lang/IndexOutOfBoundsException") (by decide +kernel)) (va_Nw.use rfl (hX.cast (E := eI) (by decide))) hcell hcv hcl ?_
      refine lv_astore (lv' := [(4, .ref q9), (0, .ref (gX g)), (1, .int p0), (2, .int u0), (3, .ref (gO g))]) (pc := 13) hx hb dL_bestDelay_13 hl (by decide) rfl (fun ls hl => ?_)
      refine lv_iconst (v := 1) (pc := 15) hx hb dL_bestDelay_15 (by decide) ?_
      refine W.widen (k := 2) (n := 12) (Nat.le_of_ble_eq_true rfl) (Nat.le_of_ble_eq_true rfl) ?_
      exact W.iret hx hb hr (fun t ht hW => ⟨⟨_, f, rfl, ⟨rfl, fun q => absurd q (by decide)⟩, by rw [ht]; exact hP, hD⟩, hS.F ht⟩) hS.2.2 dL_bestDelay_16
    · rw [hcd]
      refine vx_catch (E := eA) (name := "java/lang/IllegalArgumentException") hown [(⟨0, 10, 13, 21⟩ : ExceptionTableEntry)] (⟨0, 10, 17, 13⟩ : ExceptionTableEntry) [] (htab.trans rfl) (List.forall_mem_cons.mpr ⟨Or.inr ⟨by decide, "java/lang/IndexOutOfBoundsException", hts (.classLink RL 21 "java/lang/IndexOutOfBoundsException") (by decide +kernel), hNc (eA, eI) (by decide)⟩, (fun z hz => absurd hz List.not_mem_nil)⟩) (by decide) (by decide) (hts (.classLink RL 13 "java/lang/IllegalArgumentException") (by decide +kernel)) (va_Nw.use rfl (hX.cast (E := eA) (by decide))) hcell hcv hcl ?_
      refine lv_astore (lv' := [(4, .ref q9), (0, .ref (gX g)), (1, .int p0), (2, .int u0), (3, .ref (gO g))]) (pc := 17) hx hb dL_bestDelay_17 hl (by decide) rfl (fun ls hl => ?_)
      refine lv_iconst (v := 2) (pc := 19) hx hb dL_bestDelay_19 (by decide) ?_
      refine W.widen (k := 2) (n := 12) (Nat.le_of_ble_eq_true rfl) (Nat.le_of_ble_eq_true rfl) ?_
      exact W.iret hx hb hr (fun t ht hW => ⟨⟨_, f, rfl, ⟨rfl, fun q => absurd q (by decide)⟩, by rw [ht]; exact hP, hD⟩, hS.F ht⟩) hS.2.2 dL_bestDelay_20
  · obtain ⟨hcd, rfl⟩ := hr1
    rw [hcd]
    refine lv_i2l (pc := 8) hx hb dL_bestDelay_8 rfl ?_
    refine k_last (pc := 9) (ws' := cw g σ ++ (ow g (vp_updL f 0 ((bdl σ (ix p0) u0).toInt64)) ++ rest)) hx hb hK hP hD hS 26 3 (oa g σ f rest) rfl 0 rfl (by decide) (by decide) (os g σ f (vp_updL f 0 ((bdl σ (ix p0) u0).toInt64)) rest) dL_bestDelay_9 (fun H1 locs1 hP hD hS => ?_)
    refine lv_goto (tgt := 21) (pc := 10) hx hb dL_bestDelay_10 (by decide) ?_
    refine lv_iconst (v := 0) (pc := 21) hx hb dL_bestDelay_21 (by decide) ?_
    refine W.widen (k := 2) (n := 12) (Nat.le_of_ble_eq_true rfl) (Nat.le_of_ble_eq_true rfl) ?_
    exact W.iret hx hb hr (fun t ht hW => ⟨⟨_, (vp_updL f 0 ((bdl σ (ix p0) u0).toInt64)), rfl, ⟨rfl, fun _ => rfl⟩, by rw [ht]; exact hP, hD⟩, hS.F ht⟩) hS.2.2 dL_bestDelay_22
