/-! THE CLASS: a ligature -/
set_option maxHeartbeats 4000000 in
set_option maxRecDepth 100000 in
/-- addLigature -/
theorem cX1_addLigature_m (l : Launch) (hfl : l.stackTraces = false) (g : GA) (A : Nat → Prop) (σ : St) (rest : va_W) (p0 : Int32) (f0 : Int32) (s0 : Int32) (t0 : Int32) (z0 : Bool) (hI : Inv σ) : vx_Met l yX1_addLigature wsX1_addLigature ({ frames := 8, cells := 6, slots := 36, locals := 134 }) (va_Pc [.ref (gX g), .int p0, .int f0, .int s0, .int t0, .int (bI z0)] (Cx g A (cw g σ ++ rest))) (va_Qi (fun (r : Int32) (u : Nat → Nat → Int32) => cd_addLigature σ p0 f0 s0 t0 = 0 ∧ r = nI (sC σ (ix p0)) ∧ Inv (uB (ef_addLigature σ (ix p0) f0 s0 t0 z0) u)) (fun u t => kB g A (cw g (uB (ef_addLigature σ (ix p0) f0 s0 t0 z0) u) ++ rest) t) A) (kX (fun E => (E = eI ∧ cd_addLigature σ p0 f0 s0 t0 = 1) ∨ (E = eA ∧ cd_addLigature σ p0 f0 s0 t0 = 2) ∨ (E = eS ∧ cd_addLigature σ p0 f0 s0 t0 = 3))) 6 36 A := by
  refine vx_ofW (cc := cX1_addLigature) (maxL := 9) (ret := (some .int)) (by decide) rfl ?_
  intro p e s m args below meth c s₁ B hml hno hv0
  obtain ⟨rfl, hP, hD, hA, hK, hX⟩ := hv0
  have hx := B.exec
  have hb := B.bytes
  have hr := B.returns
  have hts := atoms_spec (ws := wsX1_addLigature) B.pre
  have hown : s.vm.findClass RX1 = some m.cls := findClass_of_methodNamed B.named
  have hlocks := B.notSynchronized
  have hS : va_S A s.heap s.heap [] := va_S.rf
  have hl := lv_entry ([.ref (gX g), .int p0, .int f0, .int s0, .int t0, .int (bI z0)]) (n := 9) (Nat.le_of_ble_eq_true rfl)
  rw [lg_entry_eq]
  generalize (lg_sl ([.ref (gX g), .int p0, .int f0, .int s0, .int t0, .int (bI z0)]) ++ List.replicate (9 - (lg_sl ([.ref (gX g), .int p0, .int f0, .int s0, .int t0, .int (bI z0)])).length) Slot.unset).toArray = ls at hl ⊢
  have hl : lv_has ls 9 [(0, .ref (gX g)), (1, .int p0), (2, .int f0), (3, .int s0), (4, .int t0), (5, .int (bI z0))] := hl
  refine lv_aload_n (pc := 0) hx hb dX1_addLigature_0 rfl (lv_at hl 0 rfl) ?_
  refine lv_iload_n (pc := 1) hx hb dX1_addLigature_1 rfl (lv_at hl 1 rfl) ?_
  refine k_xr (pc := 2) (vx_runV (As := [.int p0]) (rest := []) ⟨hx, hb, hml, hown, hts⟩ (cX1_knownVoice_m l hfl g A σ rest p0 hI) (cwV 1 hts gX1_addLigature_X1_knownVoice rfl rfl rfl (by decide +kernel) ⟨Nat.le_of_ble_eq_true rfl, Nat.le_of_ble_eq_true rfl⟩) (cx_V (q0 := 0) (ci := 1) (r := (RX1, TX1, 2)) rfl (cx0 g σ rest) hP hD hA hK hX hS) rfl rfl hl.1 rfl (lv_room (Nat.le_of_ble_eq_true rfl)) dX1_addLigature_2 ⟨Nat.le_of_ble_eq_true rfl, Nat.le_of_ble_eq_true rfl⟩) hno hlocks (fun E h => Or.inl ⟨h.1, by simp [cd_addLigature, h.2]⟩) (Nat.le_of_ble_eq_true rfl) (Nat.le_of_ble_eq_true rfl) (fun r_1 hr_1 => ?_)
  obtain ⟨v, hvn, rfl, rfl⟩ := hr_1
  have hv4 : v < 4 := hI.v4 hvn
  have hixv : ix (nI v) = v := ix_n (by omega)
  have hokv : okV σ (nI v) = true := okV_t hvn hI.N
  rw [hixv]
  refine lv_astore (lv' := [(6, .ref (gV g v)), (0, .ref (gX g)), (1, .int (nI v)), (2, .int f0), (3, .int s0), (4, .int t0), (5, .int (bI z0))]) (pc := 5) hx hb dX1_addLigature_5 hl (by decide) rfl (fun ls hl => ?_)
  refine lv_iload_n (pc := 7) hx hb dX1_addLigature_7 rfl (lv_at hl 3 rfl) ?_
  refine lv_iload_n (pc := 8) hx hb dX1_addLigature_8 rfl (lv_at hl 4 rfl) ?_
  refine lv_iload (pc := 9) hx hb dX1_addLigature_9 (lv_at hl 5 rfl) ?_
  refine k_xv (pc := 11) (vx_runS (As := [.int f0, .int s0, .int t0]) (rest := []) ⟨hx, hb, hml, hown, hts⟩ (cX1_checkLigature_m l hfl g A σ rest f0 s0 t0) (va_cwS 3 hts gX1_addLigature_X1_checkLigature rfl rfl rfl (by decide +kernel) ⟨Nat.le_of_ble_eq_true rfl, Nat.le_of_ble_eq_true rfl⟩) (cx_S hP hD hA hK hX hS) rfl rfl hl.1 rfl (lv_room (Nat.le_of_ble_eq_true rfl)) dX1_addLigature_11 ⟨Nat.le_of_ble_eq_true rfl, Nat.le_of_ble_eq_true rfl⟩) hno hlocks (fun E h => Or.inr (Or.inl ⟨h.1, by simp [cd_addLigature, hokv, h.2]⟩)) (Nat.le_of_ble_eq_true rfl) (Nat.le_of_ble_eq_true rfl) (fun hk1 => ?_)
  refine lv_iload (pc := 14) hx hb dX1_addLigature_14 (lv_at hl 5 rfl) ?_
  refine lv_iconst (v := (-1)) (pc := 16) hx hb dX1_addLigature_16 (by decide) ?_
  refine lv_icmp_eq (tgt := 24) (pc := 17) hx hb dX1_addLigature_17 (by decide) (fun c1 => ?_) (fun c1 => ?_)
  · have hM : lgM t0 = 2 := if_pos c1
    refine lv_iconst (v := 0) (pc := 24) hx hb dX1_addLigature_24 (by decide) ?_
    refine lv_istore (lv' := [(7, .int 0), (6, .ref (gV g v)), (0, .ref (gX g)), (1, .int (nI v)), (2, .int f0), (3, .int s0), (4, .int t0), (5, .int (bI z0))]) (pc := 25) hx hb dX1_addLigature_25 hl (by decide) rfl (fun ls hl => ?_)
    refine lv_aload (pc := 27) hx hb dX1_addLigature_27 (lv_at hl 1 rfl) ?_
    refine lv_iload (pc := 29) hx hb dX1_addLigature_29 (lv_at hl 0 rfl) ?_
    refine lv_if_eq (tgt := 38) (pc := 31) hx hb dX1_addLigature_31 (by decide) (fun c_4 => ?_) (fun c_4 => ?_)
    · refine lv_iconst (v := 2) (pc := 38) hx hb dX1_addLigature_38 (by decide) ?_
      refine k_xv (pc := 39) (vx_runS (As := [.ref (gV g v), .int 2]) (rest := []) ⟨hx, hb, hml, hown, hts⟩ (cX1_checkRoom_m l hfl g A σ rest v 2 hv4 (hI.C v) (by omega)) (va_cwS 2 hts gX1_addLigature_X1_checkRoom rfl rfl rfl (by decide +kernel) ⟨Nat.le_of_ble_eq_true rfl, Nat.le_of_ble_eq_true rfl⟩) (cx_S hP hD hA hK hX hS) rfl rfl hl.1 rfl (lv_room (Nat.le_of_ble_eq_true rfl)) dX1_addLigature_39 ⟨Nat.le_of_ble_eq_true rfl, Nat.le_of_ble_eq_true rfl⟩) hno hlocks (fun E h => Or.inr (Or.inr ⟨h.1, by have q := h.2; simp only [cd_addLigature, hokv, hk1, hixv, hM, if_true, if_neg q]⟩)) (Nat.le_of_ble_eq_true rfl) (Nat.le_of_ble_eq_true rfl) (fun hk4 => ?_)
      refine lv_aload (pc := 42) hx hb dX1_addLigature_42 (lv_at hl 1 rfl) ?_
      refine lv_iload_n (pc := 44) hx hb dX1_addLigature_44 rfl (lv_at hl 4 rfl) ?_
      refine lv_iload_n (pc := 45) hx hb dX1_addLigature_45 rfl (lv_at hl 5 rfl) ?_
      refine lv_iload (pc := 46) hx hb dX1_addLigature_46 (lv_at hl 7 rfl) ?_
      refine k_ri (pc := 48) (va_runS (As := [.int f0, .int s0, .int (bI z0)]) (rest := [.ref (gV g v)]) ⟨hx, hb, hml, hown, hts⟩ (cX1_firstKind_m l g A σ rest f0 s0 z0) (va_cwS 3 hts gX1_addLigature_X1_firstKind rfl rfl rfl (by decide +kernel) ⟨Nat.le_of_ble_eq_true rfl, Nat.le_of_ble_eq_true rfl⟩) (cx_S hP hD hA hK hX hS) rfl rfl hl.1 rfl (lv_room (Nat.le_of_ble_eq_true rfl)) dX1_addLigature_48 ⟨Nat.le_of_ble_eq_true rfl, Nat.le_of_ble_eq_true rfl⟩) (fun r_6 hr_6 => ?_)
      subst hr_6
      refine lv_iload_n (pc := 51) hx hb dX1_addLigature_51 rfl (lv_at hl 4 rfl) ?_
      refine lv_iconst (v := 0) (pc := 52) hx hb dX1_addLigature_52 (by decide) ?_
      refine lv_iconst (v := 0) (pc := 53) hx hb dX1_addLigature_53 (by decide) ?_
      refine va_calli (pc := 54) (va_runVN (As := [.int (nI (lg1 f0 s0 z0)), .int f0, .int 0, .int 0]) (rest := []) ⟨hx, hb, hml, hown, hts⟩ (cX0_append_m l g A σ rest v (lg1 f0 s0 z0) f0 false 0 hv4 (lg1_3 _ _ _) (hI.A v) (by omega)) ⟨va_cnB 4 hts gX1_addLigature_X0_append_n45 rfl rfl rfl (nm_45 hX) (hts (.initialized RX0) (by decide +kernel)) (by decide +kernel) ⟨Nat.le_of_ble_eq_true rfl, Nat.le_of_ble_eq_true rfl⟩, hts (.instanceMethod yX0_append) (by decide +kernel), hts (.selects RX0 yX0_append yX0_append) (by decide +kernel)⟩ (cx_V (q0 := (2 + 6 * v)) (ci := 0) (r := (RX0, TX0, 10)) rfl (cv0 g σ rest hv4) hP hD hA hK hX hS) rfl rfl hl.1 rfl (lv_room (Nat.le_of_ble_eq_true rfl)) dX1_addLigature_54 ⟨Nat.le_of_ble_eq_true rfl, Nat.le_of_ble_eq_true rfl⟩) hS (fun _ _ h => h) (fun _ h => h) (fun r_7 u8 t8 H8 locs8 ht8 hvm8 hw8 hB8 hz8 hk8 hS => ?_)
      obtain ⟨hP, hD⟩ := hB8
      rw [ht8] at hP
      obtain ⟨rfl, hw8⟩ := hw8
      have hI1 : Inv (uB (apS σ v (lg1 f0 s0 z0) f0 false 0) u8) := inv_ap hI hvn (lg1_3 _ _ _) (by omega) (Or.inr ⟨0, by omega, by omega, rfl⟩) hw8
      obtain ⟨σ1, hσ1⟩ : ∃ z, z = (uB (apS σ v (lg1 f0 s0 z0) f0 false 0) u8) := ⟨_, rfl⟩
      rw [← hσ1] at hP hD
      rw [← hσ1] at hI1
      have hC1 : sC σ1 v = sC σ v + 1 := by rw [hσ1, sC_uB, sC_apS, up1_s]
      have hvn1 : v < sN σ1 := by rw [hσ1, sN_uB, sN_apS]; exact hvn
      refine lv_istore (lv' := [(8, .int (nI (sC σ v))), (7, .int 0), (6, .ref (gV g v)), (0, .ref (gX g)), (1, .int (nI v)), (2, .int f0), (3, .int s0), (4, .int t0), (5, .int (bI z0))]) (pc := 57) hx hb dX1_addLigature_57 hl (by decide) rfl (fun ls hl => ?_)
      refine lv_aload (pc := 59) hx hb dX1_addLigature_59 (lv_at hl 2 rfl) ?_
      refine lv_iload_n (pc := 61) hx hb dX1_addLigature_61 rfl (lv_at hl 5 rfl) ?_
      refine lv_iload_n (pc := 62) hx hb dX1_addLigature_62 rfl (lv_at hl 6 rfl) ?_
      refine lv_iload (pc := 63) hx hb dX1_addLigature_63 (lv_at hl 1 rfl) ?_
      refine lv_iload (pc := 65) hx hb dX1_addLigature_65 (lv_at hl 8 rfl) ?_
      refine k_ri (pc := 67) (va_runS (As := [.int f0, .int s0, .int 0, .int (bI z0)]) (rest := [.ref (gV g v)]) ⟨hx, hb, hml, hown, hts⟩ (cX1_secondKind_m l g A σ1 rest f0 s0 false z0) (va_cwS 4 hts gX1_addLigature_X1_secondKind rfl rfl rfl (by decide +kernel) ⟨Nat.le_of_ble_eq_true rfl, Nat.le_of_ble_eq_true rfl⟩) (cx_S hP hD hA hK hX hS) rfl rfl hl.1 rfl (lv_room (Nat.le_of_ble_eq_true rfl)) dX1_addLigature_67 ⟨Nat.le_of_ble_eq_true rfl, Nat.le_of_ble_eq_true rfl⟩) (fun r_9 hr_9 => ?_)
      subst hr_9
      refine lv_iload_n (pc := 70) hx hb dX1_addLigature_70 rfl (lv_at hl 6 rfl) ?_
      refine lv_iconst (v := 0) (pc := 71) hx hb dX1_addLigature_71 (by decide) ?_
      refine lv_iconst (v := 1) (pc := 72) hx hb dX1_addLigature_72 (by decide) ?_
      refine va_calli (pc := 73) (va_runVN (As := [.int (nI (lg2 f0 s0 false z0)), .int s0, .int 0, .int 1]) (rest := []) ⟨hx, hb, hml, hown, hts⟩ (cX0_append_m l g A σ1 rest v (lg2 f0 s0 false z0) s0 false 1 hv4 (lg2_3 _ _ _ _) (hI1.A v) (by omega)) ⟨va_cnB 4 hts gX1_addLigature_X0_append_n45 rfl rfl rfl (nm_45 hX) (hts (.initialized RX0) (by decide +kernel)) (by decide +kernel) ⟨Nat.le_of_ble_eq_true rfl, Nat.le_of_ble_eq_true rfl⟩, hts (.instanceMethod yX0_append) (by decide +kernel), hts (.selects RX0 yX0_append yX0_append) (by decide +kernel)⟩ (cx_V (q0 := (2 + 6 * v)) (ci := 0) (r := (RX0, TX0, 10)) rfl (cv0 g σ1 rest hv4) hP hD hA hK hX hS) rfl rfl hl.1 rfl (lv_room (Nat.le_of_ble_eq_true rfl)) dX1_addLigature_73 ⟨Nat.le_of_ble_eq_true rfl, Nat.le_of_ble_eq_true rfl⟩) hS (fun _ _ h => h) (fun _ h => h) (fun r_10 u11 t11 H11 locs11 ht11 hvm11 hw11 hB11 hz11 hk11 hS => ?_)
      obtain ⟨hP, hD⟩ := hB11
      rw [ht11] at hP
      obtain ⟨rfl, hw11⟩ := hw11
      have hI2 : Inv (uB (apS σ1 v (lg2 f0 s0 false z0) s0 false 1) u11) := inv_ap hI1 hvn1 (lg2_3 _ _ _ _) (by omega) (Or.inr ⟨1, by omega, by omega, rfl⟩) hw11
      obtain ⟨σ2, hσ2⟩ : ∃ z, z = (uB (apS σ1 v (lg2 f0 s0 false z0) s0 false 1) u11) := ⟨_, rfl⟩
      rw [← hσ2] at hP hD
      rw [← hσ2] at hI2
      have hC2 : sC σ2 v = sC σ1 v + 1 := by rw [hσ2, sC_uB, sC_apS, up1_s]
      have hvn2 : v < sN σ2 := by rw [hσ2, sN_uB, sN_apS]; exact hvn1
      refine lv_pop (pc := 76) hx hb dX1_addLigature_76 rfl ?_
      refine lv_iload (pc := 77) hx hb dX1_addLigature_77 (lv_at hl 1 rfl) ?_
      refine lv_if_eq (tgt := 98) (pc := 79) hx hb dX1_addLigature_79 (by decide) (fun c_12 => ?_) (fun c_12 => ?_)
      · refine lv_iload (pc := 98) hx hb dX1_addLigature_98 (lv_at hl 0 rfl) ?_
        have hef : ef_addLigature σ v f0 s0 t0 z0 = apS (apS σ v (lg1 f0 s0 z0) f0 false 0) v (lg2 f0 s0 false z0) s0 false 1 := by unfold ef_addLigature; rw [if_pos c1]
        have hIE := hI2
        rw [hσ2, hσ1] at hP hD hIE
        simp only [apS_uB, uB_uB] at hP hD hIE
        rw [← hef] at hP hD hIE
        refine vx_ret ?_
        refine W.widen (k := 6) (n := 36) (Nat.le_of_ble_eq_true rfl) (Nat.le_of_ble_eq_true rfl) ?_
        exact W.iret hx hb hr (fun t ht hW => ⟨⟨_, u11, rfl, ⟨by simp only [cd_addLigature, hokv, hk1, hixv, hM, if_true, if_pos hk4], rfl, hIE⟩, by rw [ht]; exact hP, hD⟩, hS.F ht⟩) hS.2.2 dX1_addLigature_100
      · exact absurd c_12 (by decide)
    · exact absurd c_4 (by decide)
  · have hM : lgM t0 = 3 := if_neg c1
    refine lv_iconst (v := 1) (pc := 20) hx hb dX1_addLigature_20 (by decide) ?_
    refine lv_goto (tgt := 25) (pc := 21) hx hb dX1_addLigature_21 (by decide) ?_
    refine lv_istore (lv' := [(7, .int 1), (6, .ref (gV g v)), (0, .ref (gX g)), (1, .int (nI v)), (2, .int f0), (3, .int s0), (4, .int t0), (5, .int (bI z0))]) (pc := 25) hx hb dX1_addLigature_25 hl (by decide) rfl (fun ls hl => ?_)
    refine lv_aload (pc := 27) hx hb dX1_addLigature_27 (lv_at hl 1 rfl) ?_
    refine lv_iload (pc := 29) hx hb dX1_addLigature_29 (lv_at hl 0 rfl) ?_
    refine lv_if_eq (tgt := 38) (pc := 31) hx hb dX1_addLigature_31 (by decide) (fun c_13 => ?_) (fun c_13 => ?_)
    · exact absurd c_13 (by decide)
    · refine lv_iconst (v := 3) (pc := 34) hx hb dX1_addLigature_34 (by decide) ?_
      refine lv_goto (tgt := 39) (pc := 35) hx hb dX1_addLigature_35 (by decide) ?_
      refine k_xv (pc := 39) (vx_runS (As := [.ref (gV g v), .int 3]) (rest := []) ⟨hx, hb, hml, hown, hts⟩ (cX1_checkRoom_m l hfl g A σ rest v 3 hv4 (hI.C v) (by omega)) (va_cwS 2 hts gX1_addLigature_X1_checkRoom rfl rfl rfl (by decide +kernel) ⟨Nat.le_of_ble_eq_true rfl, Nat.le_of_ble_eq_true rfl⟩) (cx_S hP hD hA hK hX hS) rfl rfl hl.1 rfl (lv_room (Nat.le_of_ble_eq_true rfl)) dX1_addLigature_39 ⟨Nat.le_of_ble_eq_true rfl, Nat.le_of_ble_eq_true rfl⟩) hno hlocks (fun E h => Or.inr (Or.inr ⟨h.1, by have q := h.2; simp only [cd_addLigature, hokv, hk1, hixv, hM, if_true, if_neg q]⟩)) (Nat.le_of_ble_eq_true rfl) (Nat.le_of_ble_eq_true rfl) (fun hk4 => ?_)
      refine lv_aload (pc := 42) hx hb dX1_addLigature_42 (lv_at hl 1 rfl) ?_
      refine lv_iload_n (pc := 44) hx hb dX1_addLigature_44 rfl (lv_at hl 4 rfl) ?_
      refine lv_iload_n (pc := 45) hx hb dX1_addLigature_45 rfl (lv_at hl 5 rfl) ?_
      refine lv_iload (pc := 46) hx hb dX1_addLigature_46 (lv_at hl 7 rfl) ?_
      refine k_ri (pc := 48) (va_runS (As := [.int f0, .int s0, .int (bI z0)]) (rest := [.ref (gV g v)]) ⟨hx, hb, hml, hown, hts⟩ (cX1_firstKind_m l g A σ rest f0 s0 z0) (va_cwS 3 hts gX1_addLigature_X1_firstKind rfl rfl rfl (by decide +kernel) ⟨Nat.le_of_ble_eq_true rfl, Nat.le_of_ble_eq_true rfl⟩) (cx_S hP hD hA hK hX hS) rfl rfl hl.1 rfl (lv_room (Nat.le_of_ble_eq_true rfl)) dX1_addLigature_48 ⟨Nat.le_of_ble_eq_true rfl, Nat.le_of_ble_eq_true rfl⟩) (fun r_15 hr_15 => ?_)
      subst hr_15
      refine lv_iload_n (pc := 51) hx hb dX1_addLigature_51 rfl (lv_at hl 4 rfl) ?_
      refine lv_iconst (v := 0) (pc := 52) hx hb dX1_addLigature_52 (by decide) ?_
      refine lv_iconst (v := 0) (pc := 53) hx hb dX1_addLigature_53 (by decide) ?_
      refine va_calli (pc := 54) (va_runVN (As := [.int (nI (lg1 f0 s0 z0)), .int f0, .int 0, .int 0]) (rest := []) ⟨hx, hb, hml, hown, hts⟩ (cX0_append_m l g A σ rest v (lg1 f0 s0 z0) f0 false 0 hv4 (lg1_3 _ _ _) (hI.A v) (by omega)) ⟨va_cnB 4 hts gX1_addLigature_X0_append_n45 rfl rfl rfl (nm_45 hX) (hts (.initialized RX0) (by decide +kernel)) (by decide +kernel) ⟨Nat.le_of_ble_eq_true rfl, Nat.le_of_ble_eq_true rfl⟩, hts (.instanceMethod yX0_append) (by decide +kernel), hts (.selects RX0 yX0_append yX0_append) (by decide +kernel)⟩ (cx_V (q0 := (2 + 6 * v)) (ci := 0) (r := (RX0, TX0, 10)) rfl (cv0 g σ rest hv4) hP hD hA hK hX hS) rfl rfl hl.1 rfl (lv_room (Nat.le_of_ble_eq_true rfl)) dX1_addLigature_54 ⟨Nat.le_of_ble_eq_true rfl, Nat.le_of_ble_eq_true rfl⟩) hS (fun _ _ h => h) (fun _ h => h) (fun r_16 u17 t17 H17 locs17 ht17 hvm17 hw17 hB17 hz17 hk17 hS => ?_)
      obtain ⟨hP, hD⟩ := hB17
      rw [ht17] at hP
      obtain ⟨rfl, hw17⟩ := hw17
      have hI1 : Inv (uB (apS σ v (lg1 f0 s0 z0) f0 false 0) u17) := inv_ap hI hvn (lg1_3 _ _ _) (by omega) (Or.inr ⟨0, by omega, by omega, rfl⟩) hw17
      obtain ⟨σ1, hσ1⟩ : ∃ z, z = (uB (apS σ v (lg1 f0 s0 z0) f0 false 0) u17) := ⟨_, rfl⟩
      rw [← hσ1] at hP hD
      rw [← hσ1] at hI1
      have hC1 : sC σ1 v = sC σ v + 1 := by rw [hσ1, sC_uB, sC_apS, up1_s]
      have hvn1 : v < sN σ1 := by rw [hσ1, sN_uB, sN_apS]; exact hvn
      refine lv_istore (lv' := [(8, .int (nI (sC σ v))), (7, .int 1), (6, .ref (gV g v)), (0, .ref (gX g)), (1, .int (nI v)), (2, .int f0), (3, .int s0), (4, .int t0), (5, .int (bI z0))]) (pc := 57) hx hb dX1_addLigature_57 hl (by decide) rfl (fun ls hl => ?_)
      refine lv_aload (pc := 59) hx hb dX1_addLigature_59 (lv_at hl 2 rfl) ?_
      refine lv_iload_n (pc := 61) hx hb dX1_addLigature_61 rfl (lv_at hl 5 rfl) ?_
      refine lv_iload_n (pc := 62) hx hb dX1_addLigature_62 rfl (lv_at hl 6 rfl) ?_
      refine lv_iload (pc := 63) hx hb dX1_addLigature_63 (lv_at hl 1 rfl) ?_
      refine lv_iload (pc := 65) hx hb dX1_addLigature_65 (lv_at hl 8 rfl) ?_
      refine k_ri (pc := 67) (va_runS (As := [.int f0, .int s0, .int 1, .int (bI z0)]) (rest := [.ref (gV g v)]) ⟨hx, hb, hml, hown, hts⟩ (cX1_secondKind_m l g A σ1 rest f0 s0 true z0) (va_cwS 4 hts gX1_addLigature_X1_secondKind rfl rfl rfl (by decide +kernel) ⟨Nat.le_of_ble_eq_true rfl, Nat.le_of_ble_eq_true rfl⟩) (cx_S hP hD hA hK hX hS) rfl rfl hl.1 rfl (lv_room (Nat.le_of_ble_eq_true rfl)) dX1_addLigature_67 ⟨Nat.le_of_ble_eq_true rfl, Nat.le_of_ble_eq_true rfl⟩) (fun r_18 hr_18 => ?_)
      subst hr_18
      refine lv_iload_n (pc := 70) hx hb dX1_addLigature_70 rfl (lv_at hl 6 rfl) ?_
      refine lv_iconst (v := 0) (pc := 71) hx hb dX1_addLigature_71 (by decide) ?_
      refine lv_iconst (v := 1) (pc := 72) hx hb dX1_addLigature_72 (by decide) ?_
      refine va_calli (pc := 73) (va_runVN (As := [.int (nI (lg2 f0 s0 true z0)), .int s0, .int 0, .int 1]) (rest := []) ⟨hx, hb, hml, hown, hts⟩ (cX0_append_m l g A σ1 rest v (lg2 f0 s0 true z0) s0 false 1 hv4 (lg2_3 _ _ _ _) (hI1.A v) (by omega)) ⟨va_cnB 4 hts gX1_addLigature_X0_append_n45 rfl rfl rfl (nm_45 hX) (hts (.initialized RX0) (by decide +kernel)) (by decide +kernel) ⟨Nat.le_of_ble_eq_true rfl, Nat.le_of_ble_eq_true rfl⟩, hts (.instanceMethod yX0_append) (by decide +kernel), hts (.selects RX0 yX0_append yX0_append) (by decide +kernel)⟩ (cx_V (q0 := (2 + 6 * v)) (ci := 0) (r := (RX0, TX0, 10)) rfl (cv0 g σ1 rest hv4) hP hD hA hK hX hS) rfl rfl hl.1 rfl (lv_room (Nat.le_of_ble_eq_true rfl)) dX1_addLigature_73 ⟨Nat.le_of_ble_eq_true rfl, Nat.le_of_ble_eq_true rfl⟩) hS (fun _ _ h => h) (fun _ h => h) (fun r_19 u20 t20 H20 locs20 ht20 hvm20 hw20 hB20 hz20 hk20 hS => ?_)
      obtain ⟨hP, hD⟩ := hB20
      rw [ht20] at hP
      obtain ⟨rfl, hw20⟩ := hw20
      have hI2 : Inv (uB (apS σ1 v (lg2 f0 s0 true z0) s0 false 1) u20) := inv_ap hI1 hvn1 (lg2_3 _ _ _ _) (by omega) (Or.inr ⟨1, by omega, by omega, rfl⟩) hw20
      obtain ⟨σ2, hσ2⟩ : ∃ z, z = (uB (apS σ1 v (lg2 f0 s0 true z0) s0 false 1) u20) := ⟨_, rfl⟩
      rw [← hσ2] at hP hD
      rw [← hσ2] at hI2
      have hC2 : sC σ2 v = sC σ1 v + 1 := by rw [hσ2, sC_uB, sC_apS, up1_s]
      have hvn2 : v < sN σ2 := by rw [hσ2, sN_uB, sN_apS]; exact hvn1
      refine lv_pop (pc := 76) hx hb dX1_addLigature_76 rfl ?_
      refine lv_iload (pc := 77) hx hb dX1_addLigature_77 (lv_at hl 1 rfl) ?_
      refine lv_if_eq (tgt := 98) (pc := 79) hx hb dX1_addLigature_79 (by decide) (fun c_21 => ?_) (fun c_21 => ?_)
      · exact absurd c_21 (by decide)
      · refine lv_aload (pc := 82) hx hb dX1_addLigature_82 (lv_at hl 2 rfl) ?_
        refine lv_iload_n (pc := 84) hx hb dX1_addLigature_84 rfl (lv_at hl 6 rfl) ?_
        refine lv_iload (pc := 85) hx hb dX1_addLigature_85 (lv_at hl 7 rfl) ?_
        refine k_ri (pc := 87) (va_runS (As := [.int s0, .int t0]) (rest := [.ref (gV g v)]) ⟨hx, hb, hml, hown, hts⟩ (cX1_lastKind_m l g A σ2 rest s0 t0) (va_cwS 2 hts gX1_addLigature_X1_lastKind rfl rfl rfl (by decide +kernel) ⟨Nat.le_of_ble_eq_true rfl, Nat.le_of_ble_eq_true rfl⟩) (cx_S hP hD hA hK hX hS) rfl rfl hl.1 rfl (lv_room (Nat.le_of_ble_eq_true rfl)) dX1_addLigature_87 ⟨Nat.le_of_ble_eq_true rfl, Nat.le_of_ble_eq_true rfl⟩) (fun r_22 hr_22 => ?_)
        subst hr_22
        refine lv_iload (pc := 90) hx hb dX1_addLigature_90 (lv_at hl 7 rfl) ?_
        refine lv_iconst (v := 0) (pc := 92) hx hb dX1_addLigature_92 (by decide) ?_
        refine lv_iconst (v := 2) (pc := 93) hx hb dX1_addLigature_93 (by decide) ?_
        refine va_calli (pc := 94) (va_runVN (As := [.int (nI (lk s0 t0)), .int t0, .int 0, .int 2]) (rest := []) ⟨hx, hb, hml, hown, hts⟩ (cX0_append_m l g A σ2 rest v (lk s0 t0) t0 false 2 hv4 (lk_3 _ _) (hI2.A v) (by omega)) ⟨va_cnB 4 hts gX1_addLigature_X0_append_n45 rfl rfl rfl (nm_45 hX) (hts (.initialized RX0) (by decide +kernel)) (by decide +kernel) ⟨Nat.le_of_ble_eq_true rfl, Nat.le_of_ble_eq_true rfl⟩, hts (.instanceMethod yX0_append) (by decide +kernel), hts (.selects RX0 yX0_append yX0_append) (by decide +kernel)⟩ (cx_V (q0 := (2 + 6 * v)) (ci := 0) (r := (RX0, TX0, 10)) rfl (cv0 g σ2 rest hv4) hP hD hA hK hX hS) rfl rfl hl.1 rfl (lv_room (Nat.le_of_ble_eq_true rfl)) dX1_addLigature_94 ⟨Nat.le_of_ble_eq_true rfl, Nat.le_of_ble_eq_true rfl⟩) hS (fun _ _ h => h) (fun _ h => h) (fun r_23 u24 t24 H24 locs24 ht24 hvm24 hw24 hB24 hz24 hk24 hS => ?_)
        obtain ⟨hP, hD⟩ := hB24
        rw [ht24] at hP
        obtain ⟨rfl, hw24⟩ := hw24
        have hI3 : Inv (uB (apS σ2 v (lk s0 t0) t0 false 2) u24) := inv_ap hI2 hvn2 (lk_3 _ _) (by omega) (Or.inr ⟨2, by omega, by omega, rfl⟩) hw24
        obtain ⟨σ3, hσ3⟩ : ∃ z, z = (uB (apS σ2 v (lk s0 t0) t0 false 2) u24) := ⟨_, rfl⟩
        rw [← hσ3] at hP hD
        rw [← hσ3] at hI3
        have hC3 : sC σ3 v = sC σ2 v + 1 := by rw [hσ3, sC_uB, sC_apS, up1_s]
        have hvn3 : v < sN σ3 := by rw [hσ3, sN_uB, sN_apS]; exact hvn2
        refine lv_pop (pc := 97) hx hb dX1_addLigature_97 rfl ?_
        refine lv_iload (pc := 98) hx hb dX1_addLigature_98 (lv_at hl 0 rfl) ?_
        have hef : ef_addLigature σ v f0 s0 t0 z0 = apS (apS (apS σ v (lg1 f0 s0 z0) f0 false 0) v (lg2 f0 s0 true z0) s0 false 1) v (lk s0 t0) t0 false 2 := by unfold ef_addLigature; rw [if_neg c1]
        have hIE := hI3
        rw [hσ3, hσ2, hσ1] at hP hD hIE
        simp only [apS_uB, uB_uB] at hP hD hIE
        rw [← hef] at hP hD hIE
        refine vx_ret ?_
        refine W.widen (k := 6) (n := 36) (Nat.le_of_ble_eq_true rfl) (Nat.le_of_ble_eq_true rfl) ?_
        exact W.iret hx hb hr (fun t ht hW => ⟨⟨_, u24, rfl, ⟨by simp only [cd_addLigature, hokv, hk1, hixv, hM, if_true, if_pos hk4], rfl, hIE⟩, by rw [ht]; exact hP, hD⟩, hS.F ht⟩) hS.2.2 dX1_addLigature_100
