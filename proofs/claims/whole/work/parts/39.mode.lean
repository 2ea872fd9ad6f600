/-! THE REFERENCE: calls that write -/
set_option maxHeartbeats 4000000 in
set_option maxRecDepth 100000 in
/-- addNote -/
theorem cX2_addNote_m (l : Launch) (g : GA) (A : Nat → Prop) (σ : St) (rest : va_W) (th : Int32) (mi ti : Nat → Int32) (p0 : Int32) (k0 : Int32) (q0 : Int32) (z0 : Bool) (hI : Inv σ) : Met l yX2_addNote wsX2_addNote ({ frames := 2, cells := 0, slots := 0, locals := 43 }) (va_Pc [.ref (gM g), .int p0, .int k0, .int q0, .int (bI z0)] (Cx g A (mw g σ th mi ti ++ rest))) (va_Qi (fun (r : Int32) (u : (Nat → Int32) × (Nat → Int32)) => cd_addNote σ p0 k0 q0 = 0 → r = nI (sC σ (ix p0))) (fun u t => kB g A (mw g (efs (cd_addNote σ p0 k0 q0) (apS σ (ix p0) (ix k0) q0 z0 (-1)) σ) (nI (cd_addNote σ p0 k0 q0)) u.1 u.2 ++ rest) t) A) 0 0 A := by
  refine Met.ofW (cc := cX2_addNote) (maxL := 5) (ret := (some .int)) (by decide) rfl ?_
  intro p e s m args below meth c s₁ B hml hv0
  obtain ⟨rfl, hP, hD, hA, hK, hX⟩ := hv0
  have hx := B.exec
  have hb := B.bytes
  have hr := B.returns
  have hts := atoms_spec (ws := wsX2_addNote) B.pre
  have hown : s.vm.findClass RX2 = some m.cls := findClass_of_methodNamed B.named
  have hlocks := B.notSynchronized
  have hS : va_S A s.heap s.heap [] := va_S.rf
  have hinX2 : ∀ w ∈ u_ws RX2 TX2 11, w ∈ wsX2_addNote := by decide +kernel
  have hl := lv_entry ([.ref (gM g), .int p0, .int k0, .int q0, .int (bI z0)]) (n := 5) (Nat.le_of_ble_eq_true rfl)
  rw [lg_entry_eq]
  generalize (lg_sl ([.ref (gM g), .int p0, .int k0, .int q0, .int (bI z0)]) ++ List.replicate (5 - (lg_sl ([.ref (gM g), .int p0, .int k0, .int q0, .int (bI z0)])).length) Slot.unset).toArray = ls at hl ⊢
  have hl : lv_has ls 5 [(0, .ref (gM g)), (1, .int p0), (2, .int k0), (3, .int q0), (4, .int (bI z0))] := hl
  refine lv_aload_n (pc := 0) hx hb dX2_addNote_0 rfl (lv_at hl 0 rfl) ?_
  refine lv_iconst (v := 0) (pc := 1) hx hb dX2_addNote_1 (by decide) ?_
  refine va_put (pc := 2) (D := gD g) (ci := 2) (v := .int 0) (ty := .int) (C := RX2) (T := TX2) (N := 11) hx hb hts hinX2 tyX2 tyX2_ok nmX2 hown hK hP hD hS 0 (ma0 g σ th mi ti rest) rfl 0 (by decide) (hts (.fieldLink RX2 38 "ChoirNotesModel" "thrown" "I") (by decide +kernel)) (fun _ h9 => h9) rfl (by decide +kernel) rfl rfl (Nat.le_of_ble_eq_true rfl) dX2_addNote_2 (fun H1 locs1 hP hD hS => ?_)
  have hP : va_P (gD g) vwCl (mw g σ 0 mi ti ++ rest) H1 := hP
  have hD : va_D A (mw g σ 0 mi ti ++ rest) := hD
  refine lv_aload_n (pc := 5) hx hb dX2_addNote_5 rfl (lv_at hl 0 rfl) ?_
  refine lv_iload_n (pc := 6) hx hb dX2_addNote_6 rfl (lv_at hl 1 rfl) ?_
  refine k_ri (pc := 7) (va_runV (As := [.int p0]) (rest := []) ⟨hx, hb, hml, hown, hts⟩ (cX2_isVoice_m l g A σ rest 0 mi ti p0 hI) (cwV 1 hts gX2_addNote_X2_isVoice rfl rfl rfl (by decide +kernel) ⟨Nat.le_of_ble_eq_true rfl, Nat.le_of_ble_eq_true rfl⟩) (cx_V (q0 := 0) (ci := 2) (r := (RX2, TX2, 11)) rfl (ma0 g σ 0 mi ti rest) hP hD hA hK hX hS) rfl rfl hl.1 rfl (lv_room (Nat.le_of_ble_eq_true rfl)) dX2_addNote_7 ⟨Nat.le_of_ble_eq_true rfl, Nat.le_of_ble_eq_true rfl⟩) (fun r_2 hr_2 => ?_)
  subst hr_2
  refine lv_if_ne (tgt := 19) (pc := 10) hx hb dX2_addNote_10 (by decide) (fun c1 => ?_) (fun c1 => ?_)
  · have c1 := bI_n0.mp c1
    obtain ⟨v, hvn, rfl⟩ := okV_o hI.N c1
    have hvv4 : v < 4 := hI.v4 hvn
    have hixv : ix (nI v) = v := ix_n (by omega)
    have hCv := hI.C v
    rw [hixv]
    refine lv_iload_n (pc := 19) hx hb dX2_addNote_19 rfl (lv_at hl 2 rfl) ?_
    refine lv_iconst (v := 0) (pc := 20) hx hb dX2_addNote_20 (by decide) ?_
    refine lv_iconst (v := 3) (pc := 21) hx hb dX2_addNote_21 (by decide) ?_
    refine k_ri (pc := 22) (va_runS (As := [.int k0, .int 0, .int 3]) (rest := []) ⟨hx, hb, hml, hown, hts⟩ (cX2_isIn_m l g A σ rest 0 mi ti k0 0 3) (va_cwS 3 hts gX2_addNote_X2_isIn rfl rfl rfl (by decide +kernel) ⟨Nat.le_of_ble_eq_true rfl, Nat.le_of_ble_eq_true rfl⟩) (cx_S hP hD hA hK hX hS) rfl rfl hl.1 rfl (lv_room (Nat.le_of_ble_eq_true rfl)) dX2_addNote_22 ⟨Nat.le_of_ble_eq_true rfl, Nat.le_of_ble_eq_true rfl⟩) (fun r_4 hr_4 => ?_)
    subst hr_4
    refine lv_if_eq (tgt := 38) (pc := 25) hx hb dX2_addNote_25 (by decide) (fun c2 => ?_) (fun c2 => ?_)
    · have c2 := bI_0.mp c2
      refine lv_aload_n (pc := 38) hx hb dX2_addNote_38 rfl (lv_at hl 0 rfl) ?_
      refine lv_iconst (v := 2) (pc := 39) hx hb dX2_addNote_39 (by decide) ?_
      refine va_calli (pc := 40) (va_runV (As := [.int 2]) (rest := []) ⟨hx, hb, hml, hown, hts⟩ (cX2_fail_m l g A σ rest 0 mi ti 2) (cwV 1 hts gX2_addNote_X2_fail rfl rfl rfl (by decide +kernel) ⟨Nat.le_of_ble_eq_true rfl, Nat.le_of_ble_eq_true rfl⟩) (cx_V (q0 := 0) (ci := 2) (r := (RX2, TX2, 11)) rfl (ma0 g σ 0 mi ti rest) hP hD hA hK hX hS) rfl rfl hl.1 rfl (lv_room (Nat.le_of_ble_eq_true rfl)) dX2_addNote_40 ⟨Nat.le_of_ble_eq_true rfl, Nat.le_of_ble_eq_true rfl⟩) hS (fun _ _ h => h) (fun _ h => h) (fun r_6 u7 t7 H7 locs7 ht7 hvm7 hw7 hB7 hz7 hk7 hS => ?_)
      obtain ⟨hP, hD⟩ := hB7
      rw [ht7] at hP
      subst hw7
      have hcd : cd_addNote σ (nI v) k0 q0 = 2 := by simp [cd_addNote, c1, hixv, c2]
      rw [hcd]
      exact W.iret hx hb hr (fun t ht hW => ⟨⟨_, (mi, ti), rfl, (fun q => absurd q (by decide)), by rw [ht]; exact hP, hD⟩, hS.F ht⟩) hS.2.2 dX2_addNote_43
    · have c2 := bI_n0.mp c2
      refine lv_iload_n (pc := 28) hx hb dX2_addNote_28 rfl (lv_at hl 3 rfl) ?_
      refine lv_iconst (v := 0) (pc := 29) hx hb dX2_addNote_29 (by decide) ?_
      refine lv_bipush (v := 9) (pc := 30) hx hb dX2_addNote_30 (by decide) ?_
      refine k_ri (pc := 32) (va_runS (As := [.int q0, .int 0, .int 9]) (rest := []) ⟨hx, hb, hml, hown, hts⟩ (cX2_isIn_m l g A σ rest 0 mi ti q0 0 9) (va_cwS 3 hts gX2_addNote_X2_isIn rfl rfl rfl (by decide +kernel) ⟨Nat.le_of_ble_eq_true rfl, Nat.le_of_ble_eq_true rfl⟩) (cx_S hP hD hA hK hX hS) rfl rfl hl.1 rfl (lv_room (Nat.le_of_ble_eq_true rfl)) dX2_addNote_32 ⟨Nat.le_of_ble_eq_true rfl, Nat.le_of_ble_eq_true rfl⟩) (fun r_8 hr_8 => ?_)
      subst hr_8
      refine lv_if_ne (tgt := 44) (pc := 35) hx hb dX2_addNote_35 (by decide) (fun c3 => ?_) (fun c3 => ?_)
      · have c3 := bI_n0.mp c3
        obtain ⟨k, -, hk3, rfl⟩ := inr_nat (a := 0) (b := 3) rfl rfl (by decide) (by decide) c2
        have hixk : ix (nI k) = k := ix_n (by omega)
        rw [hixk]
        refine lv_aload_n (pc := 44) hx hb dX2_addNote_44 rfl (lv_at hl 0 rfl) ?_
        refine va_get (v := .ref (gB g 0)) (pc := 45) (D := gD g) (ci := 2) (C := RX2) (T := TX2) (N := 11) hx hb hts hinX2 hown hK hP 0 (ma0 g σ 0 mi ti rest) rfl 2 (by decide) (hts (.fieldLink RX2 9 "ChoirNotesModel" "many" "[I") (by decide +kernel)) (fun _ h9 => h9) rfl dX2_addNote_45 ?_
        refine lv_iload_n (pc := 48) hx hb dX2_addNote_48 rfl (lv_at hl 1 rfl) ?_
        refine k_iald (pc := 49) (x := nI (sC σ v)) hx hb hK hP 1 0 (ma1 g σ 0 mi ti rest) rfl v rfl (by omega) (by decide) rfl dX2_addNote_49 ?_
        refine lv_bipush (v := 24) (pc := 50) hx hb dX2_addNote_50 (by decide) ?_
        refine lv_icmp_ne (tgt := 61) (pc := 52) hx hb dX2_addNote_52 (by decide) (fun c4 => ?_) (fun c4 => ?_)
        · have c4 : ¬ (sC σ v = 24) := fun z => c4 ((nI_eq (a := sC σ v) (b := 24) (by omega) (by omega)).mpr z)
          have hlt : sC σ v < 24 := by omega
          refine lv_aload_n (pc := 61) hx hb dX2_addNote_61 rfl (lv_at hl 0 rfl) ?_
          refine lv_iload_n (pc := 62) hx hb dX2_addNote_62 rfl (lv_at hl 1 rfl) ?_
          refine lv_iload_n (pc := 63) hx hb dX2_addNote_63 rfl (lv_at hl 2 rfl) ?_
          refine lv_iload_n (pc := 64) hx hb dX2_addNote_64 rfl (lv_at hl 3 rfl) ?_
          refine lv_iload (pc := 65) hx hb dX2_addNote_65 (lv_at hl 4 rfl) ?_
          refine lv_iconst (v := (-1)) (pc := 67) hx hb dX2_addNote_67 (by decide) ?_
          refine va_callv (pc := 68) (va_runV (As := [.int (nI v), .int (nI k), .int q0, .int (bI z0), .int ((-1))]) (rest := []) ⟨hx, hb, hml, hown, hts⟩ (cX2_put_m l g A σ rest 0 mi ti v k q0 z0 ((-1)) hvv4 hlt) (cwV 5 hts gX2_addNote_X2_put rfl rfl rfl (by decide +kernel) ⟨Nat.le_of_ble_eq_true rfl, Nat.le_of_ble_eq_true rfl⟩) (cx_V (q0 := 0) (ci := 2) (r := (RX2, TX2, 11)) rfl (ma0 g σ 0 mi ti rest) hP hD hA hK hX hS) rfl rfl hl.1 rfl (lv_room (Nat.le_of_ble_eq_true rfl)) dX2_addNote_68 ⟨Nat.le_of_ble_eq_true rfl, Nat.le_of_ble_eq_true rfl⟩) hS (fun _ _ h => h) (fun _ h => h) (fun u12 t12 H12 locs12 ht12 hvm12 hw12 hB12 hz12 hk12 hS => ?_)
          obtain ⟨hP, hD⟩ := hB12
          rw [ht12] at hP
          refine lv_aload_n (pc := 71) hx hb dX2_addNote_71 rfl (lv_at hl 0 rfl) ?_
          refine va_get (v := .ref (gB g 0)) (pc := 72) (D := gD g) (ci := 2) (C := RX2) (T := TX2) (N := 11) hx hb hts hinX2 hown hK hP 0 (ma0 g (apS σ v k q0 z0 ((-1))) 0 mi ti rest) rfl 2 (by decide) (hts (.fieldLink RX2 9 "ChoirNotesModel" "many" "[I") (by decide +kernel)) (fun _ h9 => h9) rfl dX2_addNote_72 ?_
          refine lv_iload_n (pc := 75) hx hb dX2_addNote_75 rfl (lv_at hl 1 rfl) ?_
          refine k_iald (pc := 76) (x := nI (sC σ v + 1)) hx hb hK hP 1 0 (ma1 g (apS σ v k q0 z0 ((-1))) 0 mi ti rest) rfl v rfl (by omega) (by decide) (congrArg nI (by simp only [sC_apS, up1_s])) dX2_addNote_76 ?_
          refine lv_iconst (v := 1) (pc := 77) hx hb dX2_addNote_77 (by decide) ?_
          refine lv_isub (pc := 78) hx hb dX2_addNote_78 ?_
          refine k_cong (y := nI (sC σ v)) (nI_pred _) ?_
          have hcd : cd_addNote σ (nI v) (nI k) q0 = 0 := by simp [cd_addNote, c1, hixv, c2, c3, hlt]
          rw [hcd]
          exact W.iret hx hb hr (fun t ht hW => ⟨⟨_, (mi, ti), rfl, (fun _ => rfl), by rw [ht]; exact hP, hD⟩, hS.F ht⟩) hS.2.2 dX2_addNote_79
        · have c4 : sC σ v = 24 := (nI_eq (a := sC σ v) (b := 24) (by omega) (by omega)).mp c4
          have hlt : ¬ sC σ v < 24 := by omega
          refine lv_aload_n (pc := 55) hx hb dX2_addNote_55 rfl (lv_at hl 0 rfl) ?_
          refine lv_iconst (v := 3) (pc := 56) hx hb dX2_addNote_56 (by decide) ?_
          refine va_calli (pc := 57) (va_runV (As := [.int 3]) (rest := []) ⟨hx, hb, hml, hown, hts⟩ (cX2_fail_m l g A σ rest 0 mi ti 3) (cwV 1 hts gX2_addNote_X2_fail rfl rfl rfl (by decide +kernel) ⟨Nat.le_of_ble_eq_true rfl, Nat.le_of_ble_eq_true rfl⟩) (cx_V (q0 := 0) (ci := 2) (r := (RX2, TX2, 11)) rfl (ma0 g σ 0 mi ti rest) hP hD hA hK hX hS) rfl rfl hl.1 rfl (lv_room (Nat.le_of_ble_eq_true rfl)) dX2_addNote_57 ⟨Nat.le_of_ble_eq_true rfl, Nat.le_of_ble_eq_true rfl⟩) hS (fun _ _ h => h) (fun _ h => h) (fun r_13 u14 t14 H14 locs14 ht14 hvm14 hw14 hB14 hz14 hk14 hS => ?_)
          obtain ⟨hP, hD⟩ := hB14
          rw [ht14] at hP
          subst hw14
          have hcd : cd_addNote σ (nI v) (nI k) q0 = 3 := by simp [cd_addNote, c1, hixv, c2, c3, hlt]
          rw [hcd]
          exact W.iret hx hb hr (fun t ht hW => ⟨⟨_, (mi, ti), rfl, (fun q => absurd q (by decide)), by rw [ht]; exact hP, hD⟩, hS.F ht⟩) hS.2.2 dX2_addNote_60
      · have c3 := bI_0.mp c3
        refine lv_aload_n (pc := 38) hx hb dX2_addNote_38 rfl (lv_at hl 0 rfl) ?_
        refine lv_iconst (v := 2) (pc := 39) hx hb dX2_addNote_39 (by decide) ?_
        refine va_calli (pc := 40) (va_runV (As := [.int 2]) (rest := []) ⟨hx, hb, hml, hown, hts⟩ (cX2_fail_m l g A σ rest 0 mi ti 2) (cwV 1 hts gX2_addNote_X2_fail rfl rfl rfl (by decide +kernel) ⟨Nat.le_of_ble_eq_true rfl, Nat.le_of_ble_eq_true rfl⟩) (cx_V (q0 := 0) (ci := 2) (r := (RX2, TX2, 11)) rfl (ma0 g σ 0 mi ti rest) hP hD hA hK hX hS) rfl rfl hl.1 rfl (lv_room (Nat.le_of_ble_eq_true rfl)) dX2_addNote_40 ⟨Nat.le_of_ble_eq_true rfl, Nat.le_of_ble_eq_true rfl⟩) hS (fun _ _ h => h) (fun _ h => h) (fun r_15 u16 t16 H16 locs16 ht16 hvm16 hw16 hB16 hz16 hk16 hS => ?_)
        obtain ⟨hP, hD⟩ := hB16
        rw [ht16] at hP
        subst hw16
        have hcd : cd_addNote σ (nI v) k0 q0 = 2 := by simp [cd_addNote, c1, hixv, c2, c3]
        rw [hcd]
        exact W.iret hx hb hr (fun t ht hW => ⟨⟨_, (mi, ti), rfl, (fun q => absurd q (by decide)), by rw [ht]; exact hP, hD⟩, hS.F ht⟩) hS.2.2 dX2_addNote_43
  · have c1 := bI_0.mp c1
    refine lv_aload_n (pc := 13) hx hb dX2_addNote_13 rfl (lv_at hl 0 rfl) ?_
    refine lv_iconst (v := 1) (pc := 14) hx hb dX2_addNote_14 (by decide) ?_
    refine va_calli (pc := 15) (va_runV (As := [.int 1]) (rest := []) ⟨hx, hb, hml, hown, hts⟩ (cX2_fail_m l g A σ rest 0 mi ti 1) (cwV 1 hts gX2_addNote_X2_fail rfl rfl rfl (by decide +kernel) ⟨Nat.le_of_ble_eq_true rfl, Nat.le_of_ble_eq_true rfl⟩) (cx_V (q0 := 0) (ci := 2) (r := (RX2, TX2, 11)) rfl (ma0 g σ 0 mi ti rest) hP hD hA hK hX hS) rfl rfl hl.1 rfl (lv_room (Nat.le_of_ble_eq_true rfl)) dX2_addNote_15 ⟨Nat.le_of_ble_eq_true rfl, Nat.le_of_ble_eq_true rfl⟩) hS (fun _ _ h => h) (fun _ h => h) (fun r_17 u18 t18 H18 locs18 ht18 hvm18 hw18 hB18 hz18 hk18 hS => ?_)
    obtain ⟨hP, hD⟩ := hB18
    rw [ht18] at hP
    subst hw18
    have hcd : cd_addNote σ p0 k0 q0 = 1 := by simp [cd_addNote, c1]
    rw [hcd]
    exact W.iret hx hb hr (fun t ht hW => ⟨⟨_, (mi, ti), rfl, (fun q => absurd q (by decide)), by rw [ht]; exact hP, hD⟩, hS.F ht⟩) hS.2.2 dX2_addNote_18
set_option maxHeartbeats 4000000 in
set_option maxRecDepth 100000 in
/-- addRest -/
theorem cX2_addRest_m (l : Launch) (g : GA) (A : Nat → Prop) (σ : St) (rest : va_W) (th : Int32) (mi ti : Nat → Int32) (p0 : Int32) (k0 : Int32) (hI : Inv σ) : Met l yX2_addRest wsX2_addRest ({ frames := 2, cells := 0, slots := 0, locals := 43 }) (va_Pc [.ref (gM g), .int p0, .int k0] (Cx g A (mw g σ th mi ti ++ rest))) (va_Qi (fun (r : Int32) (u : (Nat → Int32) × (Nat → Int32)) => cd_addRest σ p0 k0 = 0 → r = nI (sC σ (ix p0))) (fun u t => kB g A (mw g (efs (cd_addRest σ p0 k0) (apS σ (ix p0) (ix k0) (-1) false (-1)) σ) (nI (cd_addRest σ p0 k0)) u.1 u.2 ++ rest) t) A) 0 0 A := by
  refine Met.ofW (cc := cX2_addRest) (maxL := 3) (ret := (some .int)) (by decide) rfl ?_
  intro p e s m args below meth c s₁ B hml hv0
  obtain ⟨rfl, hP, hD, hA, hK, hX⟩ := hv0
  have hx := B.exec
  have hb := B.bytes
  have hr := B.returns
  have hts := atoms_spec (ws := wsX2_addRest) B.pre
  have hown : s.vm.findClass RX2 = some m.cls := findClass_of_methodNamed B.named
  have hlocks := B.notSynchronized
  have hS : va_S A s.heap s.heap [] := va_S.rf
  have hinX2 : ∀ w ∈ u_ws RX2 TX2 11, w ∈ wsX2_addRest := by decide +kernel
  have hl := lv_entry ([.ref (gM g), .int p0, .int k0]) (n := 3) (Nat.le_of_ble_eq_true rfl)
  rw [lg_entry_eq]
  generalize (lg_sl ([.ref (gM g), .int p0, .int k0]) ++ List.replicate (3 - (lg_sl ([.ref (gM g), .int p0, .int k0])).length) Slot.unset).toArray = ls at hl ⊢
  have hl : lv_has ls 3 [(0, .ref (gM g)), (1, .int p0), (2, .int k0)] := hl
  refine lv_aload_n (pc := 0) hx hb dX2_addRest_0 rfl (lv_at hl 0 rfl) ?_
  refine lv_iconst (v := 0) (pc := 1) hx hb dX2_addRest_1 (by decide) ?_
  refine va_put (pc := 2) (D := gD g) (ci := 2) (v := .int 0) (ty := .int) (C := RX2) (T := TX2) (N := 11) hx hb hts hinX2 tyX2 tyX2_ok nmX2 hown hK hP hD hS 0 (ma0 g σ th mi ti rest) rfl 0 (by decide) (hts (.fieldLink RX2 38 "ChoirNotesModel" "thrown" "I") (by decide +kernel)) (fun _ h9 => h9) rfl (by decide +kernel) rfl rfl (Nat.le_of_ble_eq_true rfl) dX2_addRest_2 (fun H1 locs1 hP hD hS => ?_)
  have hP : va_P (gD g) vwCl (mw g σ 0 mi ti ++ rest) H1 := hP
  have hD : va_D A (mw g σ 0 mi ti ++ rest) := hD
  refine lv_aload_n (pc := 5) hx hb dX2_addRest_5 rfl (lv_at hl 0 rfl) ?_
  refine lv_iload_n (pc := 6) hx hb dX2_addRest_6 rfl (lv_at hl 1 rfl) ?_
  refine k_ri (pc := 7) (va_runV (As := [.int p0]) (rest := []) ⟨hx, hb, hml, hown, hts⟩ (cX2_isVoice_m l g A σ rest 0 mi ti p0 hI) (cwV 1 hts gX2_addRest_X2_isVoice rfl rfl rfl (by decide +kernel) ⟨Nat.le_of_ble_eq_true rfl, Nat.le_of_ble_eq_true rfl⟩) (cx_V (q0 := 0) (ci := 2) (r := (RX2, TX2, 11)) rfl (ma0 g σ 0 mi ti rest) hP hD hA hK hX hS) rfl rfl hl.1 rfl (lv_room (Nat.le_of_ble_eq_true rfl)) dX2_addRest_7 ⟨Nat.le_of_ble_eq_true rfl, Nat.le_of_ble_eq_true rfl⟩) (fun r_2 hr_2 => ?_)
  subst hr_2
  refine lv_if_ne (tgt := 19) (pc := 10) hx hb dX2_addRest_10 (by decide) (fun c1 => ?_) (fun c1 => ?_)
  · have c1 := bI_n0.mp c1
    obtain ⟨v, hvn, rfl⟩ := okV_o hI.N c1
    have hvv4 : v < 4 := hI.v4 hvn
    have hixv : ix (nI v) = v := ix_n (by omega)
    have hCv := hI.C v
    rw [hixv]
    refine lv_iload_n (pc := 19) hx hb dX2_addRest_19 rfl (lv_at hl 2 rfl) ?_
    refine lv_iconst (v := 0) (pc := 20) hx hb dX2_addRest_20 (by decide) ?_
    refine lv_iconst (v := 3) (pc := 21) hx hb dX2_addRest_21 (by decide) ?_
    refine k_ri (pc := 22) (va_runS (As := [.int k0, .int 0, .int 3]) (rest := []) ⟨hx, hb, hml, hown, hts⟩ (cX2_isIn_m l g A σ rest 0 mi ti k0 0 3) (va_cwS 3 hts gX2_addRest_X2_isIn rfl rfl rfl (by decide +kernel) ⟨Nat.le_of_ble_eq_true rfl, Nat.le_of_ble_eq_true rfl⟩) (cx_S hP hD hA hK hX hS) rfl rfl hl.1 rfl (lv_room (Nat.le_of_ble_eq_true rfl)) dX2_addRest_22 ⟨Nat.le_of_ble_eq_true rfl, Nat.le_of_ble_eq_true rfl⟩) (fun r_4 hr_4 => ?_)
    subst hr_4
    refine lv_if_ne (tgt := 34) (pc := 25) hx hb dX2_addRest_25 (by decide) (fun c2 => ?_) (fun c2 => ?_)
    · have c2 := bI_n0.mp c2
      obtain ⟨k, -, hk3, rfl⟩ := inr_nat (a := 0) (b := 3) rfl rfl (by decide) (by decide) c2
      have hixk : ix (nI k) = k := ix_n (by omega)
      rw [hixk]
      refine lv_aload_n (pc := 34) hx hb dX2_addRest_34 rfl (lv_at hl 0 rfl) ?_
      refine va_get (v := .ref (gB g 0)) (pc := 35) (D := gD g) (ci := 2) (C := RX2) (T := TX2) (N := 11) hx hb hts hinX2 hown hK hP 0 (ma0 g σ 0 mi ti rest) rfl 2 (by decide) (hts (.fieldLink RX2 9 "ChoirNotesModel" "many" "[I") (by decide +kernel)) (fun _ h9 => h9) rfl dX2_addRest_35 ?_
      refine lv_iload_n (pc := 38) hx hb dX2_addRest_38 rfl (lv_at hl 1 rfl) ?_
      refine k_iald (pc := 39) (x := nI (sC σ v)) hx hb hK hP 1 0 (ma1 g σ 0 mi ti rest) rfl v rfl (by omega) (by decide) rfl dX2_addRest_39 ?_
      refine lv_bipush (v := 24) (pc := 40) hx hb dX2_addRest_40 (by decide) ?_
      refine lv_icmp_ne (tgt := 51) (pc := 42) hx hb dX2_addRest_42 (by decide) (fun c4 => ?_) (fun c4 => ?_)
      · have c4 : ¬ (sC σ v = 24) := fun z => c4 ((nI_eq (a := sC σ v) (b := 24) (by omega) (by omega)).mpr z)
        have hlt : sC σ v < 24 := by omega
        refine lv_aload_n (pc := 51) hx hb dX2_addRest_51 rfl (lv_at hl 0 rfl) ?_
        refine lv_iload_n (pc := 52) hx hb dX2_addRest_52 rfl (lv_at hl 1 rfl) ?_
        refine lv_iload_n (pc := 53) hx hb dX2_addRest_53 rfl (lv_at hl 2 rfl) ?_
        refine lv_iconst (v := (-1)) (pc := 54) hx hb dX2_addRest_54 (by decide) ?_
        refine lv_iconst (v := 0) (pc := 55) hx hb dX2_addRest_55 (by decide) ?_
        refine lv_iconst (v := (-1)) (pc := 56) hx hb dX2_addRest_56 (by decide) ?_
        refine va_callv (pc := 57) (va_runV (As := [.int (nI v), .int (nI k), .int ((-1)), .int 0, .int ((-1))]) (rest := []) ⟨hx, hb, hml, hown, hts⟩ (cX2_put_m l g A σ rest 0 mi ti v k ((-1)) false ((-1)) hvv4 hlt) (cwV 5 hts gX2_addRest_X2_put rfl rfl rfl (by decide +kernel) ⟨Nat.le_of_ble_eq_true rfl, Nat.le_of_ble_eq_true rfl⟩) (cx_V (q0 := 0) (ci := 2) (r := (RX2, TX2, 11)) rfl (ma0 g σ 0 mi ti rest) hP hD hA hK hX hS) rfl rfl hl.1 rfl (lv_room (Nat.le_of_ble_eq_true rfl)) dX2_addRest_57 ⟨Nat.le_of_ble_eq_true rfl, Nat.le_of_ble_eq_true rfl⟩) hS (fun _ _ h => h) (fun _ h => h) (fun u8 t8 H8 locs8 ht8 hvm8 hw8 hB8 hz8 hk8 hS => ?_)
        obtain ⟨hP, hD⟩ := hB8
        rw [ht8] at hP
        refine lv_aload_n (pc := 60) hx hb dX2_addRest_60 rfl (lv_at hl 0 rfl) ?_
        refine va_get (v := .ref (gB g 0)) (pc := 61) (D := gD g) (ci := 2) (C := RX2) (T := TX2) (N := 11) hx hb hts hinX2 hown hK hP 0 (ma0 g (apS σ v k ((-1)) false ((-1))) 0 mi ti rest) rfl 2 (by decide) (hts (.fieldLink RX2 9 "ChoirNotesModel" "many" "[I") (by decide +kernel)) (fun _ h9 => h9) rfl dX2_addRest_61 ?_
        refine lv_iload_n (pc := 64) hx hb dX2_addRest_64 rfl (lv_at hl 1 rfl) ?_
        refine k_iald (pc := 65) (x := nI (sC σ v + 1)) hx hb hK hP 1 0 (ma1 g (apS σ v k ((-1)) false ((-1))) 0 mi ti rest) rfl v rfl (by omega) (by decide) (congrArg nI (by simp only [sC_apS, up1_s])) dX2_addRest_65 ?_
        refine lv_iconst (v := 1) (pc := 66) hx hb dX2_addRest_66 (by decide) ?_
        refine lv_isub (pc := 67) hx hb dX2_addRest_67 ?_
        refine k_cong (y := nI (sC σ v)) (nI_pred _) ?_
        have hcd : cd_addRest σ (nI v) (nI k) = 0 := by simp [cd_addRest, c1, hixv, c2, hlt]
        rw [hcd]
        exact W.iret hx hb hr (fun t ht hW => ⟨⟨_, (mi, ti), rfl, (fun _ => rfl), by rw [ht]; exact hP, hD⟩, hS.F ht⟩) hS.2.2 dX2_addRest_68
      · have c4 : sC σ v = 24 := (nI_eq (a := sC σ v) (b := 24) (by omega) (by omega)).mp c4
        have hlt : ¬ sC σ v < 24 := by omega
        refine lv_aload_n (pc := 45) hx hb dX2_addRest_45 rfl (lv_at hl 0 rfl) ?_
        refine lv_iconst (v := 3) (pc := 46) hx hb dX2_addRest_46 (by decide) ?_
        refine va_calli (pc := 47) (va_runV (As := [.int 3]) (rest := []) ⟨hx, hb, hml, hown, hts⟩ (cX2_fail_m l g A σ rest 0 mi ti 3) (cwV 1 hts gX2_addRest_X2_fail rfl rfl rfl (by decide +kernel) ⟨Nat.le_of_ble_eq_true rfl, Nat.le_of_ble_eq_true rfl⟩) (cx_V (q0 := 0) (ci := 2) (r := (RX2, TX2, 11)) rfl (ma0 g σ 0 mi ti rest) hP hD hA hK hX hS) rfl rfl hl.1 rfl (lv_room (Nat.le_of_ble_eq_true rfl)) dX2_addRest_47 ⟨Nat.le_of_ble_eq_true rfl, Nat.le_of_ble_eq_true rfl⟩) hS (fun _ _ h => h) (fun _ h => h) (fun r_9 u10 t10 H10 locs10 ht10 hvm10 hw10 hB10 hz10 hk10 hS => ?_)
        obtain ⟨hP, hD⟩ := hB10
        rw [ht10] at hP
        subst hw10
        have hcd : cd_addRest σ (nI v) (nI k) = 3 := by simp [cd_addRest, c1, hixv, c2, hlt]
        rw [hcd]
        exact W.iret hx hb hr (fun t ht hW => ⟨⟨_, (mi, ti), rfl, (fun q => absurd q (by decide)), by rw [ht]; exact hP, hD⟩, hS.F ht⟩) hS.2.2 dX2_addRest_50
    · have c2 := bI_0.mp c2
      refine lv_aload_n (pc := 28) hx hb dX2_addRest_28 rfl (lv_at hl 0 rfl) ?_
      refine lv_iconst (v := 2) (pc := 29) hx hb dX2_addRest_29 (by decide) ?_
      refine va_calli (pc := 30) (va_runV (As := [.int 2]) (rest := []) ⟨hx, hb, hml, hown, hts⟩ (cX2_fail_m l g A σ rest 0 mi ti 2) (cwV 1 hts gX2_addRest_X2_fail rfl rfl rfl (by decide +kernel) ⟨Nat.le_of_ble_eq_true rfl, Nat.le_of_ble_eq_true rfl⟩) (cx_V (q0 := 0) (ci := 2) (r := (RX2, TX2, 11)) rfl (ma0 g σ 0 mi ti rest) hP hD hA hK hX hS) rfl rfl hl.1 rfl (lv_room (Nat.le_of_ble_eq_true rfl)) dX2_addRest_30 ⟨Nat.le_of_ble_eq_true rfl, Nat.le_of_ble_eq_true rfl⟩) hS (fun _ _ h => h) (fun _ h => h) (fun r_11 u12 t12 H12 locs12 ht12 hvm12 hw12 hB12 hz12 hk12 hS => ?_)
      obtain ⟨hP, hD⟩ := hB12
      rw [ht12] at hP
      subst hw12
      have hcd : cd_addRest σ (nI v) k0 = 2 := by simp [cd_addRest, c1, hixv, c2]
      rw [hcd]
      exact W.iret hx hb hr (fun t ht hW => ⟨⟨_, (mi, ti), rfl, (fun q => absurd q (by decide)), by rw [ht]; exact hP, hD⟩, hS.F ht⟩) hS.2.2 dX2_addRest_33
  · have c1 := bI_0.mp c1
    refine lv_aload_n (pc := 13) hx hb dX2_addRest_13 rfl (lv_at hl 0 rfl) ?_
    refine lv_iconst (v := 1) (pc := 14) hx hb dX2_addRest_14 (by decide) ?_
    refine va_calli (pc := 15) (va_runV (As := [.int 1]) (rest := []) ⟨hx, hb, hml, hown, hts⟩ (cX2_fail_m l g A σ rest 0 mi ti 1) (cwV 1 hts gX2_addRest_X2_fail rfl rfl rfl (by decide +kernel) ⟨Nat.le_of_ble_eq_true rfl, Nat.le_of_ble_eq_true rfl⟩) (cx_V (q0 := 0) (ci := 2) (r := (RX2, TX2, 11)) rfl (ma0 g σ 0 mi ti rest) hP hD hA hK hX hS) rfl rfl hl.1 rfl (lv_room (Nat.le_of_ble_eq_true rfl)) dX2_addRest_15 ⟨Nat.le_of_ble_eq_true rfl, Nat.le_of_ble_eq_true rfl⟩) hS (fun _ _ h => h) (fun _ h => h) (fun r_13 u14 t14 H14 locs14 ht14 hvm14 hw14 hB14 hz14 hk14 hS => ?_)
    obtain ⟨hP, hD⟩ := hB14
    rw [ht14] at hP
    subst hw14
    have hcd : cd_addRest σ p0 k0 = 1 := by simp [cd_addRest, c1]
    rw [hcd]
    exact W.iret hx hb hr (fun t ht hW => ⟨⟨_, (mi, ti), rfl, (fun q => absurd q (by decide)), by rw [ht]; exact hP, hD⟩, hS.F ht⟩) hS.2.2 dX2_addRest_18
set_option maxHeartbeats 4000000 in
set_option maxRecDepth 100000 in
/-- erase -/
theorem cX2_erase_m (l : Launch) (g : GA) (A : Nat → Prop) (σ : St) (rest : va_W) (th : Int32) (mi ti : Nat → Int32) (p0 : Int32) (hI : Inv σ) : Met l yX2_erase wsX2_erase ({ frames := 2, cells := 0, slots := 0, locals := 43 }) (va_Pc [.ref (gM g), .int p0] (Cx g A (mw g σ th mi ti ++ rest))) (va_Qi (fun (r : Int32) (u : (Nat → Int32) × (Nat → Int32)) => cd_erase σ p0 = 0 → r = nI (drN (sT σ (ix p0) (sC σ (ix p0) - 1)))) (fun u t => kB g A (mw g (efs (cd_erase σ p0) (uC σ (ix p0) (sC σ (ix p0) - drN (sT σ (ix p0) (sC σ (ix p0) - 1)))) σ) (nI (cd_erase σ p0)) u.1 u.2 ++ rest) t) A) 0 0 A := by
  refine Met.ofW (cc := cX2_erase) (maxL := 3) (ret := (some .int)) (by decide) rfl ?_
  intro p e s m args below meth c s₁ B hml hv0
  obtain ⟨rfl, hP, hD, hA, hK, hX⟩ := hv0
  have hx := B.exec
  have hb := B.bytes
  have hr := B.returns
  have hts := atoms_spec (ws := wsX2_erase) B.pre
  have hown : s.vm.findClass RX2 = some m.cls := findClass_of_methodNamed B.named
  have hlocks := B.notSynchronized
  have hS : va_S A s.heap s.heap [] := va_S.rf
  have hinX2 : ∀ w ∈ u_ws RX2 TX2 11, w ∈ wsX2_erase := by decide +kernel
  have hl := lv_entry ([.ref (gM g), .int p0]) (n := 3) (Nat.le_of_ble_eq_true rfl)
  rw [lg_entry_eq]
  generalize (lg_sl ([.ref (gM g), .int p0]) ++ List.replicate (3 - (lg_sl ([.ref (gM g), .int p0])).length) Slot.unset).toArray = ls at hl ⊢
  have hl : lv_has ls 3 [(0, .ref (gM g)), (1, .int p0)] := hl
  refine lv_aload_n (pc := 0) hx hb dX2_erase_0 rfl (lv_at hl 0 rfl) ?_
  refine lv_iconst (v := 0) (pc := 1) hx hb dX2_erase_1 (by decide) ?_
  refine va_put (pc := 2) (D := gD g) (ci := 2) (v := .int 0) (ty := .int) (C := RX2) (T := TX2) (N := 11) hx hb hts hinX2 tyX2 tyX2_ok nmX2 hown hK hP hD hS 0 (ma0 g σ th mi ti rest) rfl 0 (by decide) (hts (.fieldLink RX2 38 "ChoirNotesModel" "thrown" "I") (by decide +kernel)) (fun _ h9 => h9) rfl (by decide +kernel) rfl rfl (Nat.le_of_ble_eq_true rfl) dX2_erase_2 (fun H1 locs1 hP hD hS => ?_)
  have hP : va_P (gD g) vwCl (mw g σ 0 mi ti ++ rest) H1 := hP
  have hD : va_D A (mw g σ 0 mi ti ++ rest) := hD
  refine lv_aload_n (pc := 5) hx hb dX2_erase_5 rfl (lv_at hl 0 rfl) ?_
  refine lv_iload_n (pc := 6) hx hb dX2_erase_6 rfl (lv_at hl 1 rfl) ?_
  refine k_ri (pc := 7) (va_runV (As := [.int p0]) (rest := []) ⟨hx, hb, hml, hown, hts⟩ (cX2_isVoice_m l g A σ rest 0 mi ti p0 hI) (cwV 1 hts gX2_erase_X2_isVoice rfl rfl rfl (by decide +kernel) ⟨Nat.le_of_ble_eq_true rfl, Nat.le_of_ble_eq_true rfl⟩) (cx_V (q0 := 0) (ci := 2) (r := (RX2, TX2, 11)) rfl (ma0 g σ 0 mi ti rest) hP hD hA hK hX hS) rfl rfl hl.1 rfl (lv_room (Nat.le_of_ble_eq_true rfl)) dX2_erase_7 ⟨Nat.le_of_ble_eq_true rfl, Nat.le_of_ble_eq_true rfl⟩) (fun r_2 hr_2 => ?_)
  subst hr_2
  refine lv_if_ne (tgt := 19) (pc := 10) hx hb dX2_erase_10 (by decide) (fun c1 => ?_) (fun c1 => ?_)
  · have c1 := bI_n0.mp c1
    obtain ⟨v, hvn, rfl⟩ := okV_o hI.N c1
    have hvv4 : v < 4 := hI.v4 hvn
    have hixv : ix (nI v) = v := ix_n (by omega)
    have hCv := hI.C v
    rw [hixv]
    refine lv_aload_n (pc := 19) hx hb dX2_erase_19 rfl (lv_at hl 0 rfl) ?_
    refine va_get (v := .ref (gB g 0)) (pc := 20) (D := gD g) (ci := 2) (C := RX2) (T := TX2) (N := 11) hx hb hts hinX2 hown hK hP 0 (ma0 g σ 0 mi ti rest) rfl 2 (by decide) (hts (.fieldLink RX2 9 "ChoirNotesModel" "many" "[I") (by decide +kernel)) (fun _ h9 => h9) rfl dX2_erase_20 ?_
    refine lv_iload_n (pc := 23) hx hb dX2_erase_23 rfl (lv_at hl 1 rfl) ?_
    refine k_iald (pc := 24) (x := nI (sC σ v)) hx hb hK hP 1 0 (ma1 g σ 0 mi ti rest) rfl v rfl (by omega) (by decide) rfl dX2_erase_24 ?_
    refine lv_if_ne (tgt := 34) (pc := 25) hx hb dX2_erase_25 (by decide) (fun c2 => ?_) (fun c2 => ?_)
    · have c2 : ¬ (sC σ v = 0) := fun z => c2 ((nI_eq (a := sC σ v) (b := 0) (by omega) (by omega)).mpr z)
      have hpos : 0 < sC σ v := by omega
      obtain ⟨hd1, hd2⟩ := drN_in hI hpos
      refine lv_iconst (v := 0) (pc := 34) hx hb dX2_erase_34 (by decide) ?_
      refine lv_aload_n (pc := 35) hx hb dX2_erase_35 rfl (lv_at hl 0 rfl) ?_
      refine va_get (v := .ref (gB g 6)) (pc := 36) (D := gD g) (ci := 2) (C := RX2) (T := TX2) (N := 11) hx hb hts hinX2 hown hK hP 0 (ma0 g σ 0 mi ti rest) rfl 8 (by decide) (hts (.fieldLink RX2 29 "ChoirNotesModel" "tied" "[I") (by decide +kernel)) (fun _ h9 => h9) rfl dX2_erase_36 ?_
      refine lv_bipush (v := 24) (pc := 39) hx hb dX2_erase_39 (by decide) ?_
      refine lv_iload_n (pc := 41) hx hb dX2_erase_41 rfl (lv_at hl 1 rfl) ?_
      refine lv_imul (pc := 42) hx hb dX2_erase_42 ?_
      refine k_cong (y := nI (24 * v)) (pk_mul 24 v) ?_
      refine lv_aload_n (pc := 43) hx hb dX2_erase_43 rfl (lv_at hl 0 rfl) ?_
      refine va_get (v := .ref (gB g 0)) (pc := 44) (D := gD g) (ci := 2) (C := RX2) (T := TX2) (N := 11) hx hb hts hinX2 hown hK hP 0 (ma0 g σ 0 mi ti rest) rfl 2 (by decide) (hts (.fieldLink RX2 9 "ChoirNotesModel" "many" "[I") (by decide +kernel)) (fun _ h9 => h9) rfl dX2_erase_44 ?_
      refine lv_iload_n (pc := 47) hx hb dX2_erase_47 rfl (lv_at hl 1 rfl) ?_
      refine k_iald (pc := 48) (x := nI (sC σ v)) hx hb hK hP 1 0 (ma1 g σ 0 mi ti rest) rfl v rfl (by omega) (by decide) rfl dX2_erase_48 ?_
      refine lv_iadd (pc := 49) hx hb dX2_erase_49 ?_
      refine k_cong (y := nI (24 * v + (sC σ v))) (nI_add (24 * v) (sC σ v)) ?_
      refine lv_iconst (v := 1) (pc := 50) hx hb dX2_erase_50 (by decide) ?_
      refine lv_isub (pc := 51) hx hb dX2_erase_51 ?_
      refine k_cong (y := nI (24 * v + (sC σ v - 1))) (by rw [show (1 : Int32) = nI 1 from rfl, pk_sub (by omega)]; exact congrArg nI (by omega)) ?_
      refine k_iald (pc := 52) (x := sT σ v (sC σ v - 1)) hx hb hK hP 7 0 (ma7 g σ 0 mi ti rest) rfl (24 * v + (sC σ v - 1)) rfl (by omega) (by decide) (a24 (sT σ) (by omega)) dX2_erase_52 ?_
      refine va_mmax (pc := 53) hx hb (hml.trans hl.1.symm) hown (hts (.methodLink RX2 87 Lib.Math.max.name) (by decide +kernel)) (hts (.static Lib.Math.max.name) (by decide +kernel)) (hts (.initialized "java/lang/Math") (by decide +kernel)) (hts (.code Lib.Math.max.name Lib.Math.max.code 2 (some .int)) (by decide +kernel)) (Nat.le_of_ble_eq_true rfl) (Nat.le_of_ble_eq_true rfl) (Nat.le_of_ble_eq_true rfl) (Nat.le_of_ble_eq_true rfl) dX2_erase_53 ?_
      refine lv_iconst (v := 1) (pc := 56) hx hb dX2_erase_56 (by decide) ?_
      refine lv_iadd (pc := 57) hx hb dX2_erase_57 ?_
      refine k_cong (y := nI (drN (sT σ v (sC σ v - 1)))) (drM hd1) ?_
      refine lv_istore_n (lv' := [(2, .int (nI (drN (sT σ v (sC σ v - 1))))), (0, .ref (gM g)), (1, .int (nI v))]) (pc := 58) hx hb dX2_erase_58 rfl hl (by decide) rfl (fun ls hl => ?_)
      refine lv_aload_n (pc := 59) hx hb dX2_erase_59 rfl (lv_at hl 1 rfl) ?_
      refine va_get (v := .ref (gB g 0)) (pc := 60) (D := gD g) (ci := 2) (C := RX2) (T := TX2) (N := 11) hx hb hts hinX2 hown hK hP 0 (ma0 g σ 0 mi ti rest) rfl 2 (by decide) (hts (.fieldLink RX2 9 "ChoirNotesModel" "many" "[I") (by decide +kernel)) (fun _ h9 => h9) rfl dX2_erase_60 ?_
      refine lv_iload_n (pc := 63) hx hb dX2_erase_63 rfl (lv_at hl 2 rfl) ?_
      refine lv_dup2_11 (pc := 64) hx hb dX2_erase_64 rfl rfl ?_
      refine k_iald (pc := 65) (x := nI (sC σ v)) hx hb hK hP 1 0 (ma1 g σ 0 mi ti rest) rfl v rfl (by omega) (by decide) rfl dX2_erase_65 ?_
      refine lv_iload_n (pc := 66) hx hb dX2_erase_66 rfl (lv_at hl 0 rfl) ?_
      refine lv_isub (pc := 67) hx hb dX2_erase_67 ?_
      refine k_cong (y := nI (sC σ v - drN (sT σ v (sC σ v - 1)))) (pk_sub hd2) ?_
      refine k_iast (pc := 68) (ws' := mw g (uC σ v (sC σ v - drN (sT σ v (sC σ v - 1)))) 0 mi ti ++ rest) hx hb hK hP hD hS 1 0 (ma1 g σ 0 mi ti rest) rfl v rfl (by omega) (by decide) (ms_C g σ 0 mi ti rest v (sC σ v - drN (sT σ v (sC σ v - 1)))) dX2_erase_68 (fun H5 locs5 hP hD hS => ?_)
      refine lv_iload_n (pc := 69) hx hb dX2_erase_69 rfl (lv_at hl 0 rfl) ?_
      have hcd : cd_erase σ (nI v) = 0 := by simp [cd_erase, cdVR, c1, hixv, hpos]
      rw [hcd]
      exact W.iret hx hb hr (fun t ht hW => ⟨⟨_, (mi, ti), rfl, (fun _ => rfl), by rw [ht]; exact hP, hD⟩, hS.F ht⟩) hS.2.2 dX2_erase_70
    · have c2 : sC σ v = 0 := (nI_eq (a := sC σ v) (b := 0) (by omega) (by omega)).mp c2
      have hpos : ¬ 0 < sC σ v := by omega
      refine lv_aload_n (pc := 28) hx hb dX2_erase_28 rfl (lv_at hl 0 rfl) ?_
      refine lv_iconst (v := 2) (pc := 29) hx hb dX2_erase_29 (by decide) ?_
      refine va_calli (pc := 30) (va_runV (As := [.int 2]) (rest := []) ⟨hx, hb, hml, hown, hts⟩ (cX2_fail_m l g A σ rest 0 mi ti 2) (cwV 1 hts gX2_erase_X2_fail rfl rfl rfl (by decide +kernel) ⟨Nat.le_of_ble_eq_true rfl, Nat.le_of_ble_eq_true rfl⟩) (cx_V (q0 := 0) (ci := 2) (r := (RX2, TX2, 11)) rfl (ma0 g σ 0 mi ti rest) hP hD hA hK hX hS) rfl rfl hl.1 rfl (lv_room (Nat.le_of_ble_eq_true rfl)) dX2_erase_30 ⟨Nat.le_of_ble_eq_true rfl, Nat.le_of_ble_eq_true rfl⟩) hS (fun _ _ h => h) (fun _ h => h) (fun r_6 u7 t7 H7 locs7 ht7 hvm7 hw7 hB7 hz7 hk7 hS => ?_)
      obtain ⟨hP, hD⟩ := hB7
      rw [ht7] at hP
      subst hw7
      have hcd : cd_erase σ (nI v) = 2 := by simp [cd_erase, cdVR, c1, hixv, hpos]
      rw [hcd]
      exact W.iret hx hb hr (fun t ht hW => ⟨⟨_, (mi, ti), rfl, (fun q => absurd q (by decide)), by rw [ht]; exact hP, hD⟩, hS.F ht⟩) hS.2.2 dX2_erase_33
  · have c1 := bI_0.mp c1
    refine lv_aload_n (pc := 13) hx hb dX2_erase_13 rfl (lv_at hl 0 rfl) ?_
    refine lv_iconst (v := 1) (pc := 14) hx hb dX2_erase_14 (by decide) ?_
    refine va_calli (pc := 15) (va_runV (As := [.int 1]) (rest := []) ⟨hx, hb, hml, hown, hts⟩ (cX2_fail_m l g A σ rest 0 mi ti 1) (cwV 1 hts gX2_erase_X2_fail rfl rfl rfl (by decide +kernel) ⟨Nat.le_of_ble_eq_true rfl, Nat.le_of_ble_eq_true rfl⟩) (cx_V (q0 := 0) (ci := 2) (r := (RX2, TX2, 11)) rfl (ma0 g σ 0 mi ti rest) hP hD hA hK hX hS) rfl rfl hl.1 rfl (lv_room (Nat.le_of_ble_eq_true rfl)) dX2_erase_15 ⟨Nat.le_of_ble_eq_true rfl, Nat.le_of_ble_eq_true rfl⟩) hS (fun _ _ h => h) (fun _ h => h) (fun r_8 u9 t9 H9 locs9 ht9 hvm9 hw9 hB9 hz9 hk9 hS => ?_)
    obtain ⟨hP, hD⟩ := hB9
    rw [ht9] at hP
    subst hw9
    have hcd : cd_erase σ p0 = 1 := by simp [cd_erase, cdVR, c1]
    rw [hcd]
    exact W.iret hx hb hr (fun t ht hW => ⟨⟨_, (mi, ti), rfl, (fun q => absurd q (by decide)), by rw [ht]; exact hP, hD⟩, hS.F ht⟩) hS.2.2 dX2_erase_18
set_option maxHeartbeats 4000000 in
set_option maxRecDepth 100000 in
/-- recolour -/
theorem cX2_recolour_m (l : Launch) (g : GA) (A : Nat → Prop) (σ : St) (rest : va_W) (th : Int32) (mi ti : Nat → Int32) (p0 : Int32) (q0 : Int32) (hI : Inv σ) : Met l yX2_recolour wsX2_recolour ({ frames := 3, cells := 0, slots := 0, locals := 65 }) (va_Pc [.ref (gM g), .int p0, .int q0] (Cx g A (mw g σ th mi ti ++ rest))) (va_Qi (fun (r : Int32) (u : (Nat → Int32) × (Nat → Int32)) => cd_recolour σ p0 q0 = 0 → r = bI (!sR σ (ix p0) (ix q0))) (fun u t => kB g A (mw g (efs (cd_recolour σ p0 q0) (uR σ (ix p0) (ix q0) (!sR σ (ix p0) (ix q0))) σ) (nI (cd_recolour σ p0 q0)) u.1 u.2 ++ rest) t) A) 0 0 A := by
  refine Met.ofW (cc := cX2_recolour) (maxL := 4) (ret := (some .boolean)) (by decide) rfl ?_
  intro p e s m args below meth c s₁ B hml hv0
  obtain ⟨rfl, hP, hD, hA, hK, hX⟩ := hv0
  have hx := B.exec
  have hb := B.bytes
  have hr := B.returns
  have hts := atoms_spec (ws := wsX2_recolour) B.pre
  have hown : s.vm.findClass RX2 = some m.cls := findClass_of_methodNamed B.named
  have hlocks := B.notSynchronized
  have hS : va_S A s.heap s.heap [] := va_S.rf
  have hinX2 : ∀ w ∈ u_ws RX2 TX2 11, w ∈ wsX2_recolour := by decide +kernel
  have hl := lv_entry ([.ref (gM g), .int p0, .int q0]) (n := 4) (Nat.le_of_ble_eq_true rfl)
  rw [lg_entry_eq]
  generalize (lg_sl ([.ref (gM g), .int p0, .int q0]) ++ List.replicate (4 - (lg_sl ([.ref (gM g), .int p0, .int q0])).length) Slot.unset).toArray = ls at hl ⊢
  have hl : lv_has ls 4 [(0, .ref (gM g)), (1, .int p0), (2, .int q0)] := hl
  refine lv_aload_n (pc := 0) hx hb dX2_recolour_0 rfl (lv_at hl 0 rfl) ?_
  refine lv_aload_n (pc := 1) hx hb dX2_recolour_1 rfl (lv_at hl 0 rfl) ?_
  refine lv_iload_n (pc := 2) hx hb dX2_recolour_2 rfl (lv_at hl 1 rfl) ?_
  refine lv_iload_n (pc := 3) hx hb dX2_recolour_3 rfl (lv_at hl 2 rfl) ?_
  refine k_ri (pc := 4) (va_runV (As := [.int p0, .int q0]) (rest := [.ref (gM g)]) ⟨hx, hb, hml, hown, hts⟩ (cX2_isSign_m l g A σ rest th mi ti p0 q0 hI) (cwV 2 hts gX2_recolour_X2_isSign rfl rfl rfl (by decide +kernel) ⟨Nat.le_of_ble_eq_true rfl, Nat.le_of_ble_eq_true rfl⟩) (cx_V (q0 := 0) (ci := 2) (r := (RX2, TX2, 11)) rfl (ma0 g σ th mi ti rest) hP hD hA hK hX hS) rfl rfl hl.1 rfl (lv_room (Nat.le_of_ble_eq_true rfl)) dX2_recolour_4 ⟨Nat.le_of_ble_eq_true rfl, Nat.le_of_ble_eq_true rfl⟩) (fun r_1 hr_1 => ?_)
  subst hr_1
  refine lv_if_ne (tgt := 14) (pc := 7) hx hb dX2_recolour_7 (by decide) (fun c1 => ?_) (fun c1 => ?_)
  · have c1 := bI_n0.mp c1
    obtain ⟨v, s0, hvn, hs0, rfl, rfl⟩ := isS_o hI c1
    have hvv4 : v < 4 := hI.v4 hvn
    have hCv := hI.C v
    have hixv : ix (nI v) = v := ix_n (by omega)
    have hixs : ix (nI s0) = s0 := ix_n (by omega)
    rw [hixv] at c1
    rw [hixv, hixs]
    refine lv_aload_n (pc := 14) hx hb dX2_recolour_14 rfl (lv_at hl 0 rfl) ?_
    refine va_get (v := .ref (gB g 4)) (pc := 15) (D := gD g) (ci := 2) (C := RX2) (T := TX2) (N := 11) hx hb hts hinX2 hown hK hP 0 (ma0 g σ th mi ti rest) rfl 6 (by decide) (hts (.fieldLink RX2 22 "ChoirNotesModel" "place" "[I") (by decide +kernel)) (fun _ h9 => h9) rfl dX2_recolour_15 ?_
    refine lv_bipush (v := 24) (pc := 18) hx hb dX2_recolour_18 (by decide) ?_
    refine lv_iload_n (pc := 20) hx hb dX2_recolour_20 rfl (lv_at hl 1 rfl) ?_
    refine lv_imul (pc := 21) hx hb dX2_recolour_21 ?_
    refine k_cong (y := nI (24 * v)) (pk_mul 24 v) ?_
    refine lv_iload_n (pc := 22) hx hb dX2_recolour_22 rfl (lv_at hl 2 rfl) ?_
    refine lv_iadd (pc := 23) hx hb dX2_recolour_23 ?_
    refine k_cong (y := nI (24 * v + s0)) (nI_add (24 * v) s0) ?_
    refine k_iald (pc := 24) (x := sP σ v s0) hx hb hK hP 5 0 (ma5 g σ th mi ti rest) rfl (24 * v + s0) rfl (by omega) (by decide) (a24 (sP σ) (by omega)) dX2_recolour_24 ?_
    refine lv_iconst (v := (-1)) (pc := 25) hx hb dX2_recolour_25 (by decide) ?_
    refine lv_icmp_ne (tgt := 33) (pc := 26) hx hb dX2_recolour_26 (by decide) (fun c2 => ?_) (fun c2 => ?_)
    · refine lv_iconst (v := 0) (pc := 33) hx hb dX2_recolour_33 (by decide) ?_
      refine va_put (pc := 34) (D := gD g) (ci := 2) (v := .int 0) (ty := .int) (C := RX2) (T := TX2) (N := 11) hx hb hts hinX2 tyX2 tyX2_ok nmX2 hown hK hP hD hS 0 (ma0 g σ th mi ti rest) rfl 0 (by decide) (hts (.fieldLink RX2 38 "ChoirNotesModel" "thrown" "I") (by decide +kernel)) (fun _ h9 => h9) rfl (by decide +kernel) rfl rfl (Nat.le_of_ble_eq_true rfl) dX2_recolour_34 (fun H4 locs4 hP hD hS => ?_)
      have hP : va_P (gD g) vwCl (mw g σ 0 mi ti ++ rest) H4 := hP
      have hD : va_D A (mw g σ 0 mi ti ++ rest) := hD
      refine lv_aload_n (pc := 37) hx hb dX2_recolour_37 rfl (lv_at hl 0 rfl) ?_
      refine va_get (v := .int 0) (pc := 38) (D := gD g) (ci := 2) (C := RX2) (T := TX2) (N := 11) hx hb hts hinX2 hown hK hP 0 (ma0 g σ 0 mi ti rest) rfl 0 (by decide) (hts (.fieldLink RX2 38 "ChoirNotesModel" "thrown" "I") (by decide +kernel)) (fun _ h9 => h9) rfl dX2_recolour_38 ?_
      refine lv_if_le (tgt := 46) (pc := 41) hx hb dX2_recolour_41 (by decide) (fun c_5 => ?_) (fun c_5 => ?_)
      · refine lv_bipush (v := 24) (pc := 46) hx hb dX2_recolour_46 (by decide) ?_
        refine lv_iload_n (pc := 48) hx hb dX2_recolour_48 rfl (lv_at hl 1 rfl) ?_
        refine lv_imul (pc := 49) hx hb dX2_recolour_49 ?_
        refine k_cong (y := nI (24 * v)) (pk_mul 24 v) ?_
        refine lv_iload_n (pc := 50) hx hb dX2_recolour_50 rfl (lv_at hl 2 rfl) ?_
        refine lv_iadd (pc := 51) hx hb dX2_recolour_51 ?_
        refine k_cong (y := nI (24 * v + s0)) (nI_add (24 * v) s0) ?_
        refine lv_istore_n (lv' := [(3, .int (nI (24 * v + s0))), (0, .ref (gM g)), (1, .int (nI v)), (2, .int (nI s0))]) (pc := 52) hx hb dX2_recolour_52 rfl hl (by decide) rfl (fun ls hl => ?_)
        refine lv_aload_n (pc := 53) hx hb dX2_recolour_53 rfl (lv_at hl 1 rfl) ?_
        refine va_get (v := .ref (gB g 5)) (pc := 54) (D := gD g) (ci := 2) (C := RX2) (T := TX2) (N := 11) hx hb hts hinX2 hown hK hP 0 (ma0 g σ 0 mi ti rest) rfl 7 (by decide) (hts (.fieldLink RX2 25 "ChoirNotesModel" "isRed" "[Z") (by decide +kernel)) (fun _ h9 => h9) rfl dX2_recolour_54 ?_
        refine lv_iload_n (pc := 57) hx hb dX2_recolour_57 rfl (lv_at hl 0 rfl) ?_
        refine lv_aload_n (pc := 58) hx hb dX2_recolour_58 rfl (lv_at hl 1 rfl) ?_
        refine va_get (v := .ref (gB g 5)) (pc := 59) (D := gD g) (ci := 2) (C := RX2) (T := TX2) (N := 11) hx hb hts hinX2 hown hK hP 0 (ma0 g σ 0 mi ti rest) rfl 7 (by decide) (hts (.fieldLink RX2 25 "ChoirNotesModel" "isRed" "[Z") (by decide +kernel)) (fun _ h9 => h9) rfl dX2_recolour_59 ?_
        refine lv_iload_n (pc := 62) hx hb dX2_recolour_62 rfl (lv_at hl 0 rfl) ?_
        refine k_zald (pc := 63) (x := bI (sR σ v s0)) hx hb hK hP 6 1 (ma6 g σ 0 mi ti rest) rfl (24 * v + s0) rfl (by omega) (by decide) (a24 (fun a b => bI (sR σ a b)) (by omega)) dX2_recolour_63 ?_
        refine lv_if_ne (tgt := 71) (pc := 64) hx hb dX2_recolour_64 (by decide) (fun c3 => ?_) (fun c3 => ?_)
        · have c3 := bI_n0.mp c3
          refine lv_iconst (v := 0) (pc := 71) hx hb dX2_recolour_71 (by decide) ?_
          refine k_cong (y := bI (!sR σ v s0)) (by rw [c3]; rfl) ?_
          refine k_zast (pc := 72) (ws' := mw g (uR σ v s0 (!sR σ v s0)) 0 mi ti ++ rest) hx hb hK hP hD hS 6 1 (ma6 g σ 0 mi ti rest) rfl (24 * v + s0) rfl (by omega) (by decide) (kN_b _) (ms_R g σ 0 mi ti rest (v := v) (s := s0) (!sR σ v s0) (by omega)) dX2_recolour_72 (fun H7 locs7 hP hD hS => ?_)
          refine lv_aload_n (pc := 73) hx hb dX2_recolour_73 rfl (lv_at hl 1 rfl) ?_
          refine va_get (v := .ref (gB g 5)) (pc := 74) (D := gD g) (ci := 2) (C := RX2) (T := TX2) (N := 11) hx hb hts hinX2 hown hK hP 0 (ma0 g (uR σ v s0 (!sR σ v s0)) 0 mi ti rest) rfl 7 (by decide) (hts (.fieldLink RX2 25 "ChoirNotesModel" "isRed" "[Z") (by decide +kernel)) (fun _ h9 => h9) rfl dX2_recolour_74 ?_
          refine lv_iload_n (pc := 77) hx hb dX2_recolour_77 rfl (lv_at hl 0 rfl) ?_
          refine k_zald (pc := 78) (x := bI (!sR σ v s0)) hx hb hK hP 6 1 (ma6 g (uR σ v s0 (!sR σ v s0)) 0 mi ti rest) rfl (24 * v + s0) rfl (by omega) (by decide) ((a24 (fun a b => bI (sR (uR σ v s0 (!sR σ v s0)) a b)) (by omega)).trans (congrArg bI (up2_s _ _ _ _))) dX2_recolour_78 ?_
          have hcd : cd_recolour σ (nI v) (nI s0) = 0 := by simp [cd_recolour, isNt, c1, hixv, hixs, c2]
          rw [hcd]
          exact W.zret (v := bI (!sR σ v s0)) hx hb hr (bI_nar _) (fun t ht hW => ⟨⟨_, (mi, ti), rfl, (fun _ => rfl), by rw [ht]; exact hP, hD⟩, hS.F ht⟩) hS.2.2 dX2_recolour_79
        · have c3 := bI_0.mp c3
          refine lv_iconst (v := 1) (pc := 67) hx hb dX2_recolour_67 (by decide) ?_
          refine lv_goto (tgt := 72) (pc := 68) hx hb dX2_recolour_68 (by decide) ?_
          refine k_cong (y := bI (!sR σ v s0)) (by rw [c3]; rfl) ?_
          refine k_zast (pc := 72) (ws' := mw g (uR σ v s0 (!sR σ v s0)) 0 mi ti ++ rest) hx hb hK hP hD hS 6 1 (ma6 g σ 0 mi ti rest) rfl (24 * v + s0) rfl (by omega) (by decide) (kN_b _) (ms_R g σ 0 mi ti rest (v := v) (s := s0) (!sR σ v s0) (by omega)) dX2_recolour_72 (fun H8 locs8 hP hD hS => ?_)
          refine lv_aload_n (pc := 73) hx hb dX2_recolour_73 rfl (lv_at hl 1 rfl) ?_
          refine va_get (v := .ref (gB g 5)) (pc := 74) (D := gD g) (ci := 2) (C := RX2) (T := TX2) (N := 11) hx hb hts hinX2 hown hK hP 0 (ma0 g (uR σ v s0 (!sR σ v s0)) 0 mi ti rest) rfl 7 (by decide) (hts (.fieldLink RX2 25 "ChoirNotesModel" "isRed" "[Z") (by decide +kernel)) (fun _ h9 => h9) rfl dX2_recolour_74 ?_
          refine lv_iload_n (pc := 77) hx hb dX2_recolour_77 rfl (lv_at hl 0 rfl) ?_
          refine k_zald (pc := 78) (x := bI (!sR σ v s0)) hx hb hK hP 6 1 (ma6 g (uR σ v s0 (!sR σ v s0)) 0 mi ti rest) rfl (24 * v + s0) rfl (by omega) (by decide) ((a24 (fun a b => bI (sR (uR σ v s0 (!sR σ v s0)) a b)) (by omega)).trans (congrArg bI (up2_s _ _ _ _))) dX2_recolour_78 ?_
          have hcd : cd_recolour σ (nI v) (nI s0) = 0 := by simp [cd_recolour, isNt, c1, hixv, hixs, c2]
          rw [hcd]
          exact W.zret (v := bI (!sR σ v s0)) hx hb hr (bI_nar _) (fun t ht hW => ⟨⟨_, (mi, ti), rfl, (fun _ => rfl), by rw [ht]; exact hP, hD⟩, hS.F ht⟩) hS.2.2 dX2_recolour_79
      · exact absurd c_5 (by decide)
    · refine lv_iconst (v := 2) (pc := 29) hx hb dX2_recolour_29 (by decide) ?_
      refine lv_goto (tgt := 34) (pc := 30) hx hb dX2_recolour_30 (by decide) ?_
      refine va_put (pc := 34) (D := gD g) (ci := 2) (v := .int 2) (ty := .int) (C := RX2) (T := TX2) (N := 11) hx hb hts hinX2 tyX2 tyX2_ok nmX2 hown hK hP hD hS 0 (ma0 g σ th mi ti rest) rfl 0 (by decide) (hts (.fieldLink RX2 38 "ChoirNotesModel" "thrown" "I") (by decide +kernel)) (fun _ h9 => h9) rfl (by decide +kernel) rfl rfl (Nat.le_of_ble_eq_true rfl) dX2_recolour_34 (fun H9 locs9 hP hD hS => ?_)
      have hP : va_P (gD g) vwCl (mw g σ 2 mi ti ++ rest) H9 := hP
      have hD : va_D A (mw g σ 2 mi ti ++ rest) := hD
      refine lv_aload_n (pc := 37) hx hb dX2_recolour_37 rfl (lv_at hl 0 rfl) ?_
      refine va_get (v := .int 2) (pc := 38) (D := gD g) (ci := 2) (C := RX2) (T := TX2) (N := 11) hx hb hts hinX2 hown hK hP 0 (ma0 g σ 2 mi ti rest) rfl 0 (by decide) (hts (.fieldLink RX2 38 "ChoirNotesModel" "thrown" "I") (by decide +kernel)) (fun _ h9 => h9) rfl dX2_recolour_38 ?_
      refine lv_if_le (tgt := 46) (pc := 41) hx hb dX2_recolour_41 (by decide) (fun c_10 => ?_) (fun c_10 => ?_)
      · exact absurd c_10 (by decide)
      · refine lv_iconst (v := 0) (pc := 44) hx hb dX2_recolour_44 (by decide) ?_
        have hcd : cd_recolour σ (nI v) (nI s0) = 2 := by simp [cd_recolour, isNt, c1, hixv, hixs, c2]
        rw [hcd]
        exact W.zret (v := 0) hx hb hr rfl (fun t ht hW => ⟨⟨_, (mi, ti), rfl, (fun q => absurd q (by decide)), by rw [ht]; exact hP, hD⟩, hS.F ht⟩) hS.2.2 dX2_recolour_45
  · have c1 := bI_0.mp c1
    refine lv_iconst (v := 1) (pc := 10) hx hb dX2_recolour_10 (by decide) ?_
    refine lv_goto (tgt := 34) (pc := 11) hx hb dX2_recolour_11 (by decide) ?_
    refine va_put (pc := 34) (D := gD g) (ci := 2) (v := .int 1) (ty := .int) (C := RX2) (T := TX2) (N := 11) hx hb hts hinX2 tyX2 tyX2_ok nmX2 hown hK hP hD hS 0 (ma0 g σ th mi ti rest) rfl 0 (by decide) (hts (.fieldLink RX2 38 "ChoirNotesModel" "thrown" "I") (by decide +kernel)) (fun _ h9 => h9) rfl (by decide +kernel) rfl rfl (Nat.le_of_ble_eq_true rfl) dX2_recolour_34 (fun H11 locs11 hP hD hS => ?_)
    have hP : va_P (gD g) vwCl (mw g σ 1 mi ti ++ rest) H11 := hP
    have hD : va_D A (mw g σ 1 mi ti ++ rest) := hD
    refine lv_aload_n (pc := 37) hx hb dX2_recolour_37 rfl (lv_at hl 0 rfl) ?_
    refine va_get (v := .int 1) (pc := 38) (D := gD g) (ci := 2) (C := RX2) (T := TX2) (N := 11) hx hb hts hinX2 hown hK hP 0 (ma0 g σ 1 mi ti rest) rfl 0 (by decide) (hts (.fieldLink RX2 38 "ChoirNotesModel" "thrown" "I") (by decide +kernel)) (fun _ h9 => h9) rfl dX2_recolour_38 ?_
    refine lv_if_le (tgt := 46) (pc := 41) hx hb dX2_recolour_41 (by decide) (fun c_12 => ?_) (fun c_12 => ?_)
    · exact absurd c_12 (by decide)
    · refine lv_iconst (v := 0) (pc := 44) hx hb dX2_recolour_44 (by decide) ?_
      have hcd : cd_recolour σ p0 q0 = 1 := by simp [cd_recolour, isNt, c1]
      rw [hcd]
      exact W.zret (v := 0) hx hb hr rfl (fun t ht hW => ⟨⟨_, (mi, ti), rfl, (fun q => absurd q (by decide)), by rw [ht]; exact hP, hD⟩, hS.F ht⟩) hS.2.2 dX2_recolour_45
set_option maxHeartbeats 4000000 in
set_option maxRecDepth 100000 in
/-- setClef -/
theorem cX2_setClef_m (l : Launch) (g : GA) (A : Nat → Prop) (σ : St) (rest : va_W) (th : Int32) (mi ti : Nat → Int32) (p0 : Int32) (c0 : Int32) (hI : Inv σ) : Met l yX2_setClef wsX2_setClef ({ frames := 2, cells := 0, slots := 0, locals := 43 }) (va_Pc [.ref (gM g), .int p0, .int c0] (Cx g A (mw g σ th mi ti ++ rest))) (va_Qi (fun (r : Int32) (u : (Nat → Int32) × (Nat → Int32)) => cdVR σ p0 (inr (-1) 5 c0) = 0 → r = sL σ (ix p0)) (fun u t => kB g A (mw g (efs (cdVR σ p0 (inr (-1) 5 c0)) (uL σ (ix p0) c0) σ) (nI (cdVR σ p0 (inr (-1) 5 c0))) u.1 u.2 ++ rest) t) A) 0 0 A := by
  refine Met.ofW (cc := cX2_setClef) (maxL := 4) (ret := (some .int)) (by decide) rfl ?_
  intro p e s m args below meth c s₁ B hml hv0
  obtain ⟨rfl, hP, hD, hA, hK, hX⟩ := hv0
  have hx := B.exec
  have hb := B.bytes
  have hr := B.returns
  have hts := atoms_spec (ws := wsX2_setClef) B.pre
  have hown : s.vm.findClass RX2 = some m.cls := findClass_of_methodNamed B.named
  have hlocks := B.notSynchronized
  have hS : va_S A s.heap s.heap [] := va_S.rf
  have hinX2 : ∀ w ∈ u_ws RX2 TX2 11, w ∈ wsX2_setClef := by decide +kernel
  have hl := lv_entry ([.ref (gM g), .int p0, .int c0]) (n := 4) (Nat.le_of_ble_eq_true rfl)
  rw [lg_entry_eq]
  generalize (lg_sl ([.ref (gM g), .int p0, .int c0]) ++ List.replicate (4 - (lg_sl ([.ref (gM g), .int p0, .int c0])).length) Slot.unset).toArray = ls at hl ⊢
  have hl : lv_has ls 4 [(0, .ref (gM g)), (1, .int p0), (2, .int c0)] := hl
  refine lv_aload_n (pc := 0) hx hb dX2_setClef_0 rfl (lv_at hl 0 rfl) ?_
  refine lv_iconst (v := 0) (pc := 1) hx hb dX2_setClef_1 (by decide) ?_
  refine va_put (pc := 2) (D := gD g) (ci := 2) (v := .int 0) (ty := .int) (C := RX2) (T := TX2) (N := 11) hx hb hts hinX2 tyX2 tyX2_ok nmX2 hown hK hP hD hS 0 (ma0 g σ th mi ti rest) rfl 0 (by decide) (hts (.fieldLink RX2 38 "ChoirNotesModel" "thrown" "I") (by decide +kernel)) (fun _ h9 => h9) rfl (by decide +kernel) rfl rfl (Nat.le_of_ble_eq_true rfl) dX2_setClef_2 (fun H1 locs1 hP hD hS => ?_)
  have hP : va_P (gD g) vwCl (mw g σ 0 mi ti ++ rest) H1 := hP
  have hD : va_D A (mw g σ 0 mi ti ++ rest) := hD
  refine lv_aload_n (pc := 5) hx hb dX2_setClef_5 rfl (lv_at hl 0 rfl) ?_
  refine lv_iload_n (pc := 6) hx hb dX2_setClef_6 rfl (lv_at hl 1 rfl) ?_
  refine k_ri (pc := 7) (va_runV (As := [.int p0]) (rest := []) ⟨hx, hb, hml, hown, hts⟩ (cX2_isVoice_m l g A σ rest 0 mi ti p0 hI) (cwV 1 hts gX2_setClef_X2_isVoice rfl rfl rfl (by decide +kernel) ⟨Nat.le_of_ble_eq_true rfl, Nat.le_of_ble_eq_true rfl⟩) (cx_V (q0 := 0) (ci := 2) (r := (RX2, TX2, 11)) rfl (ma0 g σ 0 mi ti rest) hP hD hA hK hX hS) rfl rfl hl.1 rfl (lv_room (Nat.le_of_ble_eq_true rfl)) dX2_setClef_7 ⟨Nat.le_of_ble_eq_true rfl, Nat.le_of_ble_eq_true rfl⟩) (fun r_2 hr_2 => ?_)
  subst hr_2
  refine lv_if_ne (tgt := 19) (pc := 10) hx hb dX2_setClef_10 (by decide) (fun c1 => ?_) (fun c1 => ?_)
  · have c1 := bI_n0.mp c1
    obtain ⟨v, hvn, rfl⟩ := okV_o hI.N c1
    have hvv4 : v < 4 := hI.v4 hvn
    have hixv : ix (nI v) = v := ix_n (by omega)
    have hCv := hI.C v
    rw [hixv]
    refine lv_iload_n (pc := 19) hx hb dX2_setClef_19 rfl (lv_at hl 2 rfl) ?_
    refine lv_iconst (v := (-1)) (pc := 20) hx hb dX2_setClef_20 (by decide) ?_
    refine lv_iconst (v := 5) (pc := 21) hx hb dX2_setClef_21 (by decide) ?_
    refine k_ri (pc := 22) (va_runS (As := [.int c0, .int ((-1)), .int 5]) (rest := []) ⟨hx, hb, hml, hown, hts⟩ (cX2_isIn_m l g A σ rest 0 mi ti c0 ((-1)) 5) (va_cwS 3 hts gX2_setClef_X2_isIn rfl rfl rfl (by decide +kernel) ⟨Nat.le_of_ble_eq_true rfl, Nat.le_of_ble_eq_true rfl⟩) (cx_S hP hD hA hK hX hS) rfl rfl hl.1 rfl (lv_room (Nat.le_of_ble_eq_true rfl)) dX2_setClef_22 ⟨Nat.le_of_ble_eq_true rfl, Nat.le_of_ble_eq_true rfl⟩) (fun r_4 hr_4 => ?_)
    subst hr_4
    refine lv_if_ne (tgt := 34) (pc := 25) hx hb dX2_setClef_25 (by decide) (fun c2 => ?_) (fun c2 => ?_)
    · have c2 := bI_n0.mp c2
      refine lv_aload_n (pc := 34) hx hb dX2_setClef_34 rfl (lv_at hl 0 rfl) ?_
      refine va_get (v := .ref (gB g 1)) (pc := 35) (D := gD g) (ci := 2) (C := RX2) (T := TX2) (N := 11) hx hb hts hinX2 hown hK hP 0 (ma0 g σ 0 mi ti rest) rfl 3 (by decide) (hts (.fieldLink RX2 13 "ChoirNotesModel" "clef" "[I") (by decide +kernel)) (fun _ h9 => h9) rfl dX2_setClef_35 ?_
      refine lv_iload_n (pc := 38) hx hb dX2_setClef_38 rfl (lv_at hl 1 rfl) ?_
      refine k_iald (pc := 39) (x := sL σ v) hx hb hK hP 2 0 (ma2 g σ 0 mi ti rest) rfl v rfl (by omega) (by decide) (if_pos hvn) dX2_setClef_39 ?_
      refine lv_istore_n (lv' := [(3, .int (sL σ v)), (0, .ref (gM g)), (1, .int (nI v)), (2, .int c0)]) (pc := 40) hx hb dX2_setClef_40 rfl hl (by decide) rfl (fun ls hl => ?_)
      refine lv_aload_n (pc := 41) hx hb dX2_setClef_41 rfl (lv_at hl 1 rfl) ?_
      refine va_get (v := .ref (gB g 1)) (pc := 42) (D := gD g) (ci := 2) (C := RX2) (T := TX2) (N := 11) hx hb hts hinX2 hown hK hP 0 (ma0 g σ 0 mi ti rest) rfl 3 (by decide) (hts (.fieldLink RX2 13 "ChoirNotesModel" "clef" "[I") (by decide +kernel)) (fun _ h9 => h9) rfl dX2_setClef_42 ?_
      refine lv_iload_n (pc := 45) hx hb dX2_setClef_45 rfl (lv_at hl 2 rfl) ?_
      refine lv_iload_n (pc := 46) hx hb dX2_setClef_46 rfl (lv_at hl 3 rfl) ?_
      refine k_iast (pc := 47) (ws' := mw g (uL σ v c0) 0 mi ti ++ rest) hx hb hK hP hD hS 2 0 (ma2 g σ 0 mi ti rest) rfl v rfl (by omega) (by decide) (ms_L g σ 0 mi ti rest v c0 hvn) dX2_setClef_47 (fun H6 locs6 hP hD hS => ?_)
      refine lv_iload_n (pc := 48) hx hb dX2_setClef_48 rfl (lv_at hl 0 rfl) ?_
      have hcd : cdVR σ (nI v) (inr (-1) 5 c0) = 0 := by simp [cdVR, c1, hixv, c2]
      rw [hcd]
      exact W.iret hx hb hr (fun t ht hW => ⟨⟨_, (mi, ti), rfl, (fun _ => rfl), by rw [ht]; exact hP, hD⟩, hS.F ht⟩) hS.2.2 dX2_setClef_49
    · have c2 := bI_0.mp c2
      refine lv_aload_n (pc := 28) hx hb dX2_setClef_28 rfl (lv_at hl 0 rfl) ?_
      refine lv_iconst (v := 2) (pc := 29) hx hb dX2_setClef_29 (by decide) ?_
      refine va_calli (pc := 30) (va_runV (As := [.int 2]) (rest := []) ⟨hx, hb, hml, hown, hts⟩ (cX2_fail_m l g A σ rest 0 mi ti 2) (cwV 1 hts gX2_setClef_X2_fail rfl rfl rfl (by decide +kernel) ⟨Nat.le_of_ble_eq_true rfl, Nat.le_of_ble_eq_true rfl⟩) (cx_V (q0 := 0) (ci := 2) (r := (RX2, TX2, 11)) rfl (ma0 g σ 0 mi ti rest) hP hD hA hK hX hS) rfl rfl hl.1 rfl (lv_room (Nat.le_of_ble_eq_true rfl)) dX2_setClef_30 ⟨Nat.le_of_ble_eq_true rfl, Nat.le_of_ble_eq_true rfl⟩) hS (fun _ _ h => h) (fun _ h => h) (fun r_7 u8 t8 H8 locs8 ht8 hvm8 hw8 hB8 hz8 hk8 hS => ?_)
      obtain ⟨hP, hD⟩ := hB8
      rw [ht8] at hP
      subst hw8
      have hcd : cdVR σ (nI v) (inr (-1) 5 c0) = 2 := by simp [cdVR, c1, hixv, c2]
      rw [hcd]
      exact W.iret hx hb hr (fun t ht hW => ⟨⟨_, (mi, ti), rfl, (fun q => absurd q (by decide)), by rw [ht]; exact hP, hD⟩, hS.F ht⟩) hS.2.2 dX2_setClef_33
  · have c1 := bI_0.mp c1
    refine lv_aload_n (pc := 13) hx hb dX2_setClef_13 rfl (lv_at hl 0 rfl) ?_
    refine lv_iconst (v := 1) (pc := 14) hx hb dX2_setClef_14 (by decide) ?_
    refine va_calli (pc := 15) (va_runV (As := [.int 1]) (rest := []) ⟨hx, hb, hml, hown, hts⟩ (cX2_fail_m l g A σ rest 0 mi ti 1) (cwV 1 hts gX2_setClef_X2_fail rfl rfl rfl (by decide +kernel) ⟨Nat.le_of_ble_eq_true rfl, Nat.le_of_ble_eq_true rfl⟩) (cx_V (q0 := 0) (ci := 2) (r := (RX2, TX2, 11)) rfl (ma0 g σ 0 mi ti rest) hP hD hA hK hX hS) rfl rfl hl.1 rfl (lv_room (Nat.le_of_ble_eq_true rfl)) dX2_setClef_15 ⟨Nat.le_of_ble_eq_true rfl, Nat.le_of_ble_eq_true rfl⟩) hS (fun _ _ h => h) (fun _ h => h) (fun r_9 u10 t10 H10 locs10 ht10 hvm10 hw10 hB10 hz10 hk10 hS => ?_)
    obtain ⟨hP, hD⟩ := hB10
    rw [ht10] at hP
    subst hw10
    have hcd : cdVR σ p0 (inr (-1) 5 c0) = 1 := by simp [cdVR, c1]
    rw [hcd]
    exact W.iret hx hb hr (fun t ht hW => ⟨⟨_, (mi, ti), rfl, (fun q => absurd q (by decide)), by rw [ht]; exact hP, hD⟩, hS.F ht⟩) hS.2.2 dX2_setClef_18
set_option maxHeartbeats 4000000 in
set_option maxRecDepth 100000 in
/-- setMensuration -/
theorem cX2_setMensuration_m (l : Launch) (g : GA) (A : Nat → Prop) (σ : St) (rest : va_W) (th : Int32) (mi ti : Nat → Int32) (p0 : Int32) (a0 : Int32) (b0 : Int32) (c0 : Int32) (hI : Inv σ) : Met l yX2_setMensuration wsX2_setMensuration ({ frames := 2, cells := 0, slots := 0, locals := 48 }) (va_Pc [.ref (gM g), .int p0, .int a0, .int b0, .int c0] (Cx g A (mw g σ th mi ti ++ rest))) (va_Qi (fun (r : Int32) (u : (Nat → Int32) × (Nat → Int32)) => cdVR σ p0 (inM a0 b0 c0) = 0 → r = nI (len (meS σ (ix p0) (ix a0) (ix b0) (ix c0)) (ix p0))) (fun u t => kB g A (mw g (efs (cdVR σ p0 (inM a0 b0 c0)) (meS σ (ix p0) (ix a0) (ix b0) (ix c0)) σ) (nI (cdVR σ p0 (inM a0 b0 c0))) u.1 u.2 ++ rest) t) A) 0 0 A := by
  refine Met.ofW (cc := cX2_setMensuration) (maxL := 5) (ret := (some .int)) (by decide) rfl ?_
  intro p e s m args below meth c s₁ B hml hv0
  obtain ⟨rfl, hP, hD, hA, hK, hX⟩ := hv0
  have hx := B.exec
  have hb := B.bytes
  have hr := B.returns
  have hts := atoms_spec (ws := wsX2_setMensuration) B.pre
  have hown : s.vm.findClass RX2 = some m.cls := findClass_of_methodNamed B.named
  have hlocks := B.notSynchronized
  have hS : va_S A s.heap s.heap [] := va_S.rf
  have hinX2 : ∀ w ∈ u_ws RX2 TX2 11, w ∈ wsX2_setMensuration := by decide +kernel
  have hl := lv_entry ([.ref (gM g), .int p0, .int a0, .int b0, .int c0]) (n := 5) (Nat.le_of_ble_eq_true rfl)
  rw [lg_entry_eq]
  generalize (lg_sl ([.ref (gM g), .int p0, .int a0, .int b0, .int c0]) ++ List.replicate (5 - (lg_sl ([.ref (gM g), .int p0, .int a0, .int b0, .int c0])).length) Slot.unset).toArray = ls at hl ⊢
  have hl : lv_has ls 5 [(0, .ref (gM g)), (1, .int p0), (2, .int a0), (3, .int b0), (4, .int c0)] := hl
  refine lv_aload_n (pc := 0) hx hb dX2_setMensuration_0 rfl (lv_at hl 0 rfl) ?_
  refine lv_iconst (v := 0) (pc := 1) hx hb dX2_setMensuration_1 (by decide) ?_
  refine va_put (pc := 2) (D := gD g) (ci := 2) (v := .int 0) (ty := .int) (C := RX2) (T := TX2) (N := 11) hx hb hts hinX2 tyX2 tyX2_ok nmX2 hown hK hP hD hS 0 (ma0 g σ th mi ti rest) rfl 0 (by decide) (hts (.fieldLink RX2 38 "ChoirNotesModel" "thrown" "I") (by decide +kernel)) (fun _ h9 => h9) rfl (by decide +kernel) rfl rfl (Nat.le_of_ble_eq_true rfl) dX2_setMensuration_2 (fun H1 locs1 hP hD hS => ?_)
  have hP : va_P (gD g) vwCl (mw g σ 0 mi ti ++ rest) H1 := hP
  have hD : va_D A (mw g σ 0 mi ti ++ rest) := hD
  refine lv_aload_n (pc := 5) hx hb dX2_setMensuration_5 rfl (lv_at hl 0 rfl) ?_
  refine lv_iload_n (pc := 6) hx hb dX2_setMensuration_6 rfl (lv_at hl 1 rfl) ?_
  refine k_ri (pc := 7) (va_runV (As := [.int p0]) (rest := []) ⟨hx, hb, hml, hown, hts⟩ (cX2_isVoice_m l g A σ rest 0 mi ti p0 hI) (cwV 1 hts gX2_setMensuration_X2_isVoice rfl rfl rfl (by decide +kernel) ⟨Nat.le_of_ble_eq_true rfl, Nat.le_of_ble_eq_true rfl⟩) (cx_V (q0 := 0) (ci := 2) (r := (RX2, TX2, 11)) rfl (ma0 g σ 0 mi ti rest) hP hD hA hK hX hS) rfl rfl hl.1 rfl (lv_room (Nat.le_of_ble_eq_true rfl)) dX2_setMensuration_7 ⟨Nat.le_of_ble_eq_true rfl, Nat.le_of_ble_eq_true rfl⟩) (fun r_2 hr_2 => ?_)
  subst hr_2
  refine lv_if_ne (tgt := 19) (pc := 10) hx hb dX2_setMensuration_10 (by decide) (fun c1 => ?_) (fun c1 => ?_)
  · have c1 := bI_n0.mp c1
    obtain ⟨v, hvn, rfl⟩ := okV_o hI.N c1
    have hvv4 : v < 4 := hI.v4 hvn
    have hixv : ix (nI v) = v := ix_n (by omega)
    have hCv := hI.C v
    rw [hixv]
    refine lv_iload_n (pc := 19) hx hb dX2_setMensuration_19 rfl (lv_at hl 2 rfl) ?_
    refine lv_iload_n (pc := 20) hx hb dX2_setMensuration_20 rfl (lv_at hl 3 rfl) ?_
    refine lv_iload (pc := 21) hx hb dX2_setMensuration_21 (lv_at hl 4 rfl) ?_
    refine k_ri (pc := 23) (va_runS (As := [.int a0, .int b0, .int c0]) (rest := []) ⟨hx, hb, hml, hown, hts⟩ (cX2_isMeasure_m l g A σ rest 0 mi ti a0 b0 c0) (va_cwS 3 hts gX2_setMensuration_X2_isMeasure rfl rfl rfl (by decide +kernel) ⟨Nat.le_of_ble_eq_true rfl, Nat.le_of_ble_eq_true rfl⟩) (cx_S hP hD hA hK hX hS) rfl rfl hl.1 rfl (lv_room (Nat.le_of_ble_eq_true rfl)) dX2_setMensuration_23 ⟨Nat.le_of_ble_eq_true rfl, Nat.le_of_ble_eq_true rfl⟩) (fun r_4 hr_4 => ?_)
    subst hr_4
    refine lv_if_ne (tgt := 35) (pc := 26) hx hb dX2_setMensuration_26 (by decide) (fun c2 => ?_) (fun c2 => ?_)
    · have c2 := bI_n0.mp c2
      have cm := c2
      obtain ⟨i, j, k, rfl, rfl, rfl, hi23, hj23, hk23⟩ := inM_nat c2
      have hixi : ix (nI i) = i := ix_n (by omega)
      have hixj : ix (nI j) = j := ix_n (by omega)
      have hixk : ix (nI k) = k := ix_n (by omega)
      rw [hixi, hixj, hixk]
      refine lv_aload_n (pc := 35) hx hb dX2_setMensuration_35 rfl (lv_at hl 0 rfl) ?_
      refine lv_iload_n (pc := 36) hx hb dX2_setMensuration_36 rfl (lv_at hl 1 rfl) ?_
      refine lv_iload_n (pc := 37) hx hb dX2_setMensuration_37 rfl (lv_at hl 2 rfl) ?_
      refine lv_iload_n (pc := 38) hx hb dX2_setMensuration_38 rfl (lv_at hl 3 rfl) ?_
      refine lv_iload (pc := 39) hx hb dX2_setMensuration_39 (lv_at hl 4 rfl) ?_
      refine va_callv (pc := 41) (va_runV (As := [.int (nI v), .int (nI i), .int (nI j), .int (nI k)]) (rest := []) ⟨hx, hb, hml, hown, hts⟩ (cX2_set_m l g A σ rest 0 mi ti v i j k hvv4) (cwV 4 hts gX2_setMensuration_X2_set rfl rfl rfl (by decide +kernel) ⟨Nat.le_of_ble_eq_true rfl, Nat.le_of_ble_eq_true rfl⟩) (cx_V (q0 := 0) (ci := 2) (r := (RX2, TX2, 11)) rfl (ma0 g σ 0 mi ti rest) hP hD hA hK hX hS) rfl rfl hl.1 rfl (lv_room (Nat.le_of_ble_eq_true rfl)) dX2_setMensuration_41 ⟨Nat.le_of_ble_eq_true rfl, Nat.le_of_ble_eq_true rfl⟩) hS (fun _ _ h => h) (fun _ h => h) (fun u7 t7 H7 locs7 ht7 hvm7 hw7 hB7 hz7 hk7 hS => ?_)
      obtain ⟨hP, hD⟩ := hB7
      rw [ht7] at hP
      have hI2 : Inv (uB (meS σ v i j k) (ghB σ (meS σ v i j k) v)) := inv_me hI hi23 hj23 hk23 (tfP_gh (sB_meS _ _ _ _ _))
      rw [← mw_uB g (meS σ v i j k) (ghB σ (meS σ v i j k) v)] at hP hD
      refine lv_aload_n (pc := 44) hx hb dX2_setMensuration_44 rfl (lv_at hl 0 rfl) ?_
      refine lv_iload_n (pc := 45) hx hb dX2_setMensuration_45 rfl (lv_at hl 1 rfl) ?_
      refine k_ri (pc := 46) (va_runV (As := [.int (nI v)]) (rest := []) ⟨hx, hb, hml, hown, hts⟩ (cX2_all_m l g A (uB (meS σ v i j k) (ghB σ (meS σ v i j k) v)) rest 0 mi ti v hvv4 hI2) (cwV 1 hts gX2_setMensuration_X2_all rfl rfl rfl (by decide +kernel) ⟨Nat.le_of_ble_eq_true rfl, Nat.le_of_ble_eq_true rfl⟩) (cx_V (q0 := 0) (ci := 2) (r := (RX2, TX2, 11)) rfl (ma0 g (uB (meS σ v i j k) (ghB σ (meS σ v i j k) v)) 0 mi ti rest) hP hD hA hK hX hS) rfl rfl hl.1 rfl (lv_room (Nat.le_of_ble_eq_true rfl)) dX2_setMensuration_46 ⟨Nat.le_of_ble_eq_true rfl, Nat.le_of_ble_eq_true rfl⟩) (fun r_8 hr_8 => ?_)
      subst hr_8
      rw [mw_uB] at hP hD
      have hcd : cdVR σ (nI v) (inM (nI i) (nI j) (nI k)) = 0 := by simp [cdVR, c1, hixv, c2, cm]
      rw [hcd]
      exact W.iret hx hb hr (fun t ht hW => ⟨⟨_, (mi, ti), rfl, (fun _ => (congrArg nI (by unfold len; rw [bg_uB, sC_uB]))), by rw [ht]; exact hP, hD⟩, hS.F ht⟩) hS.2.2 dX2_setMensuration_49
    · have c2 := bI_0.mp c2
      refine lv_aload_n (pc := 29) hx hb dX2_setMensuration_29 rfl (lv_at hl 0 rfl) ?_
      refine lv_iconst (v := 2) (pc := 30) hx hb dX2_setMensuration_30 (by decide) ?_
      refine va_calli (pc := 31) (va_runV (As := [.int 2]) (rest := []) ⟨hx, hb, hml, hown, hts⟩ (cX2_fail_m l g A σ rest 0 mi ti 2) (cwV 1 hts gX2_setMensuration_X2_fail rfl rfl rfl (by decide +kernel) ⟨Nat.le_of_ble_eq_true rfl, Nat.le_of_ble_eq_true rfl⟩) (cx_V (q0 := 0) (ci := 2) (r := (RX2, TX2, 11)) rfl (ma0 g σ 0 mi ti rest) hP hD hA hK hX hS) rfl rfl hl.1 rfl (lv_room (Nat.le_of_ble_eq_true rfl)) dX2_setMensuration_31 ⟨Nat.le_of_ble_eq_true rfl, Nat.le_of_ble_eq_true rfl⟩) hS (fun _ _ h => h) (fun _ h => h) (fun r_9 u10 t10 H10 locs10 ht10 hvm10 hw10 hB10 hz10 hk10 hS => ?_)
      obtain ⟨hP, hD⟩ := hB10
      rw [ht10] at hP
      subst hw10
      have hcd : cdVR σ (nI v) (inM a0 b0 c0) = 2 := by simp [cdVR, c1, hixv, c2]
      rw [hcd]
      exact W.iret hx hb hr (fun t ht hW => ⟨⟨_, (mi, ti), rfl, (fun q => absurd q (by decide)), by rw [ht]; exact hP, hD⟩, hS.F ht⟩) hS.2.2 dX2_setMensuration_34
  · have c1 := bI_0.mp c1
    refine lv_aload_n (pc := 13) hx hb dX2_setMensuration_13 rfl (lv_at hl 0 rfl) ?_
    refine lv_iconst (v := 1) (pc := 14) hx hb dX2_setMensuration_14 (by decide) ?_
    refine va_calli (pc := 15) (va_runV (As := [.int 1]) (rest := []) ⟨hx, hb, hml, hown, hts⟩ (cX2_fail_m l g A σ rest 0 mi ti 1) (cwV 1 hts gX2_setMensuration_X2_fail rfl rfl rfl (by decide +kernel) ⟨Nat.le_of_ble_eq_true rfl, Nat.le_of_ble_eq_true rfl⟩) (cx_V (q0 := 0) (ci := 2) (r := (RX2, TX2, 11)) rfl (ma0 g σ 0 mi ti rest) hP hD hA hK hX hS) rfl rfl hl.1 rfl (lv_room (Nat.le_of_ble_eq_true rfl)) dX2_setMensuration_15 ⟨Nat.le_of_ble_eq_true rfl, Nat.le_of_ble_eq_true rfl⟩) hS (fun _ _ h => h) (fun _ h => h) (fun r_11 u12 t12 H12 locs12 ht12 hvm12 hw12 hB12 hz12 hk12 hS => ?_)
    obtain ⟨hP, hD⟩ := hB12
    rw [ht12] at hP
    subst hw12
    have hcd : cdVR σ p0 (inM a0 b0 c0) = 1 := by simp [cdVR, c1]
    rw [hcd]
    exact W.iret hx hb hr (fun t ht hW => ⟨⟨_, (mi, ti), rfl, (fun q => absurd q (by decide)), by rw [ht]; exact hP, hD⟩, hS.F ht⟩) hS.2.2 dX2_setMensuration_18
set_option maxHeartbeats 4000000 in
set_option maxRecDepth 100000 in
/-- addVoice -/
theorem cX2_addVoice_m (l : Launch) (g : GA) (A : Nat → Prop) (σ : St) (rest : va_W) (th : Int32) (mi ti : Nat → Int32) (a0 : Int32) (b0 : Int32) (c0 : Int32) (hI : Inv σ) : Met l yX2_addVoice wsX2_addVoice ({ frames := 2, cells := 0, slots := 0, locals := 44 }) (va_Pc [.ref (gM g), .int a0, .int b0, .int c0] (Cx g A (mw g σ th mi ti ++ rest))) (va_Qi (fun (r : Int32) (u : (Nat → Int32) × (Nat → Int32)) => cd_addVoice σ a0 b0 c0 = 0 → r = nI (sN σ)) (fun u t => kB g A (mw g (efs (cd_addVoice σ a0 b0 c0) (ef_addVoice σ a0 b0 c0) σ) (nI (cd_addVoice σ a0 b0 c0)) u.1 u.2 ++ rest) t) A) 0 0 A := by
  refine Met.ofW (cc := cX2_addVoice) (maxL := 4) (ret := (some .int)) (by decide) rfl ?_
  intro p e s m args below meth c s₁ B hml hv0
  obtain ⟨rfl, hP, hD, hA, hK, hX⟩ := hv0
  have hx := B.exec
  have hb := B.bytes
  have hr := B.returns
  have hts := atoms_spec (ws := wsX2_addVoice) B.pre
  have hown : s.vm.findClass RX2 = some m.cls := findClass_of_methodNamed B.named
  have hlocks := B.notSynchronized
  have hS : va_S A s.heap s.heap [] := va_S.rf
  have hinX2 : ∀ w ∈ u_ws RX2 TX2 11, w ∈ wsX2_addVoice := by decide +kernel
  have hl := lv_entry ([.ref (gM g), .int a0, .int b0, .int c0]) (n := 4) (Nat.le_of_ble_eq_true rfl)
  rw [lg_entry_eq]
  generalize (lg_sl ([.ref (gM g), .int a0, .int b0, .int c0]) ++ List.replicate (4 - (lg_sl ([.ref (gM g), .int a0, .int b0, .int c0])).length) Slot.unset).toArray = ls at hl ⊢
  have hl : lv_has ls 4 [(0, .ref (gM g)), (1, .int a0), (2, .int b0), (3, .int c0)] := hl
  refine lv_aload_n (pc := 0) hx hb dX2_addVoice_0 rfl (lv_at hl 0 rfl) ?_
  refine lv_iconst (v := 0) (pc := 1) hx hb dX2_addVoice_1 (by decide) ?_
  refine va_put (pc := 2) (D := gD g) (ci := 2) (v := .int 0) (ty := .int) (C := RX2) (T := TX2) (N := 11) hx hb hts hinX2 tyX2 tyX2_ok nmX2 hown hK hP hD hS 0 (ma0 g σ th mi ti rest) rfl 0 (by decide) (hts (.fieldLink RX2 38 "ChoirNotesModel" "thrown" "I") (by decide +kernel)) (fun _ h9 => h9) rfl (by decide +kernel) rfl rfl (Nat.le_of_ble_eq_true rfl) dX2_addVoice_2 (fun H1 locs1 hP hD hS => ?_)
  have hP : va_P (gD g) vwCl (mw g σ 0 mi ti ++ rest) H1 := hP
  have hD : va_D A (mw g σ 0 mi ti ++ rest) := hD
  refine lv_iload_n (pc := 5) hx hb dX2_addVoice_5 rfl (lv_at hl 1 rfl) ?_
  refine lv_iload_n (pc := 6) hx hb dX2_addVoice_6 rfl (lv_at hl 2 rfl) ?_
  refine lv_iload_n (pc := 7) hx hb dX2_addVoice_7 rfl (lv_at hl 3 rfl) ?_
  refine k_ri (pc := 8) (va_runS (As := [.int a0, .int b0, .int c0]) (rest := []) ⟨hx, hb, hml, hown, hts⟩ (cX2_isMeasure_m l g A σ rest 0 mi ti a0 b0 c0) (va_cwS 3 hts gX2_addVoice_X2_isMeasure rfl rfl rfl (by decide +kernel) ⟨Nat.le_of_ble_eq_true rfl, Nat.le_of_ble_eq_true rfl⟩) (cx_S hP hD hA hK hX hS) rfl rfl hl.1 rfl (lv_room (Nat.le_of_ble_eq_true rfl)) dX2_addVoice_8 ⟨Nat.le_of_ble_eq_true rfl, Nat.le_of_ble_eq_true rfl⟩) (fun r_2 hr_2 => ?_)
  subst hr_2
  refine lv_if_ne (tgt := 20) (pc := 11) hx hb dX2_addVoice_11 (by decide) (fun c1 => ?_) (fun c1 => ?_)
  · have c1 := bI_n0.mp c1
    have cm := c1
    obtain ⟨i, j, k, rfl, rfl, rfl, hi23, hj23, hk23⟩ := inM_nat c1
    have hixi : ix (nI i) = i := ix_n (by omega)
    have hixj : ix (nI j) = j := ix_n (by omega)
    have hixk : ix (nI k) = k := ix_n (by omega)
    have hef : ef_addVoice σ (nI i) (nI j) (nI k) = uN (meS σ (sN σ) i j k) (sN σ + 1) := by unfold ef_addVoice; rw [hixi, hixj, hixk]
    rw [hef]
    have hN := hI.N
    refine lv_aload_n (pc := 20) hx hb dX2_addVoice_20 rfl (lv_at hl 0 rfl) ?_
    refine va_get (v := .int (nI (sN σ))) (pc := 21) (D := gD g) (ci := 2) (C := RX2) (T := TX2) (N := 11) hx hb hts hinX2 hown hK hP 0 (ma0 g σ 0 mi ti rest) rfl 1 (by decide) (hts (.fieldLink RX2 42 "ChoirNotesModel" "voices" "I") (by decide +kernel)) (fun _ h9 => h9) rfl dX2_addVoice_21 ?_
    refine lv_iconst (v := 4) (pc := 24) hx hb dX2_addVoice_24 (by decide) ?_
    refine lv_icmp_ne (tgt := 34) (pc := 25) hx hb dX2_addVoice_25 (by decide) (fun c2 => ?_) (fun c2 => ?_)
    · have c2 : ¬ (sN σ = 4) := fun z => c2 ((nI_eq (a := sN σ) (b := 4) (by omega) (by omega)).mpr z)
      have hlt : sN σ < 4 := by have : ¬ sN σ = 4 := c2; omega
      refine lv_aload_n (pc := 34) hx hb dX2_addVoice_34 rfl (lv_at hl 0 rfl) ?_
      refine lv_aload_n (pc := 35) hx hb dX2_addVoice_35 rfl (lv_at hl 0 rfl) ?_
      refine va_get (v := .int (nI (sN σ))) (pc := 36) (D := gD g) (ci := 2) (C := RX2) (T := TX2) (N := 11) hx hb hts hinX2 hown hK hP 0 (ma0 g σ 0 mi ti rest) rfl 1 (by decide) (hts (.fieldLink RX2 42 "ChoirNotesModel" "voices" "I") (by decide +kernel)) (fun _ h9 => h9) rfl dX2_addVoice_36 ?_
      refine lv_iload_n (pc := 39) hx hb dX2_addVoice_39 rfl (lv_at hl 1 rfl) ?_
      refine lv_iload_n (pc := 40) hx hb dX2_addVoice_40 rfl (lv_at hl 2 rfl) ?_
      refine lv_iload_n (pc := 41) hx hb dX2_addVoice_41 rfl (lv_at hl 3 rfl) ?_
      refine va_callv (pc := 42) (va_runV (As := [.int (nI (sN σ)), .int (nI i), .int (nI j), .int (nI k)]) (rest := []) ⟨hx, hb, hml, hown, hts⟩ (cX2_set_m l g A σ rest 0 mi ti (sN σ) i j k hlt) (cwV 4 hts gX2_addVoice_X2_set rfl rfl rfl (by decide +kernel) ⟨Nat.le_of_ble_eq_true rfl, Nat.le_of_ble_eq_true rfl⟩) (cx_V (q0 := 0) (ci := 2) (r := (RX2, TX2, 11)) rfl (ma0 g σ 0 mi ti rest) hP hD hA hK hX hS) rfl rfl hl.1 rfl (lv_room (Nat.le_of_ble_eq_true rfl)) dX2_addVoice_42 ⟨Nat.le_of_ble_eq_true rfl, Nat.le_of_ble_eq_true rfl⟩) hS (fun _ _ h => h) (fun _ h => h) (fun u6 t6 H6 locs6 ht6 hvm6 hw6 hB6 hz6 hk6 hS => ?_)
      obtain ⟨hP, hD⟩ := hB6
      rw [ht6] at hP
      refine lv_aload_n (pc := 45) hx hb dX2_addVoice_45 rfl (lv_at hl 0 rfl) ?_
      refine va_get (v := .ref (gB g 1)) (pc := 46) (D := gD g) (ci := 2) (C := RX2) (T := TX2) (N := 11) hx hb hts hinX2 hown hK hP 0 (ma0 g (meS σ (sN σ) i j k) 0 mi ti rest) rfl 3 (by decide) (hts (.fieldLink RX2 13 "ChoirNotesModel" "clef" "[I") (by decide +kernel)) (fun _ h9 => h9) rfl dX2_addVoice_46 ?_
      refine lv_aload_n (pc := 49) hx hb dX2_addVoice_49 rfl (lv_at hl 0 rfl) ?_
      refine va_get (v := .int (nI (sN (meS σ (sN σ) i j k)))) (pc := 50) (D := gD g) (ci := 2) (C := RX2) (T := TX2) (N := 11) hx hb hts hinX2 hown hK hP 0 (ma0 g (meS σ (sN σ) i j k) 0 mi ti rest) rfl 1 (by decide) (hts (.fieldLink RX2 42 "ChoirNotesModel" "voices" "I") (by decide +kernel)) (fun _ h9 => h9) rfl dX2_addVoice_50 ?_
      refine lv_iconst (v := (-1)) (pc := 53) hx hb dX2_addVoice_53 (by decide) ?_
      refine k_iast (pc := 54) (ws' := ((mw g (meS σ (sN σ) i j k) 0 mi ti ++ rest).set 2 (gB g 1, .inl (gI g, 4, .inl (upd (fun v => if v < sN (meS σ (sN σ) i j k) then sL (meS σ (sN σ) i j k) v else 0) (sN σ) (-1)))))) hx hb hK hP hD hS 2 0 (ma2 g (meS σ (sN σ) i j k) 0 mi ti rest) rfl (sN σ) (congrArg nI (sN_meS _ _ _ _ _)) (by omega) (by decide) rfl dX2_addVoice_54 (fun H7 locs7 hP hD hS => ?_)
      refine lv_aload_n (pc := 55) hx hb dX2_addVoice_55 rfl (lv_at hl 0 rfl) ?_
      refine lv_dup (pc := 56) hx hb dX2_addVoice_56 rfl ?_
      refine va_get (v := .int (nI (sN (meS σ (sN σ) i j k)))) (pc := 57) (D := gD g) (ci := 2) (C := RX2) (T := TX2) (N := 11) hx hb hts hinX2 hown hK hP 0 (a := gM g) (fs := [.int 0, .int (nI (sN (meS σ (sN σ) i j k))), .ref (gB g 0), .ref (gB g 1), .ref (gB g 2), .ref (gB g 3), .ref (gB g 4), .ref (gB g 5), .ref (gB g 6), .ref (gB g 7), .ref (gB g 8)]) rfl rfl 1 (by decide) (hts (.fieldLink RX2 42 "ChoirNotesModel" "voices" "I") (by decide +kernel)) (fun _ h9 => h9) rfl dX2_addVoice_57 ?_
      refine k_cong (y := nI (sN σ)) (congrArg nI (sN_meS _ _ _ _ _)) ?_
      refine lv_iconst (v := 1) (pc := 60) hx hb dX2_addVoice_60 (by decide) ?_
      refine lv_iadd (pc := 61) hx hb dX2_addVoice_61 ?_
      refine k_cong (y := nI (sN σ + 1)) (nI_add (sN σ) 1) ?_
      refine va_put (pc := 62) (D := gD g) (ci := 2) (v := .int (nI (sN σ + 1))) (ty := .int) (C := RX2) (T := TX2) (N := 11) hx hb hts hinX2 tyX2 tyX2_ok nmX2 hown hK hP hD hS 0 (a := gM g) (fs := [.int 0, .int (nI (sN (meS σ (sN σ) i j k))), .ref (gB g 0), .ref (gB g 1), .ref (gB g 2), .ref (gB g 3), .ref (gB g 4), .ref (gB g 5), .ref (gB g 6), .ref (gB g 7), .ref (gB g 8)]) rfl rfl 1 (by decide) (hts (.fieldLink RX2 42 "ChoirNotesModel" "voices" "I") (by decide +kernel)) (fun _ h9 => h9) rfl (by decide +kernel) rfl rfl (Nat.le_of_ble_eq_true rfl) dX2_addVoice_62 (fun H8 locs8 hP hD hS => ?_)
      have hP : va_P (gD g) vwCl (mw g (uN (meS σ (sN σ) i j k) (sN σ + 1)) 0 mi ti ++ rest) H8 := (ms_av g (meS σ (sN σ) i j k) 0 mi ti rest (sN_meS _ _ _ _ _) (by rw [sL_meS]; exact (hI.2.2.1 _ (Nat.le_refl _)).1)) ▸ hP
      have hD : va_D A (mw g (uN (meS σ (sN σ) i j k) (sN σ + 1)) 0 mi ti ++ rest) := (ms_av g (meS σ (sN σ) i j k) 0 mi ti rest (sN_meS _ _ _ _ _) (by rw [sL_meS]; exact (hI.2.2.1 _ (Nat.le_refl _)).1)) ▸ hD
      refine lv_aload_n (pc := 65) hx hb dX2_addVoice_65 rfl (lv_at hl 0 rfl) ?_
      refine va_get (v := .int (nI (sN (uN (meS σ (sN σ) i j k) (sN σ + 1))))) (pc := 66) (D := gD g) (ci := 2) (C := RX2) (T := TX2) (N := 11) hx hb hts hinX2 hown hK hP 0 (ma0 g (uN (meS σ (sN σ) i j k) (sN σ + 1)) 0 mi ti rest) rfl 1 (by decide) (hts (.fieldLink RX2 42 "ChoirNotesModel" "voices" "I") (by decide +kernel)) (fun _ h9 => h9) rfl dX2_addVoice_66 ?_
      refine lv_iconst (v := 1) (pc := 69) hx hb dX2_addVoice_69 (by decide) ?_
      refine lv_isub (pc := 70) hx hb dX2_addVoice_70 ?_
      refine k_cong (y := nI (sN σ)) (by simp only [sN_uN]; exact nI_pred _) ?_
      have hcd : cd_addVoice σ (nI i) (nI j) (nI k) = 0 := by simp [cd_addVoice, c1, cm, hlt]
      rw [hcd]
      exact W.iret hx hb hr (fun t ht hW => ⟨⟨_, (mi, ti), rfl, (fun _ => rfl), by rw [ht]; exact hP, hD⟩, hS.F ht⟩) hS.2.2 dX2_addVoice_71
    · have c2 : sN σ = 4 := (nI_eq (a := sN σ) (b := 4) (by omega) (by omega)).mp c2
      have hlt : ¬ sN σ < 4 := by have : sN σ = 4 := c2; omega
      refine lv_aload_n (pc := 28) hx hb dX2_addVoice_28 rfl (lv_at hl 0 rfl) ?_
      refine lv_iconst (v := 2) (pc := 29) hx hb dX2_addVoice_29 (by decide) ?_
      refine va_calli (pc := 30) (va_runV (As := [.int 2]) (rest := []) ⟨hx, hb, hml, hown, hts⟩ (cX2_fail_m l g A σ rest 0 mi ti 2) (cwV 1 hts gX2_addVoice_X2_fail rfl rfl rfl (by decide +kernel) ⟨Nat.le_of_ble_eq_true rfl, Nat.le_of_ble_eq_true rfl⟩) (cx_V (q0 := 0) (ci := 2) (r := (RX2, TX2, 11)) rfl (ma0 g σ 0 mi ti rest) hP hD hA hK hX hS) rfl rfl hl.1 rfl (lv_room (Nat.le_of_ble_eq_true rfl)) dX2_addVoice_30 ⟨Nat.le_of_ble_eq_true rfl, Nat.le_of_ble_eq_true rfl⟩) hS (fun _ _ h => h) (fun _ h => h) (fun r_9 u10 t10 H10 locs10 ht10 hvm10 hw10 hB10 hz10 hk10 hS => ?_)
      obtain ⟨hP, hD⟩ := hB10
      rw [ht10] at hP
      subst hw10
      have hcd : cd_addVoice σ (nI i) (nI j) (nI k) = 2 := by simp [cd_addVoice, c1, cm, hlt]
      rw [hcd]
      exact W.iret hx hb hr (fun t ht hW => ⟨⟨_, (mi, ti), rfl, (fun q => absurd q (by decide)), by rw [ht]; exact hP, hD⟩, hS.F ht⟩) hS.2.2 dX2_addVoice_33
  · have c1 := bI_0.mp c1
    refine lv_aload_n (pc := 14) hx hb dX2_addVoice_14 rfl (lv_at hl 0 rfl) ?_
    refine lv_iconst (v := 1) (pc := 15) hx hb dX2_addVoice_15 (by decide) ?_
    refine va_calli (pc := 16) (va_runV (As := [.int 1]) (rest := []) ⟨hx, hb, hml, hown, hts⟩ (cX2_fail_m l g A σ rest 0 mi ti 1) (cwV 1 hts gX2_addVoice_X2_fail rfl rfl rfl (by decide +kernel) ⟨Nat.le_of_ble_eq_true rfl, Nat.le_of_ble_eq_true rfl⟩) (cx_V (q0 := 0) (ci := 2) (r := (RX2, TX2, 11)) rfl (ma0 g σ 0 mi ti rest) hP hD hA hK hX hS) rfl rfl hl.1 rfl (lv_room (Nat.le_of_ble_eq_true rfl)) dX2_addVoice_16 ⟨Nat.le_of_ble_eq_true rfl, Nat.le_of_ble_eq_true rfl⟩) hS (fun _ _ h => h) (fun _ h => h) (fun r_11 u12 t12 H12 locs12 ht12 hvm12 hw12 hB12 hz12 hk12 hS => ?_)
    obtain ⟨hP, hD⟩ := hB12
    rw [ht12] at hP
    subst hw12
    have hcd : cd_addVoice σ a0 b0 c0 = 1 := by simp [cd_addVoice, c1]
    rw [hcd]
    exact W.iret hx hb hr (fun t ht hW => ⟨⟨_, (mi, ti), rfl, (fun q => absurd q (by decide)), by rw [ht]; exact hP, hD⟩, hS.F ht⟩) hS.2.2 dX2_addVoice_19
