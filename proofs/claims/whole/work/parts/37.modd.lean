/-! THE REFERENCE: calls of a voice -/
theorem sg_d {a b : Nat} (ha : a < 2 ^ 31) (hb : b < 2 ^ 31) : (nI a - nI b).toInt = (a : Int) - b := by
  rw [Int32.toInt_sub, nI_toInt ha, nI_toInt hb, Int.bmod_eq_of_le (by omega) (by omega)]
theorem sg_br1 {a b : Nat} (h : 0 ≤ nI a - nI b) (ha : a < 2 ^ 31) (hb : b < 2 ^ 31) : b ≤ a := by
  rw [Int32.le_iff_toInt_le, sg_d ha hb] at h
  have : (0 : Int32).toInt = 0 := by decide
  omega
theorem sg_br2 {a b : Nat} (h : ¬ 0 ≤ nI a - nI b) (ha : a < 2 ^ 31) (hb : b < 2 ^ 31) : a < b := by
  rcases Nat.lt_or_ge a b with q | q
  · exact q
  · refine absurd ?_ h
    rw [pk_sub q]
    exact nI_pos' (by omega)
set_option maxHeartbeats 4000000 in
set_option maxRecDepth 100000 in
/-- signAt -/
theorem cX2_signAt_m (l : Launch) (g : GA) (A : Nat → Prop) (σ : St) (rest : va_W) (th : Int32) (mi ti : Nat → Int32) (p0 t0 : Int32) (hI : Inv σ) : Met l yX2_signAt wsX2_signAt ({ frames := 2, cells := 0, slots := 0, locals := 43 }) (va_Pc [.ref (gM g), .int p0, .int t0] (Cx g A (mw g σ th mi ti ++ rest))) (va_Qi (fun (r : Int32) (u : (Nat → Int32) × (Nat → Int32)) => cdVR σ p0 (!decide (t0 < 0)) = 0 → r = sgAt σ (ix p0) t0 (sC σ (ix p0))) (fun u t => kB g A (mw g σ (nI (cdVR σ p0 (!decide (t0 < 0)))) u.1 u.2 ++ rest) t) A) 0 0 A := by
  refine Met.ofW (cc := cX2_signAt) (maxL := 5) (ret := (some .int)) (by decide) rfl ?_
  intro p e s m args below meth c s₁ B hml hv0
  obtain ⟨rfl, hP, hD, hA, hK, hX⟩ := hv0
  have hx := B.exec
  have hb := B.bytes
  have hr := B.returns
  have hts := atoms_spec (ws := wsX2_signAt) B.pre
  have hown : s.vm.findClass RX2 = some m.cls := findClass_of_methodNamed B.named
  have hlocks := B.notSynchronized
  have hS : va_S A s.heap s.heap [] := va_S.rf
  have hinX2 : ∀ w ∈ u_ws RX2 TX2 11, w ∈ wsX2_signAt := by decide +kernel
  have hl := lv_entry ([.ref (gM g), .int p0, .int t0]) (n := 5) (Nat.le_of_ble_eq_true rfl)
  rw [lg_entry_eq]
  generalize (lg_sl ([.ref (gM g), .int p0, .int t0]) ++ List.replicate (5 - (lg_sl ([.ref (gM g), .int p0, .int t0])).length) Slot.unset).toArray = ls at hl ⊢
  have hl : lv_has ls 5 [(0, .ref (gM g)), (1, .int p0), (2, .int t0)] := hl
  refine lv_aload_n (pc := 0) hx hb dX2_signAt_0 rfl (lv_at hl 0 rfl) ?_
  refine lv_iconst (v := 0) (pc := 1) hx hb dX2_signAt_1 (by decide) ?_
  refine va_put (pc := 2) (D := gD g) (ci := 2) (v := .int 0) (ty := .int) (C := RX2) (T := TX2) (N := 11) hx hb hts hinX2 tyX2 tyX2_ok nmX2 hown hK hP hD hS 0 (ma0 g σ th mi ti rest) rfl 0 (by decide) (hts (.fieldLink RX2 38 "ChoirNotesModel" "thrown" "I") (by decide +kernel)) (fun _ h9 => h9) rfl (by decide +kernel) rfl rfl (Nat.le_of_ble_eq_true rfl) dX2_signAt_2 (fun H1 locs1 hP hD hS => ?_)
  have hP : va_P (gD g) vwCl (mw g σ 0 mi ti ++ rest) H1 := hP
  have hD : va_D A (mw g σ 0 mi ti ++ rest) := hD
  refine lv_aload_n (pc := 5) hx hb dX2_signAt_5 rfl (lv_at hl 0 rfl) ?_
  refine lv_iload_n (pc := 6) hx hb dX2_signAt_6 rfl (lv_at hl 1 rfl) ?_
  refine k_ri (pc := 7) (va_runV (As := [.int p0]) (rest := []) ⟨hx, hb, hml, hown, hts⟩ (cX2_isVoice_m l g A σ rest 0 mi ti p0 hI) (cwV 1 hts gX2_signAt_X2_isVoice rfl rfl rfl (by decide +kernel) ⟨Nat.le_of_ble_eq_true rfl, Nat.le_of_ble_eq_true rfl⟩) (cx_V (q0 := 0) (ci := 2) (r := (RX2, TX2, 11)) rfl (ma0 g σ 0 mi ti rest) hP hD hA hK hX hS) rfl rfl hl.1 rfl (lv_room (Nat.le_of_ble_eq_true rfl)) dX2_signAt_7 ⟨Nat.le_of_ble_eq_true rfl, Nat.le_of_ble_eq_true rfl⟩) (fun r_2 hr_2 => ?_)
  subst hr_2
  refine lv_if_ne (tgt := 19) (pc := 10) hx hb dX2_signAt_10 (by decide) (fun c1 => ?_) (fun c1 => ?_)
  · have c1 := bI_n0.mp c1
    obtain ⟨v, hvn, rfl⟩ := okV_o hI.N c1
    have hvv4 : v < 4 := hI.v4 hvn
    have hixv : ix (nI v) = v := ix_n (by omega)
    have hCv := hI.C v
    rw [hixv]
    refine lv_iload_n (pc := 19) hx hb dX2_signAt_19 rfl (lv_at hl 2 rfl) ?_
    refine lv_if_ge (tgt := 29) (pc := 20) hx hb dX2_signAt_20 (by decide) (fun c2 => ?_) (fun c2 => ?_)
    · have c3 : (decide (t0 < 0)) = false := decide_eq_false (Int32.not_lt.mpr c2)
      obtain ⟨tn, htn, rfl⟩ := nI_of (Int32.not_lt.mpr c2)
      refine lv_iload_n (pc := 29) hx hb dX2_signAt_29 rfl (lv_at hl 2 rfl) ?_
      refine lv_istore_n (lv' := [(3, .int (nI tn)), (0, .ref (gM g)), (1, .int (nI v)), (2, .int (nI tn))]) (pc := 30) hx hb dX2_signAt_30 rfl hl (by decide) rfl (fun ls hl => ?_)
      refine lv_iconst (v := 0) (pc := 31) hx hb dX2_signAt_31 (by decide) ?_
      refine lv_istore (lv' := [(4, .int 0), (3, .int (nI tn)), (0, .ref (gM g)), (1, .int (nI v)), (2, .int (nI tn))]) (pc := 32) hx hb dX2_signAt_32 hl (by decide) rfl (fun ls hl => ?_)
      refine k_loop1 (pc := 34) (nL := 5) (fun (i : Nat) => (i ≤ sC σ v ∧ bg σ v i ≤ tn) ∧ sgAt σ v (nI tn) i = -1) (fun (i : Nat) => sC σ v - i) (fun (i : Nat) => [(4, .int (nI i)), (3, .int (nI (tn - bg σ v i))), (0, .ref (gM g)), (1, .int (nI v))]) (fun i hJ ih_34 ls hl => ?_) 0 ⟨⟨Nat.zero_le _, Nat.zero_le _⟩, rfl⟩ (lv_sub hl [0, 1, 2, 3] rfl)
      obtain ⟨⟨hi, hbt⟩, hsg⟩ := hJ
      have hl : lv_has ls 5 [(4, .int (nI i)), (3, .int (nI (tn - bg σ v i))), (0, .ref (gM g)), (1, .int (nI v))] := hl
      refine lv_iload (pc := 34) hx hb dX2_signAt_34 (lv_at hl 0 rfl) ?_
      refine lv_aload_n (pc := 36) hx hb dX2_signAt_36 rfl (lv_at hl 2 rfl) ?_
      refine va_get (v := .ref (gB g 0)) (pc := 37) (D := gD g) (ci := 2) (C := RX2) (T := TX2) (N := 11) hx hb hts hinX2 hown hK hP 0 (ma0 g σ 0 mi ti rest) rfl 2 (by decide) (hts (.fieldLink RX2 9 "ChoirNotesModel" "many" "[I") (by decide +kernel)) (fun _ h9 => h9) rfl dX2_signAt_37 ?_
      refine lv_iload_n (pc := 40) hx hb dX2_signAt_40 rfl (lv_at hl 3 rfl) ?_
      refine k_iald (pc := 41) (x := nI (sC σ v)) hx hb hK hP 1 0 (ma1 g σ 0 mi ti rest) rfl v rfl (by omega) (by decide) rfl dX2_signAt_41 ?_
      refine lv_icmp_ge (tgt := 68) (pc := 42) hx hb dX2_signAt_42 (by decide) (fun k1 => ?_) (fun k1 => ?_)
      · have k1 : sC σ v ≤ i := (nI_leI (a := sC σ v) (b := i) (by omega) (by omega)).mp k1
        refine lv_iconst (v := (-1)) (pc := 68) hx hb dX2_signAt_68 (by decide) ?_
        have hcd : cdVR σ (nI v) (!decide (nI tn < 0)) = 0 := by simp [cdVR, c1, hixv, c3]
        rw [hcd]
        exact W.iret hx hb hr (fun t ht hW => ⟨⟨_, (mi, ti), rfl, (fun _ => (by rw [← (show i = sC σ v by omega)]; exact hsg.symm)), by rw [ht]; exact hP, hD⟩, hS.F ht⟩) hS.2.2 dX2_signAt_69
      · have k1 : ¬ (sC σ v ≤ i) := fun z => k1 ((nI_leI (a := sC σ v) (b := i) (by omega) (by omega)).mpr z)
        have hbb := hI.bgC v (show i + 1 ≤ sC σ v by omega)
        have hbl : bg σ v (i + 1) = bg σ v i + lg σ v i := rfl
        refine lv_iload_n (pc := 45) hx hb dX2_signAt_45 rfl (lv_at hl 1 rfl) ?_
        refine lv_aload_n (pc := 46) hx hb dX2_signAt_46 rfl (lv_at hl 2 rfl) ?_
        refine lv_iload_n (pc := 47) hx hb dX2_signAt_47 rfl (lv_at hl 3 rfl) ?_
        refine lv_iload (pc := 48) hx hb dX2_signAt_48 (lv_at hl 0 rfl) ?_
        refine k_ri (pc := 50) (va_runV (As := [.int (nI v), .int (nI i)]) (rest := [.int (nI (tn - bg σ v i))]) ⟨hx, hb, hml, hown, hts⟩ (cX2_lasts_m l g A σ rest 0 mi ti v i hvv4 (by omega) hI) (cwV 2 hts gX2_signAt_X2_lasts rfl rfl rfl (by decide +kernel) ⟨Nat.le_of_ble_eq_true rfl, Nat.le_of_ble_eq_true rfl⟩) (cx_V (q0 := 0) (ci := 2) (r := (RX2, TX2, 11)) rfl (ma0 g σ 0 mi ti rest) hP hD hA hK hX hS) rfl rfl hl.1 rfl (lv_room (Nat.le_of_ble_eq_true rfl)) dX2_signAt_50 ⟨Nat.le_of_ble_eq_true rfl, Nat.le_of_ble_eq_true rfl⟩) (fun r_6 hr_6 => ?_)
        subst hr_6
        refine lv_isub (pc := 53) hx hb dX2_signAt_53 ?_
        refine lv_topi (fun xl exl => ?_)
        refine lv_istore_n (lv' := [(3, .int xl), (4, .int (nI i)), (0, .ref (gM g)), (1, .int (nI v))]) (pc := 54) hx hb dX2_signAt_54 rfl hl (by decide) rfl (fun ls hl => ?_)
        refine lv_iload_n (pc := 55) hx hb dX2_signAt_55 rfl (lv_at hl 0 rfl) ?_
        refine lv_if_ge (tgt := 62) (pc := 56) hx hb dX2_signAt_56 (by decide) (fun k2 => ?_) (fun k2 => ?_)
        · have k3 : xl = nI (tn - bg σ v (i + 1)) := by rw [exl, pk_sub (sg_br1 (exl ▸ k2) (by omega) (by omega))]; exact congrArg nI (by show tn - bg σ v i - lg σ v i = tn - (bg σ v i + lg σ v i); omega)
          have k4 : lg σ v i ≤ tn - bg σ v i := sg_br1 (exl ▸ k2) (by omega) (by omega)
          subst k3
          refine lv_iinc (v := nI (i + 1)) (lv' := [(4, .int (nI (i + 1))), (3, .int (nI (tn - bg σ v (i + 1)))), (0, .ref (gM g)), (1, .int (nI v))]) (pc := 62) hx hb dX2_signAt_62 hl (k := 1) rfl (nI_1 _) (by decide) rfl (fun ls hl => ?_)
          refine lv_goto (tgt := 34) (pc := 65) hx hb dX2_signAt_65 (by decide) ?_
          exact ih_34 (i + 1) ⟨⟨by omega, by omega⟩, sgAt_f hsg (fun q => absurd ((nI_ltI (by omega) (by omega)).mp q) (by omega))⟩ (by omega) _ (lv_sub hl [0, 1, 2, 3] rfl)
        · refine lv_iload (pc := 59) hx hb dX2_signAt_59 (lv_at hl 1 rfl) ?_
          have hcd : cdVR σ (nI v) (!decide (nI tn < 0)) = 0 := by simp [cdVR, c1, hixv, c3]
          rw [hcd]
          exact W.iret hx hb hr (fun t ht hW => ⟨⟨_, (mi, ti), rfl, (fun _ => (sgAt_t hsg ((nI_ltI (by omega) (by omega)).mpr (by have := sg_br2 (exl ▸ k2) (by omega) (by omega); omega)) (by omega) (by omega)).symm), by rw [ht]; exact hP, hD⟩, hS.F ht⟩) hS.2.2 dX2_signAt_61
    · have c3 : (decide (t0 < 0)) = true := decide_eq_true (Int32.not_le.mp c2)
      refine lv_aload_n (pc := 23) hx hb dX2_signAt_23 rfl (lv_at hl 0 rfl) ?_
      refine lv_iconst (v := 2) (pc := 24) hx hb dX2_signAt_24 (by decide) ?_
      refine va_calli (pc := 25) (va_runV (As := [.int 2]) (rest := []) ⟨hx, hb, hml, hown, hts⟩ (cX2_fail_m l g A σ rest 0 mi ti 2) (cwV 1 hts gX2_signAt_X2_fail rfl rfl rfl (by decide +kernel) ⟨Nat.le_of_ble_eq_true rfl, Nat.le_of_ble_eq_true rfl⟩) (cx_V (q0 := 0) (ci := 2) (r := (RX2, TX2, 11)) rfl (ma0 g σ 0 mi ti rest) hP hD hA hK hX hS) rfl rfl hl.1 rfl (lv_room (Nat.le_of_ble_eq_true rfl)) dX2_signAt_25 ⟨Nat.le_of_ble_eq_true rfl, Nat.le_of_ble_eq_true rfl⟩) hS (fun _ _ h => h) (fun _ h => h) (fun r_8 u9 t9 H9 locs9 ht9 hvm9 hw9 hB9 hz9 hk9 hS => ?_)
      obtain ⟨hP, hD⟩ := hB9
      rw [ht9] at hP
      subst hw9
      have hcd : cdVR σ (nI v) (!decide (t0 < 0)) = 2 := by simp [cdVR, c1, hixv, c3]
      rw [hcd]
      exact W.iret hx hb hr (fun t ht hW => ⟨⟨_, (mi, ti), rfl, (fun q => absurd q (by decide)), by rw [ht]; exact hP, hD⟩, hS.F ht⟩) hS.2.2 dX2_signAt_28
  · have c1 := bI_0.mp c1
    refine lv_aload_n (pc := 13) hx hb dX2_signAt_13 rfl (lv_at hl 0 rfl) ?_
    refine lv_iconst (v := 1) (pc := 14) hx hb dX2_signAt_14 (by decide) ?_
    refine va_calli (pc := 15) (va_runV (As := [.int 1]) (rest := []) ⟨hx, hb, hml, hown, hts⟩ (cX2_fail_m l g A σ rest 0 mi ti 1) (cwV 1 hts gX2_signAt_X2_fail rfl rfl rfl (by decide +kernel) ⟨Nat.le_of_ble_eq_true rfl, Nat.le_of_ble_eq_true rfl⟩) (cx_V (q0 := 0) (ci := 2) (r := (RX2, TX2, 11)) rfl (ma0 g σ 0 mi ti rest) hP hD hA hK hX hS) rfl rfl hl.1 rfl (lv_room (Nat.le_of_ble_eq_true rfl)) dX2_signAt_15 ⟨Nat.le_of_ble_eq_true rfl, Nat.le_of_ble_eq_true rfl⟩) hS (fun _ _ h => h) (fun _ h => h) (fun r_10 u11 t11 H11 locs11 ht11 hvm11 hw11 hB11 hz11 hk11 hS => ?_)
    obtain ⟨hP, hD⟩ := hB11
    rw [ht11] at hP
    subst hw11
    have hcd : cdVR σ p0 (!decide (t0 < 0)) = 1 := by simp [cdVR, c1]
    rw [hcd]
    exact W.iret hx hb hr (fun t ht hW => ⟨⟨_, (mi, ti), rfl, (fun q => absurd q (by decide)), by rw [ht]; exact hP, hD⟩, hS.F ht⟩) hS.2.2 dX2_signAt_18
set_option maxHeartbeats 4000000 in
set_option maxRecDepth 100000 in
/-- fits -/
theorem cX2_fits_m (l : Launch) (g : GA) (A : Nat → Prop) (σ : St) (rest : va_W) (th : Int32) (mi ti : Nat → Int32) (p0 : Int32) (c0 : Int32) (hI : Inv σ) : Met l yX2_fits wsX2_fits ({ frames := 2, cells := 0, slots := 0, locals := 45 }) (va_Pc [.ref (gM g), .int p0, .int c0] (Cx g A (mw g σ th mi ti ++ rest))) (va_Qi (fun (r : Int32) (u : (Nat → Int32) × (Nat → Int32)) => cdVR σ p0 (inr 0 5 c0) = 0 → r = bI (ft σ (ix p0) c0)) (fun u t => kB g A (mw g σ (nI (cdVR σ p0 (inr 0 5 c0))) u.1 u.2 ++ rest) t) A) 0 0 A := by
  refine Met.ofW (cc := cX2_fits) (maxL := 3) (ret := (some .boolean)) (by decide) rfl ?_
  intro p e s m args below meth c s₁ B hml hv0
  obtain ⟨rfl, hP, hD, hA, hK, hX⟩ := hv0
  have hx := B.exec
  have hb := B.bytes
  have hr := B.returns
  have hts := atoms_spec (ws := wsX2_fits) B.pre
  have hown : s.vm.findClass RX2 = some m.cls := findClass_of_methodNamed B.named
  have hlocks := B.notSynchronized
  have hS : va_S A s.heap s.heap [] := va_S.rf
  have hinX2 : ∀ w ∈ u_ws RX2 TX2 11, w ∈ wsX2_fits := by decide +kernel
  have hl := lv_entry ([.ref (gM g), .int p0, .int c0]) (n := 3) (Nat.le_of_ble_eq_true rfl)
  rw [lg_entry_eq]
  generalize (lg_sl ([.ref (gM g), .int p0, .int c0]) ++ List.replicate (3 - (lg_sl ([.ref (gM g), .int p0, .int c0])).length) Slot.unset).toArray = ls at hl ⊢
  have hl : lv_has ls 3 [(0, .ref (gM g)), (1, .int p0), (2, .int c0)] := hl
  refine lv_aload_n (pc := 0) hx hb dX2_fits_0 rfl (lv_at hl 0 rfl) ?_
  refine lv_aload_n (pc := 1) hx hb dX2_fits_1 rfl (lv_at hl 0 rfl) ?_
  refine lv_iload_n (pc := 2) hx hb dX2_fits_2 rfl (lv_at hl 1 rfl) ?_
  refine k_ri (pc := 3) (va_runV (As := [.int p0]) (rest := [.ref (gM g)]) ⟨hx, hb, hml, hown, hts⟩ (cX2_isVoice_m l g A σ rest th mi ti p0 hI) (cwV 1 hts gX2_fits_X2_isVoice rfl rfl rfl (by decide +kernel) ⟨Nat.le_of_ble_eq_true rfl, Nat.le_of_ble_eq_true rfl⟩) (cx_V (q0 := 0) (ci := 2) (r := (RX2, TX2, 11)) rfl (ma0 g σ th mi ti rest) hP hD hA hK hX hS) rfl rfl hl.1 rfl (lv_room (Nat.le_of_ble_eq_true rfl)) dX2_fits_3 ⟨Nat.le_of_ble_eq_true rfl, Nat.le_of_ble_eq_true rfl⟩) (fun r_1 hr_1 => ?_)
  subst hr_1
  refine lv_if_ne (tgt := 13) (pc := 6) hx hb dX2_fits_6 (by decide) (fun c1 => ?_) (fun c1 => ?_)
  · have c1 := bI_n0.mp c1
    obtain ⟨v, hvn, rfl⟩ := okV_o hI.N c1
    have hvv4 : v < 4 := hI.v4 hvn
    have hixv : ix (nI v) = v := ix_n (by omega)
    have hCv := hI.C v
    rw [hixv]
    refine lv_iload_n (pc := 13) hx hb dX2_fits_13 rfl (lv_at hl 2 rfl) ?_
    refine lv_iconst (v := 0) (pc := 14) hx hb dX2_fits_14 (by decide) ?_
    refine lv_iconst (v := 5) (pc := 15) hx hb dX2_fits_15 (by decide) ?_
    refine k_ri (pc := 16) (va_runS (As := [.int c0, .int 0, .int 5]) (rest := [.ref (gM g)]) ⟨hx, hb, hml, hown, hts⟩ (cX2_isIn_m l g A σ rest th mi ti c0 0 5) (va_cwS 3 hts gX2_fits_X2_isIn rfl rfl rfl (by decide +kernel) ⟨Nat.le_of_ble_eq_true rfl, Nat.le_of_ble_eq_true rfl⟩) (cx_S hP hD hA hK hX hS) rfl rfl hl.1 rfl (lv_room (Nat.le_of_ble_eq_true rfl)) dX2_fits_16 ⟨Nat.le_of_ble_eq_true rfl, Nat.le_of_ble_eq_true rfl⟩) (fun r_3 hr_3 => ?_)
    subst hr_3
    refine lv_if_eq (tgt := 26) (pc := 19) hx hb dX2_fits_19 (by decide) (fun c2 => ?_) (fun c2 => ?_)
    · have c2 := bI_0.mp c2
      refine lv_iconst (v := 2) (pc := 26) hx hb dX2_fits_26 (by decide) ?_
      refine va_put (pc := 27) (D := gD g) (ci := 2) (v := .int 2) (ty := .int) (C := RX2) (T := TX2) (N := 11) hx hb hts hinX2 tyX2 tyX2_ok nmX2 hown hK hP hD hS 0 (ma0 g σ th mi ti rest) rfl 0 (by decide) (hts (.fieldLink RX2 38 "ChoirNotesModel" "thrown" "I") (by decide +kernel)) (fun _ h9 => h9) rfl (by decide +kernel) rfl rfl (Nat.le_of_ble_eq_true rfl) dX2_fits_27 (fun H5 locs5 hP hD hS => ?_)
      have hP : va_P (gD g) vwCl (mw g σ 2 mi ti ++ rest) H5 := hP
      have hD : va_D A (mw g σ 2 mi ti ++ rest) := hD
      refine lv_aload_n (pc := 30) hx hb dX2_fits_30 rfl (lv_at hl 0 rfl) ?_
      refine va_get (v := .int 2) (pc := 31) (D := gD g) (ci := 2) (C := RX2) (T := TX2) (N := 11) hx hb hts hinX2 hown hK hP 0 (ma0 g σ 2 mi ti rest) rfl 0 (by decide) (hts (.fieldLink RX2 38 "ChoirNotesModel" "thrown" "I") (by decide +kernel)) (fun _ h9 => h9) rfl dX2_fits_31 ?_
      refine lv_if_ne (tgt := 50) (pc := 34) hx hb dX2_fits_34 (by decide) (fun c_6 => ?_) (fun c_6 => ?_)
      · refine lv_iconst (v := 0) (pc := 50) hx hb dX2_fits_50 (by decide) ?_
        have hcd : cdVR σ (nI v) (inr 0 5 c0) = 2 := by simp [cdVR, c1, hixv, c2]
        rw [hcd]
        exact W.zret (v := 0) hx hb hr rfl (fun t ht hW => ⟨⟨_, (mi, ti), rfl, (fun q => absurd q (by decide)), by rw [ht]; exact hP, hD⟩, hS.F ht⟩) hS.2.2 dX2_fits_51
      · exact absurd c_6 (by decide)
    · have c2 := bI_n0.mp c2
      refine lv_iconst (v := 0) (pc := 22) hx hb dX2_fits_22 (by decide) ?_
      refine lv_goto (tgt := 27) (pc := 23) hx hb dX2_fits_23 (by decide) ?_
      refine va_put (pc := 27) (D := gD g) (ci := 2) (v := .int 0) (ty := .int) (C := RX2) (T := TX2) (N := 11) hx hb hts hinX2 tyX2 tyX2_ok nmX2 hown hK hP hD hS 0 (ma0 g σ th mi ti rest) rfl 0 (by decide) (hts (.fieldLink RX2 38 "ChoirNotesModel" "thrown" "I") (by decide +kernel)) (fun _ h9 => h9) rfl (by decide +kernel) rfl rfl (Nat.le_of_ble_eq_true rfl) dX2_fits_27 (fun H7 locs7 hP hD hS => ?_)
      have hP : va_P (gD g) vwCl (mw g σ 0 mi ti ++ rest) H7 := hP
      have hD : va_D A (mw g σ 0 mi ti ++ rest) := hD
      refine lv_aload_n (pc := 30) hx hb dX2_fits_30 rfl (lv_at hl 0 rfl) ?_
      refine va_get (v := .int 0) (pc := 31) (D := gD g) (ci := 2) (C := RX2) (T := TX2) (N := 11) hx hb hts hinX2 hown hK hP 0 (ma0 g σ 0 mi ti rest) rfl 0 (by decide) (hts (.fieldLink RX2 38 "ChoirNotesModel" "thrown" "I") (by decide +kernel)) (fun _ h9 => h9) rfl dX2_fits_31 ?_
      refine lv_if_ne (tgt := 50) (pc := 34) hx hb dX2_fits_34 (by decide) (fun c_8 => ?_) (fun c_8 => ?_)
      · exact absurd c_8 (by decide)
      · refine lv_aload_n (pc := 37) hx hb dX2_fits_37 rfl (lv_at hl 0 rfl) ?_
        refine lv_iload_n (pc := 38) hx hb dX2_fits_38 rfl (lv_at hl 1 rfl) ?_
        refine lv_iload_n (pc := 39) hx hb dX2_fits_39 rfl (lv_at hl 2 rfl) ?_
        refine k_ri (pc := 40) (va_runV (As := [.int (nI v), .int c0]) (rest := []) ⟨hx, hb, hml, hown, hts⟩ (cX2_fit_m l g A σ rest 0 mi ti v c0 hvv4 hI) (cwV 2 hts gX2_fits_X2_fit rfl rfl rfl (by decide +kernel) ⟨Nat.le_of_ble_eq_true rfl, Nat.le_of_ble_eq_true rfl⟩) (cx_V (q0 := 0) (ci := 2) (r := (RX2, TX2, 11)) rfl (ma0 g σ 0 mi ti rest) hP hD hA hK hX hS) rfl rfl hl.1 rfl (lv_room (Nat.le_of_ble_eq_true rfl)) dX2_fits_40 ⟨Nat.le_of_ble_eq_true rfl, Nat.le_of_ble_eq_true rfl⟩) (fun r_9 hr_9 => ?_)
        subst hr_9
        refine lv_if_eq (tgt := 50) (pc := 43) hx hb dX2_fits_43 (by decide) (fun c3 => ?_) (fun c3 => ?_)
        · have c3 := bI_0.mp c3
          refine lv_iconst (v := 0) (pc := 50) hx hb dX2_fits_50 (by decide) ?_
          have hcd : cdVR σ (nI v) (inr 0 5 c0) = 0 := by simp [cdVR, c1, hixv, c2, c3]
          rw [hcd]
          exact W.zret (v := 0) hx hb hr rfl (fun t ht hW => ⟨⟨_, (mi, ti), rfl, (fun _ => (by rw [c3]; rfl)), by rw [ht]; exact hP, hD⟩, hS.F ht⟩) hS.2.2 dX2_fits_51
        · have c3 := bI_n0.mp c3
          refine lv_iconst (v := 1) (pc := 46) hx hb dX2_fits_46 (by decide) ?_
          refine lv_goto (tgt := 51) (pc := 47) hx hb dX2_fits_47 (by decide) ?_
          have hcd : cdVR σ (nI v) (inr 0 5 c0) = 0 := by simp [cdVR, c1, hixv, c2, c3]
          rw [hcd]
          exact W.zret (v := 1) hx hb hr rfl (fun t ht hW => ⟨⟨_, (mi, ti), rfl, (fun _ => (by rw [c3]; rfl)), by rw [ht]; exact hP, hD⟩, hS.F ht⟩) hS.2.2 dX2_fits_51
  · have c1 := bI_0.mp c1
    refine lv_iconst (v := 1) (pc := 9) hx hb dX2_fits_9 (by decide) ?_
    refine lv_goto (tgt := 27) (pc := 10) hx hb dX2_fits_10 (by decide) ?_
    refine va_put (pc := 27) (D := gD g) (ci := 2) (v := .int 1) (ty := .int) (C := RX2) (T := TX2) (N := 11) hx hb hts hinX2 tyX2 tyX2_ok nmX2 hown hK hP hD hS 0 (ma0 g σ th mi ti rest) rfl 0 (by decide) (hts (.fieldLink RX2 38 "ChoirNotesModel" "thrown" "I") (by decide +kernel)) (fun _ h9 => h9) rfl (by decide +kernel) rfl rfl (Nat.le_of_ble_eq_true rfl) dX2_fits_27 (fun H11 locs11 hP hD hS => ?_)
    have hP : va_P (gD g) vwCl (mw g σ 1 mi ti ++ rest) H11 := hP
    have hD : va_D A (mw g σ 1 mi ti ++ rest) := hD
    refine lv_aload_n (pc := 30) hx hb dX2_fits_30 rfl (lv_at hl 0 rfl) ?_
    refine va_get (v := .int 1) (pc := 31) (D := gD g) (ci := 2) (C := RX2) (T := TX2) (N := 11) hx hb hts hinX2 hown hK hP 0 (ma0 g σ 1 mi ti rest) rfl 0 (by decide) (hts (.fieldLink RX2 38 "ChoirNotesModel" "thrown" "I") (by decide +kernel)) (fun _ h9 => h9) rfl dX2_fits_31 ?_
    refine lv_if_ne (tgt := 50) (pc := 34) hx hb dX2_fits_34 (by decide) (fun c_12 => ?_) (fun c_12 => ?_)
    · refine lv_iconst (v := 0) (pc := 50) hx hb dX2_fits_50 (by decide) ?_
      have hcd : cdVR σ p0 (inr 0 5 c0) = 1 := by simp [cdVR, c1]
      rw [hcd]
      exact W.zret (v := 0) hx hb hr rfl (fun t ht hW => ⟨⟨_, (mi, ti), rfl, (fun q => absurd q (by decide)), by rw [ht]; exact hP, hD⟩, hS.F ht⟩) hS.2.2 dX2_fits_51
    · exact absurd c_12 (by decide)
set_option maxHeartbeats 4000000 in
set_option maxRecDepth 100000 in
/-- clashesWith -/
theorem cX2_clashesWith_m (l : Launch) (g : GA) (A : Nat → Prop) (σ : St) (rest : va_W) (th : Int32) (mi ti : Nat → Int32) (p0 : Int32) (c0 : Int32) (hI : Inv σ) : Met l yX2_clashesWith wsX2_clashesWith ({ frames := 4, cells := 0, slots := 0, locals := 102 }) (va_Pc [.ref (gM g), .int p0, .int c0] (Cx g A (mw g σ th mi ti ++ rest))) (va_Qi (fun (r : Int32) (u : (Nat → Int32) × (Nat → Int32)) => cdVR σ p0 (inr 0 5 c0) = 0 → r = nI (cwN σ (ix p0) c0)) (fun u t => kB g A (mw g σ (nI (cdVR σ p0 (inr 0 5 c0))) u.1 u.2 ++ rest) t) A) 0 0 A := by
  refine Met.ofW (cc := cX2_clashesWith) (maxL := 3) (ret := (some .int)) (by decide) rfl ?_
  intro p e s m args below meth c s₁ B hml hv0
  obtain ⟨rfl, hP, hD, hA, hK, hX⟩ := hv0
  have hx := B.exec
  have hb := B.bytes
  have hr := B.returns
  have hts := atoms_spec (ws := wsX2_clashesWith) B.pre
  have hown : s.vm.findClass RX2 = some m.cls := findClass_of_methodNamed B.named
  have hlocks := B.notSynchronized
  have hS : va_S A s.heap s.heap [] := va_S.rf
  have hinX2 : ∀ w ∈ u_ws RX2 TX2 11, w ∈ wsX2_clashesWith := by decide +kernel
  have hl := lv_entry ([.ref (gM g), .int p0, .int c0]) (n := 3) (Nat.le_of_ble_eq_true rfl)
  rw [lg_entry_eq]
  generalize (lg_sl ([.ref (gM g), .int p0, .int c0]) ++ List.replicate (3 - (lg_sl ([.ref (gM g), .int p0, .int c0])).length) Slot.unset).toArray = ls at hl ⊢
  have hl : lv_has ls 3 [(0, .ref (gM g)), (1, .int p0), (2, .int c0)] := hl
  refine lv_aload_n (pc := 0) hx hb dX2_clashesWith_0 rfl (lv_at hl 0 rfl) ?_
  refine lv_iconst (v := 0) (pc := 1) hx hb dX2_clashesWith_1 (by decide) ?_
  refine va_put (pc := 2) (D := gD g) (ci := 2) (v := .int 0) (ty := .int) (C := RX2) (T := TX2) (N := 11) hx hb hts hinX2 tyX2 tyX2_ok nmX2 hown hK hP hD hS 0 (ma0 g σ th mi ti rest) rfl 0 (by decide) (hts (.fieldLink RX2 38 "ChoirNotesModel" "thrown" "I") (by decide +kernel)) (fun _ h9 => h9) rfl (by decide +kernel) rfl rfl (Nat.le_of_ble_eq_true rfl) dX2_clashesWith_2 (fun H1 locs1 hP hD hS => ?_)
  have hP : va_P (gD g) vwCl (mw g σ 0 mi ti ++ rest) H1 := hP
  have hD : va_D A (mw g σ 0 mi ti ++ rest) := hD
  refine lv_aload_n (pc := 5) hx hb dX2_clashesWith_5 rfl (lv_at hl 0 rfl) ?_
  refine lv_iload_n (pc := 6) hx hb dX2_clashesWith_6 rfl (lv_at hl 1 rfl) ?_
  refine k_ri (pc := 7) (va_runV (As := [.int p0]) (rest := []) ⟨hx, hb, hml, hown, hts⟩ (cX2_isVoice_m l g A σ rest 0 mi ti p0 hI) (cwV 1 hts gX2_clashesWith_X2_isVoice rfl rfl rfl (by decide +kernel) ⟨Nat.le_of_ble_eq_true rfl, Nat.le_of_ble_eq_true rfl⟩) (cx_V (q0 := 0) (ci := 2) (r := (RX2, TX2, 11)) rfl (ma0 g σ 0 mi ti rest) hP hD hA hK hX hS) rfl rfl hl.1 rfl (lv_room (Nat.le_of_ble_eq_true rfl)) dX2_clashesWith_7 ⟨Nat.le_of_ble_eq_true rfl, Nat.le_of_ble_eq_true rfl⟩) (fun r_2 hr_2 => ?_)
  subst hr_2
  refine lv_if_ne (tgt := 19) (pc := 10) hx hb dX2_clashesWith_10 (by decide) (fun c1 => ?_) (fun c1 => ?_)
  · have c1 := bI_n0.mp c1
    obtain ⟨v, hvn, rfl⟩ := okV_o hI.N c1
    have hvv4 : v < 4 := hI.v4 hvn
    have hixv : ix (nI v) = v := ix_n (by omega)
    have hCv := hI.C v
    rw [hixv]
    refine lv_iload_n (pc := 19) hx hb dX2_clashesWith_19 rfl (lv_at hl 2 rfl) ?_
    refine lv_iconst (v := 0) (pc := 20) hx hb dX2_clashesWith_20 (by decide) ?_
    refine lv_iconst (v := 5) (pc := 21) hx hb dX2_clashesWith_21 (by decide) ?_
    refine k_ri (pc := 22) (va_runS (As := [.int c0, .int 0, .int 5]) (rest := []) ⟨hx, hb, hml, hown, hts⟩ (cX2_isIn_m l g A σ rest 0 mi ti c0 0 5) (va_cwS 3 hts gX2_clashesWith_X2_isIn rfl rfl rfl (by decide +kernel) ⟨Nat.le_of_ble_eq_true rfl, Nat.le_of_ble_eq_true rfl⟩) (cx_S hP hD hA hK hX hS) rfl rfl hl.1 rfl (lv_room (Nat.le_of_ble_eq_true rfl)) dX2_clashesWith_22 ⟨Nat.le_of_ble_eq_true rfl, Nat.le_of_ble_eq_true rfl⟩) (fun r_4 hr_4 => ?_)
    subst hr_4
    refine lv_if_eq (tgt := 37) (pc := 25) hx hb dX2_clashesWith_25 (by decide) (fun c2 => ?_) (fun c2 => ?_)
    · have c2 := bI_0.mp c2
      refine lv_aload_n (pc := 37) hx hb dX2_clashesWith_37 rfl (lv_at hl 0 rfl) ?_
      refine lv_iconst (v := 2) (pc := 38) hx hb dX2_clashesWith_38 (by decide) ?_
      refine va_calli (pc := 39) (va_runV (As := [.int 2]) (rest := []) ⟨hx, hb, hml, hown, hts⟩ (cX2_fail_m l g A σ rest 0 mi ti 2) (cwV 1 hts gX2_clashesWith_X2_fail rfl rfl rfl (by decide +kernel) ⟨Nat.le_of_ble_eq_true rfl, Nat.le_of_ble_eq_true rfl⟩) (cx_V (q0 := 0) (ci := 2) (r := (RX2, TX2, 11)) rfl (ma0 g σ 0 mi ti rest) hP hD hA hK hX hS) rfl rfl hl.1 rfl (lv_room (Nat.le_of_ble_eq_true rfl)) dX2_clashesWith_39 ⟨Nat.le_of_ble_eq_true rfl, Nat.le_of_ble_eq_true rfl⟩) hS (fun _ _ h => h) (fun _ h => h) (fun r_6 u7 t7 H7 locs7 ht7 hvm7 hw7 hB7 hz7 hk7 hS => ?_)
      obtain ⟨hP, hD⟩ := hB7
      rw [ht7] at hP
      subst hw7
      have hcd : cdVR σ (nI v) (inr 0 5 c0) = 2 := by simp [cdVR, c1, hixv, c2]
      rw [hcd]
      exact W.iret hx hb hr (fun t ht hW => ⟨⟨_, (mi, ti), rfl, (fun q => absurd q (by decide)), by rw [ht]; exact hP, hD⟩, hS.F ht⟩) hS.2.2 dX2_clashesWith_42
    · have c2 := bI_n0.mp c2
      refine lv_aload_n (pc := 28) hx hb dX2_clashesWith_28 rfl (lv_at hl 0 rfl) ?_
      refine lv_iload_n (pc := 29) hx hb dX2_clashesWith_29 rfl (lv_at hl 1 rfl) ?_
      refine lv_iload_n (pc := 30) hx hb dX2_clashesWith_30 rfl (lv_at hl 2 rfl) ?_
      refine va_calli (pc := 31) (va_runV (As := [.int (nI v), .int c0]) (rest := []) ⟨hx, hb, hml, hown, hts⟩ (cX2_withAll_m l g A σ rest 0 mi ti v c0 hvv4 hI) (cwV 2 hts gX2_clashesWith_X2_withAll rfl rfl rfl (by decide +kernel) ⟨Nat.le_of_ble_eq_true rfl, Nat.le_of_ble_eq_true rfl⟩) (cx_V (q0 := 0) (ci := 2) (r := (RX2, TX2, 11)) rfl (ma0 g σ 0 mi ti rest) hP hD hA hK hX hS) rfl rfl hl.1 rfl (lv_room (Nat.le_of_ble_eq_true rfl)) dX2_clashesWith_31 ⟨Nat.le_of_ble_eq_true rfl, Nat.le_of_ble_eq_true rfl⟩) hS (fun _ _ h => h) (fun _ h => h) (fun r_8 u9 t9 H9 locs9 ht9 hvm9 hw9 hB9 hz9 hk9 hS => ?_)
      obtain ⟨hP, hD⟩ := hB9
      rw [ht9] at hP
      subst hw9
      refine lv_goto (tgt := 42) (pc := 34) hx hb dX2_clashesWith_34 (by decide) ?_
      have hcd : cdVR σ (nI v) (inr 0 5 c0) = 0 := by simp [cdVR, c1, hixv, c2]
      rw [hcd]
      exact W.iret hx hb hr (fun t ht hW => ⟨⟨_, (u9.1, u9.2), rfl, (fun _ => rfl), by rw [ht]; exact hP, hD⟩, hS.F ht⟩) hS.2.2 dX2_clashesWith_42
  · have c1 := bI_0.mp c1
    refine lv_aload_n (pc := 13) hx hb dX2_clashesWith_13 rfl (lv_at hl 0 rfl) ?_
    refine lv_iconst (v := 1) (pc := 14) hx hb dX2_clashesWith_14 (by decide) ?_
    refine va_calli (pc := 15) (va_runV (As := [.int 1]) (rest := []) ⟨hx, hb, hml, hown, hts⟩ (cX2_fail_m l g A σ rest 0 mi ti 1) (cwV 1 hts gX2_clashesWith_X2_fail rfl rfl rfl (by decide +kernel) ⟨Nat.le_of_ble_eq_true rfl, Nat.le_of_ble_eq_true rfl⟩) (cx_V (q0 := 0) (ci := 2) (r := (RX2, TX2, 11)) rfl (ma0 g σ 0 mi ti rest) hP hD hA hK hX hS) rfl rfl hl.1 rfl (lv_room (Nat.le_of_ble_eq_true rfl)) dX2_clashesWith_15 ⟨Nat.le_of_ble_eq_true rfl, Nat.le_of_ble_eq_true rfl⟩) hS (fun _ _ h => h) (fun _ h => h) (fun r_10 u11 t11 H11 locs11 ht11 hvm11 hw11 hB11 hz11 hk11 hS => ?_)
    obtain ⟨hP, hD⟩ := hB11
    rw [ht11] at hP
    subst hw11
    have hcd : cdVR σ p0 (inr 0 5 c0) = 1 := by simp [cdVR, c1]
    rw [hcd]
    exact W.iret hx hb hr (fun t ht hW => ⟨⟨_, (mi, ti), rfl, (fun q => absurd q (by decide)), by rw [ht]; exact hP, hD⟩, hS.F ht⟩) hS.2.2 dX2_clashesWith_18
set_option maxHeartbeats 4000000 in
set_option maxRecDepth 100000 in
/-- bestDelay -/
theorem cX2_bestDelay_m (l : Launch) (g : GA) (A : Nat → Prop) (σ : St) (rest : va_W) (th : Int32) (mi ti : Nat → Int32) (p0 : Int32) (u0 : Int32) (hI : Inv σ) : Met l yX2_bestDelay wsX2_bestDelay ({ frames := 4, cells := 0, slots := 0, locals := 94 }) (va_Pc [.ref (gM g), .int p0, .int u0] (Cx g A (mw g σ th mi ti ++ rest))) (va_Qi (fun (r : Int32) (u : (Nat → Int32) × (Nat → Int32)) => cdVR σ p0 (inr (-7) 7 u0) = 0 → r = bdl σ (ix p0) u0) (fun u t => kB g A (mw g σ (nI (cdVR σ p0 (inr (-7) 7 u0))) u.1 u.2 ++ rest) t) A) 0 0 A := by
  refine Met.ofW (cc := cX2_bestDelay) (maxL := 3) (ret := (some .int)) (by decide) rfl ?_
  intro p e s m args below meth c s₁ B hml hv0
  obtain ⟨rfl, hP, hD, hA, hK, hX⟩ := hv0
  have hx := B.exec
  have hb := B.bytes
  have hr := B.returns
  have hts := atoms_spec (ws := wsX2_bestDelay) B.pre
  have hown : s.vm.findClass RX2 = some m.cls := findClass_of_methodNamed B.named
  have hlocks := B.notSynchronized
  have hS : va_S A s.heap s.heap [] := va_S.rf
  have hinX2 : ∀ w ∈ u_ws RX2 TX2 11, w ∈ wsX2_bestDelay := by decide +kernel
  have hl := lv_entry ([.ref (gM g), .int p0, .int u0]) (n := 3) (Nat.le_of_ble_eq_true rfl)
  rw [lg_entry_eq]
  generalize (lg_sl ([.ref (gM g), .int p0, .int u0]) ++ List.replicate (3 - (lg_sl ([.ref (gM g), .int p0, .int u0])).length) Slot.unset).toArray = ls at hl ⊢
  have hl : lv_has ls 3 [(0, .ref (gM g)), (1, .int p0), (2, .int u0)] := hl
  refine lv_aload_n (pc := 0) hx hb dX2_bestDelay_0 rfl (lv_at hl 0 rfl) ?_
  refine lv_iconst (v := 0) (pc := 1) hx hb dX2_bestDelay_1 (by decide) ?_
  refine va_put (pc := 2) (D := gD g) (ci := 2) (v := .int 0) (ty := .int) (C := RX2) (T := TX2) (N := 11) hx hb hts hinX2 tyX2 tyX2_ok nmX2 hown hK hP hD hS 0 (ma0 g σ th mi ti rest) rfl 0 (by decide) (hts (.fieldLink RX2 38 "ChoirNotesModel" "thrown" "I") (by decide +kernel)) (fun _ h9 => h9) rfl (by decide +kernel) rfl rfl (Nat.le_of_ble_eq_true rfl) dX2_bestDelay_2 (fun H1 locs1 hP hD hS => ?_)
  have hP : va_P (gD g) vwCl (mw g σ 0 mi ti ++ rest) H1 := hP
  have hD : va_D A (mw g σ 0 mi ti ++ rest) := hD
  refine lv_aload_n (pc := 5) hx hb dX2_bestDelay_5 rfl (lv_at hl 0 rfl) ?_
  refine lv_iload_n (pc := 6) hx hb dX2_bestDelay_6 rfl (lv_at hl 1 rfl) ?_
  refine k_ri (pc := 7) (va_runV (As := [.int p0]) (rest := []) ⟨hx, hb, hml, hown, hts⟩ (cX2_isVoice_m l g A σ rest 0 mi ti p0 hI) (cwV 1 hts gX2_bestDelay_X2_isVoice rfl rfl rfl (by decide +kernel) ⟨Nat.le_of_ble_eq_true rfl, Nat.le_of_ble_eq_true rfl⟩) (cx_V (q0 := 0) (ci := 2) (r := (RX2, TX2, 11)) rfl (ma0 g σ 0 mi ti rest) hP hD hA hK hX hS) rfl rfl hl.1 rfl (lv_room (Nat.le_of_ble_eq_true rfl)) dX2_bestDelay_7 ⟨Nat.le_of_ble_eq_true rfl, Nat.le_of_ble_eq_true rfl⟩) (fun r_2 hr_2 => ?_)
  subst hr_2
  refine lv_if_ne (tgt := 19) (pc := 10) hx hb dX2_bestDelay_10 (by decide) (fun c1 => ?_) (fun c1 => ?_)
  · have c1 := bI_n0.mp c1
    obtain ⟨v, hvn, rfl⟩ := okV_o hI.N c1
    have hvv4 : v < 4 := hI.v4 hvn
    have hixv : ix (nI v) = v := ix_n (by omega)
    have hCv := hI.C v
    rw [hixv]
    refine lv_iload_n (pc := 19) hx hb dX2_bestDelay_19 rfl (lv_at hl 2 rfl) ?_
    refine lv_bipush (v := (-7)) (pc := 20) hx hb dX2_bestDelay_20 (by decide) ?_
    refine lv_bipush (v := 7) (pc := 22) hx hb dX2_bestDelay_22 (by decide) ?_
    refine k_ri (pc := 24) (va_runS (As := [.int u0, .int ((-7)), .int 7]) (rest := []) ⟨hx, hb, hml, hown, hts⟩ (cX2_isIn_m l g A σ rest 0 mi ti u0 ((-7)) 7) (va_cwS 3 hts gX2_bestDelay_X2_isIn rfl rfl rfl (by decide +kernel) ⟨Nat.le_of_ble_eq_true rfl, Nat.le_of_ble_eq_true rfl⟩) (cx_S hP hD hA hK hX hS) rfl rfl hl.1 rfl (lv_room (Nat.le_of_ble_eq_true rfl)) dX2_bestDelay_24 ⟨Nat.le_of_ble_eq_true rfl, Nat.le_of_ble_eq_true rfl⟩) (fun r_4 hr_4 => ?_)
    subst hr_4
    refine lv_if_eq (tgt := 39) (pc := 27) hx hb dX2_bestDelay_27 (by decide) (fun c2 => ?_) (fun c2 => ?_)
    · have c2 := bI_0.mp c2
      refine lv_aload_n (pc := 39) hx hb dX2_bestDelay_39 rfl (lv_at hl 0 rfl) ?_
      refine lv_iconst (v := 2) (pc := 40) hx hb dX2_bestDelay_40 (by decide) ?_
      refine va_calli (pc := 41) (va_runV (As := [.int 2]) (rest := []) ⟨hx, hb, hml, hown, hts⟩ (cX2_fail_m l g A σ rest 0 mi ti 2) (cwV 1 hts gX2_bestDelay_X2_fail rfl rfl rfl (by decide +kernel) ⟨Nat.le_of_ble_eq_true rfl, Nat.le_of_ble_eq_true rfl⟩) (cx_V (q0 := 0) (ci := 2) (r := (RX2, TX2, 11)) rfl (ma0 g σ 0 mi ti rest) hP hD hA hK hX hS) rfl rfl hl.1 rfl (lv_room (Nat.le_of_ble_eq_true rfl)) dX2_bestDelay_41 ⟨Nat.le_of_ble_eq_true rfl, Nat.le_of_ble_eq_true rfl⟩) hS (fun _ _ h => h) (fun _ h => h) (fun r_6 u7 t7 H7 locs7 ht7 hvm7 hw7 hB7 hz7 hk7 hS => ?_)
      obtain ⟨hP, hD⟩ := hB7
      rw [ht7] at hP
      subst hw7
      have hcd : cdVR σ (nI v) (inr (-7) 7 u0) = 2 := by simp [cdVR, c1, hixv, c2]
      rw [hcd]
      exact W.iret hx hb hr (fun t ht hW => ⟨⟨_, (mi, ti), rfl, (fun q => absurd q (by decide)), by rw [ht]; exact hP, hD⟩, hS.F ht⟩) hS.2.2 dX2_bestDelay_44
    · have c2 := bI_n0.mp c2
      refine lv_aload_n (pc := 30) hx hb dX2_bestDelay_30 rfl (lv_at hl 0 rfl) ?_
      refine lv_iload_n (pc := 31) hx hb dX2_bestDelay_31 rfl (lv_at hl 1 rfl) ?_
      refine lv_iload_n (pc := 32) hx hb dX2_bestDelay_32 rfl (lv_at hl 2 rfl) ?_
      refine va_calli (pc := 33) (va_runV (As := [.int (nI v), .int u0]) (rest := []) ⟨hx, hb, hml, hown, hts⟩ (cX2_delay_m l g A σ rest 0 mi ti v u0 hvv4 hI) (cwV 2 hts gX2_bestDelay_X2_delay rfl rfl rfl (by decide +kernel) ⟨Nat.le_of_ble_eq_true rfl, Nat.le_of_ble_eq_true rfl⟩) (cx_V (q0 := 0) (ci := 2) (r := (RX2, TX2, 11)) rfl (ma0 g σ 0 mi ti rest) hP hD hA hK hX hS) rfl rfl hl.1 rfl (lv_room (Nat.le_of_ble_eq_true rfl)) dX2_bestDelay_33 ⟨Nat.le_of_ble_eq_true rfl, Nat.le_of_ble_eq_true rfl⟩) hS (fun _ _ h => h) (fun _ h => h) (fun r_8 u9 t9 H9 locs9 ht9 hvm9 hw9 hB9 hz9 hk9 hS => ?_)
      obtain ⟨hP, hD⟩ := hB9
      rw [ht9] at hP
      subst hw9
      refine lv_goto (tgt := 44) (pc := 36) hx hb dX2_bestDelay_36 (by decide) ?_
      have hcd : cdVR σ (nI v) (inr (-7) 7 u0) = 0 := by simp [cdVR, c1, hixv, c2]
      rw [hcd]
      exact W.iret hx hb hr (fun t ht hW => ⟨⟨_, (u9.1, u9.2), rfl, (fun _ => rfl), by rw [ht]; exact hP, hD⟩, hS.F ht⟩) hS.2.2 dX2_bestDelay_44
  · have c1 := bI_0.mp c1
    refine lv_aload_n (pc := 13) hx hb dX2_bestDelay_13 rfl (lv_at hl 0 rfl) ?_
    refine lv_iconst (v := 1) (pc := 14) hx hb dX2_bestDelay_14 (by decide) ?_
    refine va_calli (pc := 15) (va_runV (As := [.int 1]) (rest := []) ⟨hx, hb, hml, hown, hts⟩ (cX2_fail_m l g A σ rest 0 mi ti 1) (cwV 1 hts gX2_bestDelay_X2_fail rfl rfl rfl (by decide +kernel) ⟨Nat.le_of_ble_eq_true rfl, Nat.le_of_ble_eq_true rfl⟩) (cx_V (q0 := 0) (ci := 2) (r := (RX2, TX2, 11)) rfl (ma0 g σ 0 mi ti rest) hP hD hA hK hX hS) rfl rfl hl.1 rfl (lv_room (Nat.le_of_ble_eq_true rfl)) dX2_bestDelay_15 ⟨Nat.le_of_ble_eq_true rfl, Nat.le_of_ble_eq_true rfl⟩) hS (fun _ _ h => h) (fun _ h => h) (fun r_10 u11 t11 H11 locs11 ht11 hvm11 hw11 hB11 hz11 hk11 hS => ?_)
    obtain ⟨hP, hD⟩ := hB11
    rw [ht11] at hP
    subst hw11
    have hcd : cdVR σ p0 (inr (-7) 7 u0) = 1 := by simp [cdVR, c1]
    rw [hcd]
    exact W.iret hx hb hr (fun t ht hW => ⟨⟨_, (mi, ti), rfl, (fun q => absurd q (by decide)), by rw [ht]; exact hP, hD⟩, hS.F ht⟩) hS.2.2 dX2_bestDelay_18
set_option maxHeartbeats 4000000 in
set_option maxRecDepth 100000 in
/-- canonClashes -/
theorem cX2_canonClashes_m (l : Launch) (g : GA) (A : Nat → Prop) (σ : St) (rest : va_W) (th : Int32) (mi ti : Nat → Int32) (p0 : Int32) (d0 : Int32) (u0 : Int32) (hI : Inv σ) : Met l yX2_canonClashes wsX2_canonClashes ({ frames := 3, cells := 0, slots := 0, locals := 67 }) (va_Pc [.ref (gM g), .int p0, .int d0, .int u0] (Cx g A (mw g σ th mi ti ++ rest))) (va_Qi (fun (r : Int32) (u : (Nat → Int32) × (Nat → Int32)) => cd_canon σ p0 d0 u0 = 0 → r = nI (clN σ (ix p0) (ix p0) (ix d0) u0)) (fun u t => kB g A (mw g σ (nI (cd_canon σ p0 d0 u0)) u.1 u.2 ++ rest) t) A) 0 0 A := by
  refine Met.ofW (cc := cX2_canonClashes) (maxL := 4) (ret := (some .int)) (by decide) rfl ?_
  intro p e s m args below meth c s₁ B hml hv0
  obtain ⟨rfl, hP, hD, hA, hK, hX⟩ := hv0
  have hx := B.exec
  have hb := B.bytes
  have hr := B.returns
  have hts := atoms_spec (ws := wsX2_canonClashes) B.pre
  have hown : s.vm.findClass RX2 = some m.cls := findClass_of_methodNamed B.named
  have hlocks := B.notSynchronized
  have hS : va_S A s.heap s.heap [] := va_S.rf
  have hinX2 : ∀ w ∈ u_ws RX2 TX2 11, w ∈ wsX2_canonClashes := by decide +kernel
  have hl := lv_entry ([.ref (gM g), .int p0, .int d0, .int u0]) (n := 4) (Nat.le_of_ble_eq_true rfl)
  rw [lg_entry_eq]
  generalize (lg_sl ([.ref (gM g), .int p0, .int d0, .int u0]) ++ List.replicate (4 - (lg_sl ([.ref (gM g), .int p0, .int d0, .int u0])).length) Slot.unset).toArray = ls at hl ⊢
  have hl : lv_has ls 4 [(0, .ref (gM g)), (1, .int p0), (2, .int d0), (3, .int u0)] := hl
  refine lv_aload_n (pc := 0) hx hb dX2_canonClashes_0 rfl (lv_at hl 0 rfl) ?_
  refine lv_iconst (v := 0) (pc := 1) hx hb dX2_canonClashes_1 (by decide) ?_
  refine va_put (pc := 2) (D := gD g) (ci := 2) (v := .int 0) (ty := .int) (C := RX2) (T := TX2) (N := 11) hx hb hts hinX2 tyX2 tyX2_ok nmX2 hown hK hP hD hS 0 (ma0 g σ th mi ti rest) rfl 0 (by decide) (hts (.fieldLink RX2 38 "ChoirNotesModel" "thrown" "I") (by decide +kernel)) (fun _ h9 => h9) rfl (by decide +kernel) rfl rfl (Nat.le_of_ble_eq_true rfl) dX2_canonClashes_2 (fun H1 locs1 hP hD hS => ?_)
  have hP : va_P (gD g) vwCl (mw g σ 0 mi ti ++ rest) H1 := hP
  have hD : va_D A (mw g σ 0 mi ti ++ rest) := hD
  refine lv_aload_n (pc := 5) hx hb dX2_canonClashes_5 rfl (lv_at hl 0 rfl) ?_
  refine lv_iload_n (pc := 6) hx hb dX2_canonClashes_6 rfl (lv_at hl 1 rfl) ?_
  refine k_ri (pc := 7) (va_runV (As := [.int p0]) (rest := []) ⟨hx, hb, hml, hown, hts⟩ (cX2_isVoice_m l g A σ rest 0 mi ti p0 hI) (cwV 1 hts gX2_canonClashes_X2_isVoice rfl rfl rfl (by decide +kernel) ⟨Nat.le_of_ble_eq_true rfl, Nat.le_of_ble_eq_true rfl⟩) (cx_V (q0 := 0) (ci := 2) (r := (RX2, TX2, 11)) rfl (ma0 g σ 0 mi ti rest) hP hD hA hK hX hS) rfl rfl hl.1 rfl (lv_room (Nat.le_of_ble_eq_true rfl)) dX2_canonClashes_7 ⟨Nat.le_of_ble_eq_true rfl, Nat.le_of_ble_eq_true rfl⟩) (fun r_2 hr_2 => ?_)
  subst hr_2
  refine lv_if_ne (tgt := 19) (pc := 10) hx hb dX2_canonClashes_10 (by decide) (fun c1 => ?_) (fun c1 => ?_)
  · have c1 := bI_n0.mp c1
    obtain ⟨v, hvn, rfl⟩ := okV_o hI.N c1
    have hvv4 : v < 4 := hI.v4 hvn
    have hixv : ix (nI v) = v := ix_n (by omega)
    have hCv := hI.C v
    rw [hixv]
    refine lv_iload_n (pc := 19) hx hb dX2_canonClashes_19 rfl (lv_at hl 2 rfl) ?_
    refine lv_iconst (v := 1) (pc := 20) hx hb dX2_canonClashes_20 (by decide) ?_
    refine lv_bipush (v := 48) (pc := 21) hx hb dX2_canonClashes_21 (by decide) ?_
    refine k_ri (pc := 23) (va_runS (As := [.int d0, .int 1, .int 48]) (rest := []) ⟨hx, hb, hml, hown, hts⟩ (cX2_isIn_m l g A σ rest 0 mi ti d0 1 48) (va_cwS 3 hts gX2_canonClashes_X2_isIn rfl rfl rfl (by decide +kernel) ⟨Nat.le_of_ble_eq_true rfl, Nat.le_of_ble_eq_true rfl⟩) (cx_S hP hD hA hK hX hS) rfl rfl hl.1 rfl (lv_room (Nat.le_of_ble_eq_true rfl)) dX2_canonClashes_23 ⟨Nat.le_of_ble_eq_true rfl, Nat.le_of_ble_eq_true rfl⟩) (fun r_4 hr_4 => ?_)
    subst hr_4
    refine lv_if_eq (tgt := 58) (pc := 26) hx hb dX2_canonClashes_26 (by decide) (fun c2 => ?_) (fun c2 => ?_)
    · have c2 := bI_0.mp c2
      refine lv_aload_n (pc := 58) hx hb dX2_canonClashes_58 rfl (lv_at hl 0 rfl) ?_
      refine lv_iconst (v := 2) (pc := 59) hx hb dX2_canonClashes_59 (by decide) ?_
      refine va_calli (pc := 60) (va_runV (As := [.int 2]) (rest := []) ⟨hx, hb, hml, hown, hts⟩ (cX2_fail_m l g A σ rest 0 mi ti 2) (cwV 1 hts gX2_canonClashes_X2_fail rfl rfl rfl (by decide +kernel) ⟨Nat.le_of_ble_eq_true rfl, Nat.le_of_ble_eq_true rfl⟩) (cx_V (q0 := 0) (ci := 2) (r := (RX2, TX2, 11)) rfl (ma0 g σ 0 mi ti rest) hP hD hA hK hX hS) rfl rfl hl.1 rfl (lv_room (Nat.le_of_ble_eq_true rfl)) dX2_canonClashes_60 ⟨Nat.le_of_ble_eq_true rfl, Nat.le_of_ble_eq_true rfl⟩) hS (fun _ _ h => h) (fun _ h => h) (fun r_6 u7 t7 H7 locs7 ht7 hvm7 hw7 hB7 hz7 hk7 hS => ?_)
      obtain ⟨hP, hD⟩ := hB7
      rw [ht7] at hP
      subst hw7
      have hcd : cd_canon σ (nI v) d0 u0 = 2 := by simp [cd_canon, cdVR, c1, hixv, c2]
      rw [hcd]
      exact W.iret hx hb hr (fun t ht hW => ⟨⟨_, (mi, ti), rfl, (fun q => absurd q (by decide)), by rw [ht]; exact hP, hD⟩, hS.F ht⟩) hS.2.2 dX2_canonClashes_63
    · have c2 := bI_n0.mp c2
      obtain ⟨d, hd1, hd2, rfl⟩ := inr_nat (a := 1) (b := 48) rfl rfl (by decide) (by decide) c2
      have hixd : ix (nI d) = d := ix_n (by omega)
      rw [hixd]
      refine lv_iload_n (pc := 29) hx hb dX2_canonClashes_29 rfl (lv_at hl 3 rfl) ?_
      refine lv_bipush (v := (-7)) (pc := 30) hx hb dX2_canonClashes_30 (by decide) ?_
      refine lv_bipush (v := 7) (pc := 32) hx hb dX2_canonClashes_32 (by decide) ?_
      refine k_ri (pc := 34) (va_runS (As := [.int u0, .int ((-7)), .int 7]) (rest := []) ⟨hx, hb, hml, hown, hts⟩ (cX2_isIn_m l g A σ rest 0 mi ti u0 ((-7)) 7) (va_cwS 3 hts gX2_canonClashes_X2_isIn rfl rfl rfl (by decide +kernel) ⟨Nat.le_of_ble_eq_true rfl, Nat.le_of_ble_eq_true rfl⟩) (cx_S hP hD hA hK hX hS) rfl rfl hl.1 rfl (lv_room (Nat.le_of_ble_eq_true rfl)) dX2_canonClashes_34 ⟨Nat.le_of_ble_eq_true rfl, Nat.le_of_ble_eq_true rfl⟩) (fun r_8 hr_8 => ?_)
      subst hr_8
      refine lv_if_eq (tgt := 58) (pc := 37) hx hb dX2_canonClashes_37 (by decide) (fun c3 => ?_) (fun c3 => ?_)
      · have c3 := bI_0.mp c3
        refine lv_aload_n (pc := 58) hx hb dX2_canonClashes_58 rfl (lv_at hl 0 rfl) ?_
        refine lv_iconst (v := 2) (pc := 59) hx hb dX2_canonClashes_59 (by decide) ?_
        refine va_calli (pc := 60) (va_runV (As := [.int 2]) (rest := []) ⟨hx, hb, hml, hown, hts⟩ (cX2_fail_m l g A σ rest 0 mi ti 2) (cwV 1 hts gX2_canonClashes_X2_fail rfl rfl rfl (by decide +kernel) ⟨Nat.le_of_ble_eq_true rfl, Nat.le_of_ble_eq_true rfl⟩) (cx_V (q0 := 0) (ci := 2) (r := (RX2, TX2, 11)) rfl (ma0 g σ 0 mi ti rest) hP hD hA hK hX hS) rfl rfl hl.1 rfl (lv_room (Nat.le_of_ble_eq_true rfl)) dX2_canonClashes_60 ⟨Nat.le_of_ble_eq_true rfl, Nat.le_of_ble_eq_true rfl⟩) hS (fun _ _ h => h) (fun _ h => h) (fun r_10 u11 t11 H11 locs11 ht11 hvm11 hw11 hB11 hz11 hk11 hS => ?_)
        obtain ⟨hP, hD⟩ := hB11
        rw [ht11] at hP
        subst hw11
        have hcd : cd_canon σ (nI v) (nI d) u0 = 2 := by simp [cd_canon, cdVR, c1, hixv, c2, c3]
        rw [hcd]
        exact W.iret hx hb hr (fun t ht hW => ⟨⟨_, (mi, ti), rfl, (fun q => absurd q (by decide)), by rw [ht]; exact hP, hD⟩, hS.F ht⟩) hS.2.2 dX2_canonClashes_63
      · have c3 := bI_n0.mp c3
        refine lv_aload_n (pc := 40) hx hb dX2_canonClashes_40 rfl (lv_at hl 0 rfl) ?_
        refine lv_aload_n (pc := 41) hx hb dX2_canonClashes_41 rfl (lv_at hl 0 rfl) ?_
        refine lv_iload_n (pc := 42) hx hb dX2_canonClashes_42 rfl (lv_at hl 1 rfl) ?_
        refine lv_aload_n (pc := 43) hx hb dX2_canonClashes_43 rfl (lv_at hl 0 rfl) ?_
        refine va_get (v := .ref (gB g 7)) (pc := 44) (D := gD g) (ci := 2) (C := RX2) (T := TX2) (N := 11) hx hb hts hinX2 hown hK hP 0 (ma0 g σ 0 mi ti rest) rfl 9 (by decide) (hts (.fieldLink RX2 32 "ChoirNotesModel" "mine" "[I") (by decide +kernel)) (fun _ h9 => h9) rfl dX2_canonClashes_44 ?_
        refine va_calli (pc := 47) (va_runV (As := [.int (nI v), .ref (gB g 7)]) (rest := [.ref (gM g)]) ⟨hx, hb, hml, hown, hts⟩ (cX2_layM_m l g A σ rest 0 mi ti v hvv4 hI) (cwV 2 hts gX2_canonClashes_X2_lay rfl rfl rfl (by decide +kernel) ⟨Nat.le_of_ble_eq_true rfl, Nat.le_of_ble_eq_true rfl⟩) (cx_V (q0 := 0) (ci := 2) (r := (RX2, TX2, 11)) rfl (ma0 g σ 0 mi ti rest) hP hD hA hK hX hS) rfl rfl hl.1 rfl (lv_room (Nat.le_of_ble_eq_true rfl)) dX2_canonClashes_47 ⟨Nat.le_of_ble_eq_true rfl, Nat.le_of_ble_eq_true rfl⟩) hS (fun _ _ h => h) (fun _ h => h) (fun r_12 u13 t13 H13 locs13 ht13 hvm13 hw13 hB13 hz13 hk13 hS => ?_)
        obtain ⟨hP, hD⟩ := hB13
        rw [ht13] at hP
        obtain ⟨rfl, hw13⟩ := hw13
        refine lv_iload_n (pc := 50) hx hb dX2_canonClashes_50 rfl (lv_at hl 2 rfl) ?_
        refine lv_iload_n (pc := 51) hx hb dX2_canonClashes_51 rfl (lv_at hl 3 rfl) ?_
        refine k_ri (pc := 52) (va_runV (As := [.int (nI (len σ v)), .int (nI d), .int u0]) (rest := []) ⟨hx, hb, hml, hown, hts⟩ (cX2_canon_m l g A σ rest 0 u13 ti v d u0 hvv4 hI (by omega) hw13) (cwV 3 hts gX2_canonClashes_X2_canon rfl rfl rfl (by decide +kernel) ⟨Nat.le_of_ble_eq_true rfl, Nat.le_of_ble_eq_true rfl⟩) (cx_V (q0 := 0) (ci := 2) (r := (RX2, TX2, 11)) rfl (ma0 g σ 0 u13 ti rest) hP hD hA hK hX hS) rfl rfl hl.1 rfl (lv_room (Nat.le_of_ble_eq_true rfl)) dX2_canonClashes_52 ⟨Nat.le_of_ble_eq_true rfl, Nat.le_of_ble_eq_true rfl⟩) (fun r_14 hr_14 => ?_)
        subst hr_14
        refine lv_goto (tgt := 63) (pc := 55) hx hb dX2_canonClashes_55 (by decide) ?_
        have hcd : cd_canon σ (nI v) (nI d) u0 = 0 := by simp [cd_canon, cdVR, c1, hixv, c2, c3]
        rw [hcd]
        exact W.iret hx hb hr (fun t ht hW => ⟨⟨_, (u13, ti), rfl, (fun _ => rfl), by rw [ht]; exact hP, hD⟩, hS.F ht⟩) hS.2.2 dX2_canonClashes_63
  · have c1 := bI_0.mp c1
    refine lv_aload_n (pc := 13) hx hb dX2_canonClashes_13 rfl (lv_at hl 0 rfl) ?_
    refine lv_iconst (v := 1) (pc := 14) hx hb dX2_canonClashes_14 (by decide) ?_
    refine va_calli (pc := 15) (va_runV (As := [.int 1]) (rest := []) ⟨hx, hb, hml, hown, hts⟩ (cX2_fail_m l g A σ rest 0 mi ti 1) (cwV 1 hts gX2_canonClashes_X2_fail rfl rfl rfl (by decide +kernel) ⟨Nat.le_of_ble_eq_true rfl, Nat.le_of_ble_eq_true rfl⟩) (cx_V (q0 := 0) (ci := 2) (r := (RX2, TX2, 11)) rfl (ma0 g σ 0 mi ti rest) hP hD hA hK hX hS) rfl rfl hl.1 rfl (lv_room (Nat.le_of_ble_eq_true rfl)) dX2_canonClashes_15 ⟨Nat.le_of_ble_eq_true rfl, Nat.le_of_ble_eq_true rfl⟩) hS (fun _ _ h => h) (fun _ h => h) (fun r_15 u16 t16 H16 locs16 ht16 hvm16 hw16 hB16 hz16 hk16 hS => ?_)
    obtain ⟨hP, hD⟩ := hB16
    rw [ht16] at hP
    subst hw16
    have hcd : cd_canon σ p0 d0 u0 = 1 := by simp [cd_canon, cdVR, c1]
    rw [hcd]
    exact W.iret hx hb hr (fun t ht hW => ⟨⟨_, (mi, ti), rfl, (fun q => absurd q (by decide)), by rw [ht]; exact hP, hD⟩, hS.F ht⟩) hS.2.2 dX2_canonClashes_18
set_option maxHeartbeats 4000000 in
set_option maxRecDepth 100000 in
/-- pitchOf -/
theorem cX2_pitchOf_m (l : Launch) (g : GA) (A : Nat → Prop) (σ : St) (rest : va_W) (th : Int32) (mi ti : Nat → Int32) (p0 : Int32) (q0 : Int32) (hI : Inv σ) : Met l yX2_pitchOf wsX2_pitchOf ({ frames := 3, cells := 0, slots := 0, locals := 65 }) (va_Pc [.ref (gM g), .int p0, .int q0] (Cx g A (mw g σ th mi ti ++ rest))) (va_Qi (fun (r : Int32) (u : (Nat → Int32) × (Nat → Int32)) => cd_pitchOf σ p0 q0 = 0 → r = an_pitchOf σ (ix p0) (ix q0)) (fun u t => kB g A (mw g σ (nI (cd_pitchOf σ p0 q0)) u.1 u.2 ++ rest) t) A) 0 0 A := by
  refine Met.ofW (cc := cX2_pitchOf) (maxL := 4) (ret := (some .int)) (by decide) rfl ?_
  intro p e s m args below meth c s₁ B hml hv0
  obtain ⟨rfl, hP, hD, hA, hK, hX⟩ := hv0
  have hx := B.exec
  have hb := B.bytes
  have hr := B.returns
  have hts := atoms_spec (ws := wsX2_pitchOf) B.pre
  have hown : s.vm.findClass RX2 = some m.cls := findClass_of_methodNamed B.named
  have hlocks := B.notSynchronized
  have hS : va_S A s.heap s.heap [] := va_S.rf
  have hinX2 : ∀ w ∈ u_ws RX2 TX2 11, w ∈ wsX2_pitchOf := by decide +kernel
  have hl := lv_entry ([.ref (gM g), .int p0, .int q0]) (n := 4) (Nat.le_of_ble_eq_true rfl)
  rw [lg_entry_eq]
  generalize (lg_sl ([.ref (gM g), .int p0, .int q0]) ++ List.replicate (4 - (lg_sl ([.ref (gM g), .int p0, .int q0])).length) Slot.unset).toArray = ls at hl ⊢
  have hl : lv_has ls 4 [(0, .ref (gM g)), (1, .int p0), (2, .int q0)] := hl
  refine lv_aload_n (pc := 0) hx hb dX2_pitchOf_0 rfl (lv_at hl 0 rfl) ?_
  refine lv_iconst (v := 0) (pc := 1) hx hb dX2_pitchOf_1 (by decide) ?_
  refine va_put (pc := 2) (D := gD g) (ci := 2) (v := .int 0) (ty := .int) (C := RX2) (T := TX2) (N := 11) hx hb hts hinX2 tyX2 tyX2_ok nmX2 hown hK hP hD hS 0 (ma0 g σ th mi ti rest) rfl 0 (by decide) (hts (.fieldLink RX2 38 "ChoirNotesModel" "thrown" "I") (by decide +kernel)) (fun _ h9 => h9) rfl (by decide +kernel) rfl rfl (Nat.le_of_ble_eq_true rfl) dX2_pitchOf_2 (fun H1 locs1 hP hD hS => ?_)
  have hP : va_P (gD g) vwCl (mw g σ 0 mi ti ++ rest) H1 := hP
  have hD : va_D A (mw g σ 0 mi ti ++ rest) := hD
  refine lv_aload_n (pc := 5) hx hb dX2_pitchOf_5 rfl (lv_at hl 0 rfl) ?_
  refine lv_iload_n (pc := 6) hx hb dX2_pitchOf_6 rfl (lv_at hl 1 rfl) ?_
  refine lv_iload_n (pc := 7) hx hb dX2_pitchOf_7 rfl (lv_at hl 2 rfl) ?_
  refine k_ri (pc := 8) (va_runV (As := [.int p0, .int q0]) (rest := []) ⟨hx, hb, hml, hown, hts⟩ (cX2_isSign_m l g A σ rest 0 mi ti p0 q0 hI) (cwV 2 hts gX2_pitchOf_X2_isSign rfl rfl rfl (by decide +kernel) ⟨Nat.le_of_ble_eq_true rfl, Nat.le_of_ble_eq_true rfl⟩) (cx_V (q0 := 0) (ci := 2) (r := (RX2, TX2, 11)) rfl (ma0 g σ 0 mi ti rest) hP hD hA hK hX hS) rfl rfl hl.1 rfl (lv_room (Nat.le_of_ble_eq_true rfl)) dX2_pitchOf_8 ⟨Nat.le_of_ble_eq_true rfl, Nat.le_of_ble_eq_true rfl⟩) (fun r_2 hr_2 => ?_)
  subst hr_2
  refine lv_if_ne (tgt := 20) (pc := 11) hx hb dX2_pitchOf_11 (by decide) (fun c1 => ?_) (fun c1 => ?_)
  · have c1 := bI_n0.mp c1
    obtain ⟨v, s0, hvn, hs0, rfl, rfl⟩ := isS_o hI c1
    have hvv4 : v < 4 := hI.v4 hvn
    have hCv := hI.C v
    have hixv : ix (nI v) = v := ix_n (by omega)
    have hixs : ix (nI s0) = s0 := ix_n (by omega)
    rw [hixv] at c1
    rw [hixv, hixs]
    refine lv_aload_n (pc := 20) hx hb dX2_pitchOf_20 rfl (lv_at hl 0 rfl) ?_
    refine va_get (v := .ref (gB g 1)) (pc := 21) (D := gD g) (ci := 2) (C := RX2) (T := TX2) (N := 11) hx hb hts hinX2 hown hK hP 0 (ma0 g σ 0 mi ti rest) rfl 3 (by decide) (hts (.fieldLink RX2 13 "ChoirNotesModel" "clef" "[I") (by decide +kernel)) (fun _ h9 => h9) rfl dX2_pitchOf_21 ?_
    refine lv_iload_n (pc := 24) hx hb dX2_pitchOf_24 rfl (lv_at hl 1 rfl) ?_
    refine k_iald (pc := 25) (x := sL σ v) hx hb hK hP 2 0 (ma2 g σ 0 mi ti rest) rfl v rfl (by omega) (by decide) (if_pos hvn) dX2_pitchOf_25 ?_
    refine lv_iconst (v := (-1)) (pc := 26) hx hb dX2_pitchOf_26 (by decide) ?_
    refine lv_icmp_ne (tgt := 36) (pc := 27) hx hb dX2_pitchOf_27 (by decide) (fun c2 => ?_) (fun c2 => ?_)
    · refine lv_aload_n (pc := 36) hx hb dX2_pitchOf_36 rfl (lv_at hl 0 rfl) ?_
      refine va_get (v := .ref (gB g 4)) (pc := 37) (D := gD g) (ci := 2) (C := RX2) (T := TX2) (N := 11) hx hb hts hinX2 hown hK hP 0 (ma0 g σ 0 mi ti rest) rfl 6 (by decide) (hts (.fieldLink RX2 22 "ChoirNotesModel" "place" "[I") (by decide +kernel)) (fun _ h9 => h9) rfl dX2_pitchOf_37 ?_
      refine lv_bipush (v := 24) (pc := 40) hx hb dX2_pitchOf_40 (by decide) ?_
      refine lv_iload_n (pc := 42) hx hb dX2_pitchOf_42 rfl (lv_at hl 1 rfl) ?_
      refine lv_imul (pc := 43) hx hb dX2_pitchOf_43 ?_
      refine k_cong (y := nI (24 * v)) (pk_mul 24 v) ?_
      refine lv_iload_n (pc := 44) hx hb dX2_pitchOf_44 rfl (lv_at hl 2 rfl) ?_
      refine lv_iadd (pc := 45) hx hb dX2_pitchOf_45 ?_
      refine k_cong (y := nI (24 * v + s0)) (nI_add (24 * v) s0) ?_
      refine k_iald (pc := 46) (x := sP σ v s0) hx hb hK hP 5 0 (ma5 g σ 0 mi ti rest) rfl (24 * v + s0) rfl (by omega) (by decide) (a24 (sP σ) (by omega)) dX2_pitchOf_46 ?_
      refine lv_istore_n (lv' := [(3, .int (sP σ v s0)), (0, .ref (gM g)), (1, .int (nI v)), (2, .int (nI s0))]) (pc := 47) hx hb dX2_pitchOf_47 rfl hl (by decide) rfl (fun ls hl => ?_)
      refine lv_iload_n (pc := 48) hx hb dX2_pitchOf_48 rfl (lv_at hl 0 rfl) ?_
      refine lv_iconst (v := (-1)) (pc := 49) hx hb dX2_pitchOf_49 (by decide) ?_
      refine lv_icmp_ne (tgt := 57) (pc := 50) hx hb dX2_pitchOf_50 (by decide) (fun c3 => ?_) (fun c3 => ?_)
      · refine lv_iload_n (pc := 57) hx hb dX2_pitchOf_57 rfl (lv_at hl 0 rfl) ?_
        refine lv_iconst (v := 2) (pc := 58) hx hb dX2_pitchOf_58 (by decide) ?_
        refine lv_aload_n (pc := 59) hx hb dX2_pitchOf_59 rfl (lv_at hl 1 rfl) ?_
        refine va_get (v := .ref (gB g 1)) (pc := 60) (D := gD g) (ci := 2) (C := RX2) (T := TX2) (N := 11) hx hb hts hinX2 hown hK hP 0 (ma0 g σ 0 mi ti rest) rfl 3 (by decide) (hts (.fieldLink RX2 13 "ChoirNotesModel" "clef" "[I") (by decide +kernel)) (fun _ h9 => h9) rfl dX2_pitchOf_60 ?_
        refine lv_iload_n (pc := 63) hx hb dX2_pitchOf_63 rfl (lv_at hl 2 rfl) ?_
        refine k_iald (pc := 64) (x := sL σ v) hx hb hK hP 2 0 (ma2 g σ 0 mi ti rest) rfl v rfl (by omega) (by decide) (if_pos hvn) dX2_pitchOf_64 ?_
        refine lv_imul (pc := 65) hx hb dX2_pitchOf_65 ?_
        refine lv_iadd (pc := 66) hx hb dX2_pitchOf_66 ?_
        have hcd : cd_pitchOf σ (nI v) (nI s0) = 0 := by simp [cd_pitchOf, c1, hixv, hixs, c2]
        rw [hcd]
        exact W.iret hx hb hr (fun t ht hW => ⟨⟨_, (mi, ti), rfl, (fun _ => (by unfold an_pitchOf isNt; first | (rw [decide_eq_true c3]; rfl) | (rw [decide_eq_false c3]; rfl))), by rw [ht]; exact hP, hD⟩, hS.F ht⟩) hS.2.2 dX2_pitchOf_67
      · refine lv_iconst (v := (-1)) (pc := 53) hx hb dX2_pitchOf_53 (by decide) ?_
        refine lv_goto (tgt := 67) (pc := 54) hx hb dX2_pitchOf_54 (by decide) ?_
        have hcd : cd_pitchOf σ (nI v) (nI s0) = 0 := by simp [cd_pitchOf, c1, hixv, hixs, c2]
        rw [hcd]
        exact W.iret hx hb hr (fun t ht hW => ⟨⟨_, (mi, ti), rfl, (fun _ => (by unfold an_pitchOf isNt; first | (rw [decide_eq_true c3]; rfl) | (rw [decide_eq_false c3]; rfl))), by rw [ht]; exact hP, hD⟩, hS.F ht⟩) hS.2.2 dX2_pitchOf_67
    · refine lv_aload_n (pc := 30) hx hb dX2_pitchOf_30 rfl (lv_at hl 0 rfl) ?_
      refine lv_iconst (v := 2) (pc := 31) hx hb dX2_pitchOf_31 (by decide) ?_
      refine va_calli (pc := 32) (va_runV (As := [.int 2]) (rest := []) ⟨hx, hb, hml, hown, hts⟩ (cX2_fail_m l g A σ rest 0 mi ti 2) (cwV 1 hts gX2_pitchOf_X2_fail rfl rfl rfl (by decide +kernel) ⟨Nat.le_of_ble_eq_true rfl, Nat.le_of_ble_eq_true rfl⟩) (cx_V (q0 := 0) (ci := 2) (r := (RX2, TX2, 11)) rfl (ma0 g σ 0 mi ti rest) hP hD hA hK hX hS) rfl rfl hl.1 rfl (lv_room (Nat.le_of_ble_eq_true rfl)) dX2_pitchOf_32 ⟨Nat.le_of_ble_eq_true rfl, Nat.le_of_ble_eq_true rfl⟩) hS (fun _ _ h => h) (fun _ h => h) (fun r_6 u7 t7 H7 locs7 ht7 hvm7 hw7 hB7 hz7 hk7 hS => ?_)
      obtain ⟨hP, hD⟩ := hB7
      rw [ht7] at hP
      subst hw7
      have hcd : cd_pitchOf σ (nI v) (nI s0) = 2 := by simp [cd_pitchOf, c1, hixv, hixs, c2]
      rw [hcd]
      exact W.iret hx hb hr (fun t ht hW => ⟨⟨_, (mi, ti), rfl, (fun q => absurd q (by decide)), by rw [ht]; exact hP, hD⟩, hS.F ht⟩) hS.2.2 dX2_pitchOf_35
  · have c1 := bI_0.mp c1
    refine lv_aload_n (pc := 14) hx hb dX2_pitchOf_14 rfl (lv_at hl 0 rfl) ?_
    refine lv_iconst (v := 1) (pc := 15) hx hb dX2_pitchOf_15 (by decide) ?_
    refine va_calli (pc := 16) (va_runV (As := [.int 1]) (rest := []) ⟨hx, hb, hml, hown, hts⟩ (cX2_fail_m l g A σ rest 0 mi ti 1) (cwV 1 hts gX2_pitchOf_X2_fail rfl rfl rfl (by decide +kernel) ⟨Nat.le_of_ble_eq_true rfl, Nat.le_of_ble_eq_true rfl⟩) (cx_V (q0 := 0) (ci := 2) (r := (RX2, TX2, 11)) rfl (ma0 g σ 0 mi ti rest) hP hD hA hK hX hS) rfl rfl hl.1 rfl (lv_room (Nat.le_of_ble_eq_true rfl)) dX2_pitchOf_16 ⟨Nat.le_of_ble_eq_true rfl, Nat.le_of_ble_eq_true rfl⟩) hS (fun _ _ h => h) (fun _ h => h) (fun r_8 u9 t9 H9 locs9 ht9 hvm9 hw9 hB9 hz9 hk9 hS => ?_)
    obtain ⟨hP, hD⟩ := hB9
    rw [ht9] at hP
    subst hw9
    have hcd : cd_pitchOf σ p0 q0 = 1 := by simp [cd_pitchOf, c1]
    rw [hcd]
    exact W.iret hx hb hr (fun t ht hW => ⟨⟨_, (mi, ti), rfl, (fun q => absurd q (by decide)), by rw [ht]; exact hP, hD⟩, hS.F ht⟩) hS.2.2 dX2_pitchOf_19
set_option maxHeartbeats 4000000 in
set_option maxRecDepth 100000 in
/-- both -/
theorem cX2_both_m (l : Launch) (g : GA) (A : Nat → Prop) (σ : St) (rest : va_W) (th : Int32) (mi ti : Nat → Int32) (p0 q0 : Int32) (z0 : Bool) (hI : Inv σ) : Met l yX2_both wsX2_both ({ frames := 3, cells := 0, slots := 0, locals := 78 }) (va_Pc [.ref (gM g), .int p0, .int q0, .int (bI z0)] (Cx g A (mw g σ th mi ti ++ rest))) (va_Qi (fun (r : Int32) (u : (Nat → Int32) × (Nat → Int32)) => cd_clashes σ p0 q0 = 0 → r = (if z0 then fst (clT σ (ix p0) (ix q0) 0 (2 * (sL σ (ix q0) - sL σ (ix p0)))) (len σ (ix p0)) else nI (clN σ (ix p0) (ix q0) 0 (2 * (sL σ (ix q0) - sL σ (ix p0)))))) (fun u t => kB g A (mw g σ (nI (cd_clashes σ p0 q0)) u.1 u.2 ++ rest) t) A) 0 0 A := by
  refine Met.ofW (cc := cX2_both) (maxL := 4) (ret := (some .int)) (by decide) rfl ?_
  intro p e s m args below meth c s₁ B hml hv0
  obtain ⟨rfl, hP, hD, hA, hK, hX⟩ := hv0
  have hx := B.exec
  have hb := B.bytes
  have hr := B.returns
  have hts := atoms_spec (ws := wsX2_both) B.pre
  have hown : s.vm.findClass RX2 = some m.cls := findClass_of_methodNamed B.named
  have hlocks := B.notSynchronized
  have hS : va_S A s.heap s.heap [] := va_S.rf
  have hinX2 : ∀ w ∈ u_ws RX2 TX2 11, w ∈ wsX2_both := by decide +kernel
  have hl := lv_entry ([.ref (gM g), .int p0, .int q0, .int (bI z0)]) (n := 4) (Nat.le_of_ble_eq_true rfl)
  rw [lg_entry_eq]
  generalize (lg_sl ([.ref (gM g), .int p0, .int q0, .int (bI z0)]) ++ List.replicate (4 - (lg_sl ([.ref (gM g), .int p0, .int q0, .int (bI z0)])).length) Slot.unset).toArray = ls at hl ⊢
  have hl : lv_has ls 4 [(0, .ref (gM g)), (1, .int p0), (2, .int q0), (3, .int (bI z0))] := hl
  refine lv_aload_n (pc := 0) hx hb dX2_both_0 rfl (lv_at hl 0 rfl) ?_
  refine lv_iconst (v := 0) (pc := 1) hx hb dX2_both_1 (by decide) ?_
  refine va_put (pc := 2) (D := gD g) (ci := 2) (v := .int 0) (ty := .int) (C := RX2) (T := TX2) (N := 11) hx hb hts hinX2 tyX2 tyX2_ok nmX2 hown hK hP hD hS 0 (ma0 g σ th mi ti rest) rfl 0 (by decide) (hts (.fieldLink RX2 38 "ChoirNotesModel" "thrown" "I") (by decide +kernel)) (fun _ h9 => h9) rfl (by decide +kernel) rfl rfl (Nat.le_of_ble_eq_true rfl) dX2_both_2 (fun H1 locs1 hP hD hS => ?_)
  have hP : va_P (gD g) vwCl (mw g σ 0 mi ti ++ rest) H1 := hP
  have hD : va_D A (mw g σ 0 mi ti ++ rest) := hD
  refine lv_aload_n (pc := 5) hx hb dX2_both_5 rfl (lv_at hl 0 rfl) ?_
  refine lv_iload_n (pc := 6) hx hb dX2_both_6 rfl (lv_at hl 1 rfl) ?_
  refine k_ri (pc := 7) (va_runV (As := [.int p0]) (rest := []) ⟨hx, hb, hml, hown, hts⟩ (cX2_isVoice_m l g A σ rest 0 mi ti p0 hI) (cwV 1 hts gX2_both_X2_isVoice rfl rfl rfl (by decide +kernel) ⟨Nat.le_of_ble_eq_true rfl, Nat.le_of_ble_eq_true rfl⟩) (cx_V (q0 := 0) (ci := 2) (r := (RX2, TX2, 11)) rfl (ma0 g σ 0 mi ti rest) hP hD hA hK hX hS) rfl rfl hl.1 rfl (lv_room (Nat.le_of_ble_eq_true rfl)) dX2_both_7 ⟨Nat.le_of_ble_eq_true rfl, Nat.le_of_ble_eq_true rfl⟩) (fun r_2 hr_2 => ?_)
  subst hr_2
  refine lv_if_eq (tgt := 21) (pc := 10) hx hb dX2_both_10 (by decide) (fun c1 => ?_) (fun c1 => ?_)
  · have c1 := bI_0.mp c1
    refine lv_aload_n (pc := 21) hx hb dX2_both_21 rfl (lv_at hl 0 rfl) ?_
    refine lv_iconst (v := 1) (pc := 22) hx hb dX2_both_22 (by decide) ?_
    refine va_calli (pc := 23) (va_runV (As := [.int 1]) (rest := []) ⟨hx, hb, hml, hown, hts⟩ (cX2_fail_m l g A σ rest 0 mi ti 1) (cwV 1 hts gX2_both_X2_fail rfl rfl rfl (by decide +kernel) ⟨Nat.le_of_ble_eq_true rfl, Nat.le_of_ble_eq_true rfl⟩) (cx_V (q0 := 0) (ci := 2) (r := (RX2, TX2, 11)) rfl (ma0 g σ 0 mi ti rest) hP hD hA hK hX hS) rfl rfl hl.1 rfl (lv_room (Nat.le_of_ble_eq_true rfl)) dX2_both_23 ⟨Nat.le_of_ble_eq_true rfl, Nat.le_of_ble_eq_true rfl⟩) hS (fun _ _ h => h) (fun _ h => h) (fun r_4 u5 t5 H5 locs5 ht5 hvm5 hw5 hB5 hz5 hk5 hS => ?_)
    obtain ⟨hP, hD⟩ := hB5
    rw [ht5] at hP
    subst hw5
    have hcd : cd_clashes σ (p0) (q0) = 1 := by simp [cd_clashes, c1]
    rw [hcd]
    exact W.iret hx hb hr (fun t ht hW => ⟨⟨_, (mi, ti), rfl, (fun q => absurd q (by decide)), by rw [ht]; exact hP, hD⟩, hS.F ht⟩) hS.2.2 dX2_both_26
  · have c1 := bI_n0.mp c1
    obtain ⟨v, hvn, rfl⟩ := okV_o hI.N c1
    have hvv4 : v < 4 := hI.v4 hvn
    have hixv : ix (nI v) = v := ix_n (by omega)
    have hCv := hI.C v
    refine lv_aload_n (pc := 13) hx hb dX2_both_13 rfl (lv_at hl 0 rfl) ?_
    refine lv_iload_n (pc := 14) hx hb dX2_both_14 rfl (lv_at hl 2 rfl) ?_
    refine k_ri (pc := 15) (va_runV (As := [.int q0]) (rest := []) ⟨hx, hb, hml, hown, hts⟩ (cX2_isVoice_m l g A σ rest 0 mi ti q0 hI) (cwV 1 hts gX2_both_X2_isVoice rfl rfl rfl (by decide +kernel) ⟨Nat.le_of_ble_eq_true rfl, Nat.le_of_ble_eq_true rfl⟩) (cx_V (q0 := 0) (ci := 2) (r := (RX2, TX2, 11)) rfl (ma0 g σ 0 mi ti rest) hP hD hA hK hX hS) rfl rfl hl.1 rfl (lv_room (Nat.le_of_ble_eq_true rfl)) dX2_both_15 ⟨Nat.le_of_ble_eq_true rfl, Nat.le_of_ble_eq_true rfl⟩) (fun r_6 hr_6 => ?_)
    subst hr_6
    refine lv_if_ne (tgt := 27) (pc := 18) hx hb dX2_both_18 (by decide) (fun c2 => ?_) (fun c2 => ?_)
    · have c2 := bI_n0.mp c2
      obtain ⟨w, hvn_w, rfl⟩ := okV_o hI.N c2
      have hvw4 : w < 4 := hI.v4 hvn_w
      have hixw : ix (nI w) = w := ix_n (by omega)
      have hCw := hI.C w
      rw [hixv, hixw]
      refine lv_aload_n (pc := 27) hx hb dX2_both_27 rfl (lv_at hl 0 rfl) ?_
      refine va_get (v := .ref (gB g 1)) (pc := 28) (D := gD g) (ci := 2) (C := RX2) (T := TX2) (N := 11) hx hb hts hinX2 hown hK hP 0 (ma0 g σ 0 mi ti rest) rfl 3 (by decide) (hts (.fieldLink RX2 13 "ChoirNotesModel" "clef" "[I") (by decide +kernel)) (fun _ h9 => h9) rfl dX2_both_28 ?_
      refine lv_iload_n (pc := 31) hx hb dX2_both_31 rfl (lv_at hl 1 rfl) ?_
      refine k_iald (pc := 32) (x := sL σ v) hx hb hK hP 2 0 (ma2 g σ 0 mi ti rest) rfl v rfl (by omega) (by decide) (if_pos hvn) dX2_both_32 ?_
      refine lv_iconst (v := (-1)) (pc := 33) hx hb dX2_both_33 (by decide) ?_
      refine lv_icmp_eq (tgt := 47) (pc := 34) hx hb dX2_both_34 (by decide) (fun c3 => ?_) (fun c3 => ?_)
      · refine lv_aload_n (pc := 47) hx hb dX2_both_47 rfl (lv_at hl 0 rfl) ?_
        refine lv_iconst (v := 2) (pc := 48) hx hb dX2_both_48 (by decide) ?_
        refine va_calli (pc := 49) (va_runV (As := [.int 2]) (rest := []) ⟨hx, hb, hml, hown, hts⟩ (cX2_fail_m l g A σ rest 0 mi ti 2) (cwV 1 hts gX2_both_X2_fail rfl rfl rfl (by decide +kernel) ⟨Nat.le_of_ble_eq_true rfl, Nat.le_of_ble_eq_true rfl⟩) (cx_V (q0 := 0) (ci := 2) (r := (RX2, TX2, 11)) rfl (ma0 g σ 0 mi ti rest) hP hD hA hK hX hS) rfl rfl hl.1 rfl (lv_room (Nat.le_of_ble_eq_true rfl)) dX2_both_49 ⟨Nat.le_of_ble_eq_true rfl, Nat.le_of_ble_eq_true rfl⟩) hS (fun _ _ h => h) (fun _ h => h) (fun r_9 u10 t10 H10 locs10 ht10 hvm10 hw10 hB10 hz10 hk10 hS => ?_)
        obtain ⟨hP, hD⟩ := hB10
        rw [ht10] at hP
        subst hw10
        have hcd : cd_clashes σ (nI v) (nI w) = 2 := by simp [cd_clashes, c1, hixv, c2, hixw, c3]
        rw [hcd]
        exact W.iret hx hb hr (fun t ht hW => ⟨⟨_, (mi, ti), rfl, (fun q => absurd q (by decide)), by rw [ht]; exact hP, hD⟩, hS.F ht⟩) hS.2.2 dX2_both_52
      · refine lv_aload_n (pc := 37) hx hb dX2_both_37 rfl (lv_at hl 0 rfl) ?_
        refine va_get (v := .ref (gB g 1)) (pc := 38) (D := gD g) (ci := 2) (C := RX2) (T := TX2) (N := 11) hx hb hts hinX2 hown hK hP 0 (ma0 g σ 0 mi ti rest) rfl 3 (by decide) (hts (.fieldLink RX2 13 "ChoirNotesModel" "clef" "[I") (by decide +kernel)) (fun _ h9 => h9) rfl dX2_both_38 ?_
        refine lv_iload_n (pc := 41) hx hb dX2_both_41 rfl (lv_at hl 2 rfl) ?_
        refine k_iald (pc := 42) (x := sL σ w) hx hb hK hP 2 0 (ma2 g σ 0 mi ti rest) rfl w rfl (by omega) (by decide) (if_pos hvn_w) dX2_both_42 ?_
        refine lv_iconst (v := (-1)) (pc := 43) hx hb dX2_both_43 (by decide) ?_
        refine lv_icmp_ne (tgt := 53) (pc := 44) hx hb dX2_both_44 (by decide) (fun c4 => ?_) (fun c4 => ?_)
        · refine lv_aload_n (pc := 53) hx hb dX2_both_53 rfl (lv_at hl 0 rfl) ?_
          refine lv_iload_n (pc := 54) hx hb dX2_both_54 rfl (lv_at hl 1 rfl) ?_
          refine lv_aload_n (pc := 55) hx hb dX2_both_55 rfl (lv_at hl 0 rfl) ?_
          refine va_get (v := .ref (gB g 1)) (pc := 56) (D := gD g) (ci := 2) (C := RX2) (T := TX2) (N := 11) hx hb hts hinX2 hown hK hP 0 (ma0 g σ 0 mi ti rest) rfl 3 (by decide) (hts (.fieldLink RX2 13 "ChoirNotesModel" "clef" "[I") (by decide +kernel)) (fun _ h9 => h9) rfl dX2_both_56 ?_
          refine lv_iload_n (pc := 59) hx hb dX2_both_59 rfl (lv_at hl 1 rfl) ?_
          refine k_iald (pc := 60) (x := sL σ v) hx hb hK hP 2 0 (ma2 g σ 0 mi ti rest) rfl v rfl (by omega) (by decide) (if_pos hvn) dX2_both_60 ?_
          refine lv_iload_n (pc := 61) hx hb dX2_both_61 rfl (lv_at hl 2 rfl) ?_
          refine lv_aload_n (pc := 62) hx hb dX2_both_62 rfl (lv_at hl 0 rfl) ?_
          refine va_get (v := .ref (gB g 1)) (pc := 63) (D := gD g) (ci := 2) (C := RX2) (T := TX2) (N := 11) hx hb hts hinX2 hown hK hP 0 (ma0 g σ 0 mi ti rest) rfl 3 (by decide) (hts (.fieldLink RX2 13 "ChoirNotesModel" "clef" "[I") (by decide +kernel)) (fun _ h9 => h9) rfl dX2_both_63 ?_
          refine lv_iload_n (pc := 66) hx hb dX2_both_66 rfl (lv_at hl 2 rfl) ?_
          refine k_iald (pc := 67) (x := sL σ w) hx hb hK hP 2 0 (ma2 g σ 0 mi ti rest) rfl w rfl (by omega) (by decide) (if_pos hvn_w) dX2_both_67 ?_
          refine lv_iload_n (pc := 68) hx hb dX2_both_68 rfl (lv_at hl 3 rfl) ?_
          refine va_calli (pc := 69) (va_runV (As := [.int (nI v), .int (sL σ v), .int (nI w), .int (sL σ w), .int (bI z0)]) (rest := []) ⟨hx, hb, hml, hown, hts⟩ (cX2_clash_m l g A σ rest 0 mi ti v (sL σ v) w (sL σ w) z0 hvv4 hvw4 hI) (cwV 5 hts gX2_both_X2_clash rfl rfl rfl (by decide +kernel) ⟨Nat.le_of_ble_eq_true rfl, Nat.le_of_ble_eq_true rfl⟩) (cx_V (q0 := 0) (ci := 2) (r := (RX2, TX2, 11)) rfl (ma0 g σ 0 mi ti rest) hP hD hA hK hX hS) rfl rfl hl.1 rfl (lv_room (Nat.le_of_ble_eq_true rfl)) dX2_both_69 ⟨Nat.le_of_ble_eq_true rfl, Nat.le_of_ble_eq_true rfl⟩) hS (fun _ _ h => h) (fun _ h => h) (fun r_12 u13 t13 H13 locs13 ht13 hvm13 hw13 hB13 hz13 hk13 hS => ?_)
          obtain ⟨hP, hD⟩ := hB13
          rw [ht13] at hP
          subst hw13
          have hcd : cd_clashes σ (nI v) (nI w) = 0 := by simp [cd_clashes, c1, hixv, c2, hixw, c3, c4]
          rw [hcd]
          exact W.iret hx hb hr (fun t ht hW => ⟨⟨_, (u13.1, u13.2), rfl, (fun _ => rfl), by rw [ht]; exact hP, hD⟩, hS.F ht⟩) hS.2.2 dX2_both_72
        · refine lv_aload_n (pc := 47) hx hb dX2_both_47 rfl (lv_at hl 0 rfl) ?_
          refine lv_iconst (v := 2) (pc := 48) hx hb dX2_both_48 (by decide) ?_
          refine va_calli (pc := 49) (va_runV (As := [.int 2]) (rest := []) ⟨hx, hb, hml, hown, hts⟩ (cX2_fail_m l g A σ rest 0 mi ti 2) (cwV 1 hts gX2_both_X2_fail rfl rfl rfl (by decide +kernel) ⟨Nat.le_of_ble_eq_true rfl, Nat.le_of_ble_eq_true rfl⟩) (cx_V (q0 := 0) (ci := 2) (r := (RX2, TX2, 11)) rfl (ma0 g σ 0 mi ti rest) hP hD hA hK hX hS) rfl rfl hl.1 rfl (lv_room (Nat.le_of_ble_eq_true rfl)) dX2_both_49 ⟨Nat.le_of_ble_eq_true rfl, Nat.le_of_ble_eq_true rfl⟩) hS (fun _ _ h => h) (fun _ h => h) (fun r_14 u15 t15 H15 locs15 ht15 hvm15 hw15 hB15 hz15 hk15 hS => ?_)
          obtain ⟨hP, hD⟩ := hB15
          rw [ht15] at hP
          subst hw15
          have hcd : cd_clashes σ (nI v) (nI w) = 2 := by simp [cd_clashes, c1, hixv, c2, hixw, c3, c4]
          rw [hcd]
          exact W.iret hx hb hr (fun t ht hW => ⟨⟨_, (mi, ti), rfl, (fun q => absurd q (by decide)), by rw [ht]; exact hP, hD⟩, hS.F ht⟩) hS.2.2 dX2_both_52
    · have c2 := bI_0.mp c2
      refine lv_aload_n (pc := 21) hx hb dX2_both_21 rfl (lv_at hl 0 rfl) ?_
      refine lv_iconst (v := 1) (pc := 22) hx hb dX2_both_22 (by decide) ?_
      refine va_calli (pc := 23) (va_runV (As := [.int 1]) (rest := []) ⟨hx, hb, hml, hown, hts⟩ (cX2_fail_m l g A σ rest 0 mi ti 1) (cwV 1 hts gX2_both_X2_fail rfl rfl rfl (by decide +kernel) ⟨Nat.le_of_ble_eq_true rfl, Nat.le_of_ble_eq_true rfl⟩) (cx_V (q0 := 0) (ci := 2) (r := (RX2, TX2, 11)) rfl (ma0 g σ 0 mi ti rest) hP hD hA hK hX hS) rfl rfl hl.1 rfl (lv_room (Nat.le_of_ble_eq_true rfl)) dX2_both_23 ⟨Nat.le_of_ble_eq_true rfl, Nat.le_of_ble_eq_true rfl⟩) hS (fun _ _ h => h) (fun _ h => h) (fun r_16 u17 t17 H17 locs17 ht17 hvm17 hw17 hB17 hz17 hk17 hS => ?_)
      obtain ⟨hP, hD⟩ := hB17
      rw [ht17] at hP
      subst hw17
      have hcd : cd_clashes σ (nI v) (q0) = 1 := by simp [cd_clashes, c1, hixv, c2]
      rw [hcd]
      exact W.iret hx hb hr (fun t ht hW => ⟨⟨_, (mi, ti), rfl, (fun q => absurd q (by decide)), by rw [ht]; exact hP, hD⟩, hS.F ht⟩) hS.2.2 dX2_both_26
set_option maxHeartbeats 4000000 in
set_option maxRecDepth 100000 in
/-- clashes -/
theorem cX2_clashes_m (l : Launch) (g : GA) (A : Nat → Prop) (σ : St) (rest : va_W) (th : Int32) (mi ti : Nat → Int32) (p0 q0 : Int32) (hI : Inv σ) : Met l yX2_clashes wsX2_clashes ({ frames := 4, cells := 0, slots := 0, locals := 101 }) (va_Pc [.ref (gM g), .int p0, .int q0] (Cx g A (mw g σ th mi ti ++ rest))) (va_Qi (fun (r : Int32) (u : (Nat → Int32) × (Nat → Int32)) => cd_clashes σ p0 q0 = 0 → r = nI (clN σ (ix p0) (ix q0) 0 (2 * (sL σ (ix q0) - sL σ (ix p0))))) (fun u t => kB g A (mw g σ (nI (cd_clashes σ p0 q0)) u.1 u.2 ++ rest) t) A) 0 0 A := by
  refine Met.ofW (cc := cX2_clashes) (maxL := 3) (ret := (some .int)) (by decide) rfl ?_
  intro p e s m args below meth c s₁ B hml hv0
  obtain ⟨rfl, hP, hD, hA, hK, hX⟩ := hv0
  have hx := B.exec
  have hb := B.bytes
  have hr := B.returns
  have hts := atoms_spec (ws := wsX2_clashes) B.pre
  have hown : s.vm.findClass RX2 = some m.cls := findClass_of_methodNamed B.named
  have hlocks := B.notSynchronized
  have hS : va_S A s.heap s.heap [] := va_S.rf
  have hl := lv_entry ([.ref (gM g), .int p0, .int q0]) (n := 3) (Nat.le_of_ble_eq_true rfl)
  rw [lg_entry_eq]
  generalize (lg_sl ([.ref (gM g), .int p0, .int q0]) ++ List.replicate (3 - (lg_sl ([.ref (gM g), .int p0, .int q0])).length) Slot.unset).toArray = ls at hl ⊢
  have hl : lv_has ls 3 [(0, .ref (gM g)), (1, .int p0), (2, .int q0)] := hl
  refine lv_aload_n (pc := 0) hx hb dX2_clashes_0 rfl (lv_at hl 0 rfl) ?_
  refine lv_iload_n (pc := 1) hx hb dX2_clashes_1 rfl (lv_at hl 1 rfl) ?_
  refine lv_iload_n (pc := 2) hx hb dX2_clashes_2 rfl (lv_at hl 2 rfl) ?_
  refine lv_iconst (v := 0) (pc := 3) hx hb dX2_clashes_3 (by decide) ?_
  refine va_calli (pc := 4) (va_runV (As := [.int p0, .int q0, .int 0]) (rest := []) ⟨hx, hb, hml, hown, hts⟩ (cX2_both_m l g A σ rest th mi ti p0 q0 false hI) (cwV 3 hts gX2_clashes_X2_both rfl rfl rfl (by decide +kernel) ⟨Nat.le_of_ble_eq_true rfl, Nat.le_of_ble_eq_true rfl⟩) (cx_V (q0 := 0) (ci := 2) (r := (RX2, TX2, 11)) rfl (ma0 g σ th mi ti rest) hP hD hA hK hX hS) rfl rfl hl.1 rfl (lv_room (Nat.le_of_ble_eq_true rfl)) dX2_clashes_4 ⟨Nat.le_of_ble_eq_true rfl, Nat.le_of_ble_eq_true rfl⟩) hS (fun _ _ h => h) (fun _ h => h) (fun r_1 u2 t2 H2 locs2 ht2 hvm2 hw2 hB2 hz2 hk2 hS => ?_)
  obtain ⟨hP, hD⟩ := hB2
  rw [ht2] at hP
  exact W.iret hx hb hr (fun t ht hW => ⟨⟨_, u2, rfl, fun q => (hw2 q).trans rfl, by rw [ht]; exact hP, hD⟩, hS.F ht⟩) hS.2.2 dX2_clashes_7
set_option maxHeartbeats 4000000 in
set_option maxRecDepth 100000 in
/-- firstClash -/
theorem cX2_firstClash_m (l : Launch) (g : GA) (A : Nat → Prop) (σ : St) (rest : va_W) (th : Int32) (mi ti : Nat → Int32) (p0 q0 : Int32) (hI : Inv σ) : Met l yX2_firstClash wsX2_firstClash ({ frames := 4, cells := 0, slots := 0, locals := 101 }) (va_Pc [.ref (gM g), .int p0, .int q0] (Cx g A (mw g σ th mi ti ++ rest))) (va_Qi (fun (r : Int32) (u : (Nat → Int32) × (Nat → Int32)) => cd_clashes σ p0 q0 = 0 → r = fst (clT σ (ix p0) (ix q0) 0 (2 * (sL σ (ix q0) - sL σ (ix p0)))) (len σ (ix p0))) (fun u t => kB g A (mw g σ (nI (cd_clashes σ p0 q0)) u.1 u.2 ++ rest) t) A) 0 0 A := by
  refine Met.ofW (cc := cX2_firstClash) (maxL := 3) (ret := (some .int)) (by decide) rfl ?_
  intro p e s m args below meth c s₁ B hml hv0
  obtain ⟨rfl, hP, hD, hA, hK, hX⟩ := hv0
  have hx := B.exec
  have hb := B.bytes
  have hr := B.returns
  have hts := atoms_spec (ws := wsX2_firstClash) B.pre
  have hown : s.vm.findClass RX2 = some m.cls := findClass_of_methodNamed B.named
  have hlocks := B.notSynchronized
  have hS : va_S A s.heap s.heap [] := va_S.rf
  have hl := lv_entry ([.ref (gM g), .int p0, .int q0]) (n := 3) (Nat.le_of_ble_eq_true rfl)
  rw [lg_entry_eq]
  generalize (lg_sl ([.ref (gM g), .int p0, .int q0]) ++ List.replicate (3 - (lg_sl ([.ref (gM g), .int p0, .int q0])).length) Slot.unset).toArray = ls at hl ⊢
  have hl : lv_has ls 3 [(0, .ref (gM g)), (1, .int p0), (2, .int q0)] := hl
  refine lv_aload_n (pc := 0) hx hb dX2_firstClash_0 rfl (lv_at hl 0 rfl) ?_
  refine lv_iload_n (pc := 1) hx hb dX2_firstClash_1 rfl (lv_at hl 1 rfl) ?_
  refine lv_iload_n (pc := 2) hx hb dX2_firstClash_2 rfl (lv_at hl 2 rfl) ?_
  refine lv_iconst (v := 1) (pc := 3) hx hb dX2_firstClash_3 (by decide) ?_
  refine va_calli (pc := 4) (va_runV (As := [.int p0, .int q0, .int 1]) (rest := []) ⟨hx, hb, hml, hown, hts⟩ (cX2_both_m l g A σ rest th mi ti p0 q0 true hI) (cwV 3 hts gX2_firstClash_X2_both rfl rfl rfl (by decide +kernel) ⟨Nat.le_of_ble_eq_true rfl, Nat.le_of_ble_eq_true rfl⟩) (cx_V (q0 := 0) (ci := 2) (r := (RX2, TX2, 11)) rfl (ma0 g σ th mi ti rest) hP hD hA hK hX hS) rfl rfl hl.1 rfl (lv_room (Nat.le_of_ble_eq_true rfl)) dX2_firstClash_4 ⟨Nat.le_of_ble_eq_true rfl, Nat.le_of_ble_eq_true rfl⟩) hS (fun _ _ h => h) (fun _ h => h) (fun r_1 u2 t2 H2 locs2 ht2 hvm2 hw2 hB2 hz2 hk2 hS => ?_)
  obtain ⟨hP, hD⟩ := hB2
  rw [ht2] at hP
  exact W.iret hx hb hr (fun t ht hW => ⟨⟨_, u2, rfl, fun q => (hw2 q).trans rfl, by rw [ht]; exact hP, hD⟩, hS.F ht⟩) hS.2.2 dX2_firstClash_7
set_option maxHeartbeats 4000000 in
set_option maxRecDepth 100000 in
/-- voices -/
theorem cX2_voices_m (l : Launch) (g : GA) (A : Nat → Prop) (σ : St) (rest : va_W) (th : Int32) (mi ti : Nat → Int32) (hI : Inv σ) : Met l yX2_voices wsX2_voices ({ frames := 1, cells := 0, slots := 0, locals := 21 }) (va_Pc [.ref (gM g)] (Cx g A (mw g σ th mi ti ++ rest))) (va_Qi (fun (r : Int32) (u : Unit) => r = nI (sN σ)) (fun u t => kB g A (mw g σ 0 mi ti ++ rest) t) A) 0 0 A := by
  refine Met.ofW (cc := cX2_voices) (maxL := 1) (ret := (some .int)) (by decide) rfl ?_
  intro p e s m args below meth c s₁ B hml hv0
  obtain ⟨rfl, hP, hD, hA, hK, hX⟩ := hv0
  have hx := B.exec
  have hb := B.bytes
  have hr := B.returns
  have hts := atoms_spec (ws := wsX2_voices) B.pre
  have hown : s.vm.findClass RX2 = some m.cls := findClass_of_methodNamed B.named
  have hlocks := B.notSynchronized
  have hS : va_S A s.heap s.heap [] := va_S.rf
  have hinX2 : ∀ w ∈ u_ws RX2 TX2 11, w ∈ wsX2_voices := by decide +kernel
  have hl := lv_entry ([.ref (gM g)]) (n := 1) (Nat.le_of_ble_eq_true rfl)
  rw [lg_entry_eq]
  generalize (lg_sl ([.ref (gM g)]) ++ List.replicate (1 - (lg_sl ([.ref (gM g)])).length) Slot.unset).toArray = ls at hl ⊢
  have hl : lv_has ls 1 [(0, .ref (gM g))] := hl
  refine lv_aload_n (pc := 0) hx hb dX2_voices_0 rfl (lv_at hl 0 rfl) ?_
  refine lv_aload_n (pc := 1) hx hb dX2_voices_1 rfl (lv_at hl 0 rfl) ?_
  refine va_get (v := .int (nI (sN σ))) (pc := 2) (D := gD g) (ci := 2) (C := RX2) (T := TX2) (N := 11) hx hb hts hinX2 hown hK hP 0 (ma0 g σ th mi ti rest) rfl 1 (by decide) (hts (.fieldLink RX2 42 "ChoirNotesModel" "voices" "I") (by decide +kernel)) (fun _ h9 => h9) rfl dX2_voices_2 ?_
  refine va_calli (pc := 5) (va_runV (As := [.int (nI (sN σ))]) (rest := []) ⟨hx, hb, hml, hown, hts⟩ (cX2_told_m l g A σ rest th mi ti (nI (sN σ))) (cwV 1 hts gX2_voices_X2_told rfl rfl rfl (by decide +kernel) ⟨Nat.le_of_ble_eq_true rfl, Nat.le_of_ble_eq_true rfl⟩) (cx_V (q0 := 0) (ci := 2) (r := (RX2, TX2, 11)) rfl (ma0 g σ th mi ti rest) hP hD hA hK hX hS) rfl rfl hl.1 rfl (lv_room (Nat.le_of_ble_eq_true rfl)) dX2_voices_5 ⟨Nat.le_of_ble_eq_true rfl, Nat.le_of_ble_eq_true rfl⟩) hS (fun _ _ h => h) (fun _ h => h) (fun r_1 u2 t2 H2 locs2 ht2 hvm2 hw2 hB2 hz2 hk2 hS => ?_)
  obtain ⟨hP, hD⟩ := hB2
  rw [ht2] at hP
  subst hw2
  exact W.iret hx hb hr (fun t ht hW => ⟨⟨_, (), rfl, rfl, by rw [ht]; exact hP, hD⟩, hS.F ht⟩) hS.2.2 dX2_voices_8
set_option maxHeartbeats 4000000 in
set_option maxRecDepth 100000 in
/-- longest -/
theorem cX2_longest_m (l : Launch) (g : GA) (A : Nat → Prop) (σ : St) (rest : va_W) (th : Int32) (mi ti : Nat → Int32) (hI : Inv σ) : Met l yX2_longest wsX2_longest ({ frames := 3, cells := 0, slots := 0, locals := 70 }) (va_Pc [.ref (gM g)] (Cx g A (mw g σ th mi ti ++ rest))) (va_Qi (fun (r : Int32) (u : Unit) => r = nI (lngst σ)) (fun u t => kB g A (mw g σ 0 mi ti ++ rest) t) A) 0 0 A := by
  refine Met.ofW (cc := cX2_longest) (maxL := 1) (ret := (some .int)) (by decide) rfl ?_
  intro p e s m args below meth c s₁ B hml hv0
  obtain ⟨rfl, hP, hD, hA, hK, hX⟩ := hv0
  have hx := B.exec
  have hb := B.bytes
  have hr := B.returns
  have hts := atoms_spec (ws := wsX2_longest) B.pre
  have hown : s.vm.findClass RX2 = some m.cls := findClass_of_methodNamed B.named
  have hlocks := B.notSynchronized
  have hS : va_S A s.heap s.heap [] := va_S.rf
  have hl := lv_entry ([.ref (gM g)]) (n := 1) (Nat.le_of_ble_eq_true rfl)
  rw [lg_entry_eq]
  generalize (lg_sl ([.ref (gM g)]) ++ List.replicate (1 - (lg_sl ([.ref (gM g)])).length) Slot.unset).toArray = ls at hl ⊢
  have hl : lv_has ls 1 [(0, .ref (gM g))] := hl
  refine lv_aload_n (pc := 0) hx hb dX2_longest_0 rfl (lv_at hl 0 rfl) ?_
  refine lv_aload_n (pc := 1) hx hb dX2_longest_1 rfl (lv_at hl 0 rfl) ?_
  refine k_ri (pc := 2) (va_runV (As := []) (rest := [.ref (gM g)]) ⟨hx, hb, hml, hown, hts⟩ (cX2_most_m l g A σ rest th mi ti hI) (cwV 0 hts gX2_longest_X2_most rfl rfl rfl (by decide +kernel) ⟨Nat.le_of_ble_eq_true rfl, Nat.le_of_ble_eq_true rfl⟩) (cx_V (q0 := 0) (ci := 2) (r := (RX2, TX2, 11)) rfl (ma0 g σ th mi ti rest) hP hD hA hK hX hS) rfl rfl hl.1 rfl (lv_room (Nat.le_of_ble_eq_true rfl)) dX2_longest_2 ⟨Nat.le_of_ble_eq_true rfl, Nat.le_of_ble_eq_true rfl⟩) (fun r_1 hr_1 => ?_)
  subst hr_1
  refine va_calli (pc := 5) (va_runV (As := [.int (nI (lngst σ))]) (rest := []) ⟨hx, hb, hml, hown, hts⟩ (cX2_told_m l g A σ rest th mi ti (nI (lngst σ))) (cwV 1 hts gX2_longest_X2_told rfl rfl rfl (by decide +kernel) ⟨Nat.le_of_ble_eq_true rfl, Nat.le_of_ble_eq_true rfl⟩) (cx_V (q0 := 0) (ci := 2) (r := (RX2, TX2, 11)) rfl (ma0 g σ th mi ti rest) hP hD hA hK hX hS) rfl rfl hl.1 rfl (lv_room (Nat.le_of_ble_eq_true rfl)) dX2_longest_5 ⟨Nat.le_of_ble_eq_true rfl, Nat.le_of_ble_eq_true rfl⟩) hS (fun _ _ h => h) (fun _ h => h) (fun r_2 u3 t3 H3 locs3 ht3 hvm3 hw3 hB3 hz3 hk3 hS => ?_)
  obtain ⟨hP, hD⟩ := hB3
  rw [ht3] at hP
  subst hw3
  exact W.iret hx hb hr (fun t ht hW => ⟨⟨_, (), rfl, rfl, by rw [ht]; exact hP, hD⟩, hS.F ht⟩) hS.2.2 dX2_longest_8
