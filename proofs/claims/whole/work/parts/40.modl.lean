/-! THE REFERENCE: a ligature -/
set_option maxHeartbeats 4000000 in
set_option maxRecDepth 100000 in
/-- addLigature -/
theorem cX2_addLigature_m (l : Launch) (g : GA) (A : Nat → Prop) (σ : St) (rest : va_W) (th : Int32) (mi ti : Nat → Int32) (p0 : Int32) (f0 : Int32) (s0 : Int32) (t0 : Int32) (z0 : Bool) (hI : Inv σ) : Met l yX2_addLigature wsX2_addLigature ({ frames := 2, cells := 0, slots := 0, locals := 43 }) (va_Pc [.ref (gM g), .int p0, .int f0, .int s0, .int t0, .int (bI z0)] (Cx g A (mw g σ th mi ti ++ rest))) (va_Qi (fun (r : Int32) (u : (Nat → Int32) × (Nat → Int32)) => cd_addLigature σ p0 f0 s0 t0 = 0 → r = nI (sC σ (ix p0))) (fun u t => kB g A (mw g (efs (cd_addLigature σ p0 f0 s0 t0) (ef_addLigature σ (ix p0) f0 s0 t0 z0) σ) (nI (cd_addLigature σ p0 f0 s0 t0)) u.1 u.2 ++ rest) t) A) 0 0 A := by
  refine Met.ofW (cc := cX2_addLigature) (maxL := 8) (ret := (some .int)) (by decide) rfl ?_
  intro p e s m args below meth c s₁ B hml hv0
  obtain ⟨rfl, hP, hD, hA, hK, hX⟩ := hv0
  have hx := B.exec
  have hb := B.bytes
  have hr := B.returns
  have hts := atoms_spec (ws := wsX2_addLigature) B.pre
  have hown : s.vm.findClass RX2 = some m.cls := findClass_of_methodNamed B.named
  have hlocks := B.notSynchronized
  have hS : va_S A s.heap s.heap [] := va_S.rf
  have hinX2 : ∀ w ∈ u_ws RX2 TX2 11, w ∈ wsX2_addLigature := by decide +kernel
  have hl := lv_entry ([.ref (gM g), .int p0, .int f0, .int s0, .int t0, .int (bI z0)]) (n := 8) (Nat.le_of_ble_eq_true rfl)
  rw [lg_entry_eq]
  generalize (lg_sl ([.ref (gM g), .int p0, .int f0, .int s0, .int t0, .int (bI z0)]) ++ List.replicate (8 - (lg_sl ([.ref (gM g), .int p0, .int f0, .int s0, .int t0, .int (bI z0)])).length) Slot.unset).toArray = ls at hl ⊢
  have hl : lv_has ls 8 [(0, .ref (gM g)), (1, .int p0), (2, .int f0), (3, .int s0), (4, .int t0), (5, .int (bI z0))] := hl
  refine lv_aload_n (pc := 0) hx hb dX2_addLigature_0 rfl (lv_at hl 0 rfl) ?_
  refine lv_iconst (v := 0) (pc := 1) hx hb dX2_addLigature_1 (by decide) ?_
  refine va_put (pc := 2) (D := gD g) (ci := 2) (v := .int 0) (ty := .int) (C := RX2) (T := TX2) (N := 11) hx hb hts hinX2 tyX2 tyX2_ok nmX2 hown hK hP hD hS 0 (ma0 g σ th mi ti rest) rfl 0 (by decide) (hts (.fieldLink RX2 38 "ChoirNotesModel" "thrown" "I") (by decide +kernel)) (fun _ h9 => h9) rfl (by decide +kernel) rfl rfl (Nat.le_of_ble_eq_true rfl) dX2_addLigature_2 (fun H1 locs1 hP hD hS => ?_)
  have hP : va_P (gD g) vwCl (mw g σ 0 mi ti ++ rest) H1 := hP
  have hD : va_D A (mw g σ 0 mi ti ++ rest) := hD
  refine lv_aload_n (pc := 5) hx hb dX2_addLigature_5 rfl (lv_at hl 0 rfl) ?_
  refine lv_iload_n (pc := 6) hx hb dX2_addLigature_6 rfl (lv_at hl 1 rfl) ?_
  refine k_ri (pc := 7) (va_runV (As := [.int p0]) (rest := []) ⟨hx, hb, hml, hown, hts⟩ (cX2_isVoice_m l g A σ rest 0 mi ti p0 hI) (cwV 1 hts gX2_addLigature_X2_isVoice rfl rfl rfl (by decide +kernel) ⟨Nat.le_of_ble_eq_true rfl, Nat.le_of_ble_eq_true rfl⟩) (cx_V (q0 := 0) (ci := 2) (r := (RX2, TX2, 11)) rfl (ma0 g σ 0 mi ti rest) hP hD hA hK hX hS) rfl rfl hl.1 rfl (lv_room (Nat.le_of_ble_eq_true rfl)) dX2_addLigature_7 ⟨Nat.le_of_ble_eq_true rfl, Nat.le_of_ble_eq_true rfl⟩) (fun r_2 hr_2 => ?_)
  subst hr_2
  refine lv_if_ne (tgt := 19) (pc := 10) hx hb dX2_addLigature_10 (by decide) (fun c1 => ?_) (fun c1 => ?_)
  · have c1 := bI_n0.mp c1
    obtain ⟨v, hvn, rfl⟩ := okV_o hI.N c1
    have hvv4 : v < 4 := hI.v4 hvn
    have hixv : ix (nI v) = v := ix_n (by omega)
    have hCv := hI.C v
    rw [hixv]
    refine lv_iload_n (pc := 19) hx hb dX2_addLigature_19 rfl (lv_at hl 2 rfl) ?_
    refine lv_iconst (v := 0) (pc := 20) hx hb dX2_addLigature_20 (by decide) ?_
    refine lv_bipush (v := 9) (pc := 21) hx hb dX2_addLigature_21 (by decide) ?_
    refine k_ri (pc := 23) (va_runS (As := [.int f0, .int 0, .int 9]) (rest := []) ⟨hx, hb, hml, hown, hts⟩ (cX2_isIn_m l g A σ rest 0 mi ti f0 0 9) (va_cwS 3 hts gX2_addLigature_X2_isIn rfl rfl rfl (by decide +kernel) ⟨Nat.le_of_ble_eq_true rfl, Nat.le_of_ble_eq_true rfl⟩) (cx_S hP hD hA hK hX hS) rfl rfl hl.1 rfl (lv_room (Nat.le_of_ble_eq_true rfl)) dX2_addLigature_23 ⟨Nat.le_of_ble_eq_true rfl, Nat.le_of_ble_eq_true rfl⟩) (fun r_4 hr_4 => ?_)
    subst hr_4
    refine lv_if_eq (tgt := 61) (pc := 26) hx hb dX2_addLigature_26 (by decide) (fun c2 => ?_) (fun c2 => ?_)
    · have c2 := bI_0.mp c2
      refine lv_aload_n (pc := 61) hx hb dX2_addLigature_61 rfl (lv_at hl 0 rfl) ?_
      refine lv_iconst (v := 2) (pc := 62) hx hb dX2_addLigature_62 (by decide) ?_
      refine va_calli (pc := 63) (va_runV (As := [.int 2]) (rest := []) ⟨hx, hb, hml, hown, hts⟩ (cX2_fail_m l g A σ rest 0 mi ti 2) (cwV 1 hts gX2_addLigature_X2_fail rfl rfl rfl (by decide +kernel) ⟨Nat.le_of_ble_eq_true rfl, Nat.le_of_ble_eq_true rfl⟩) (cx_V (q0 := 0) (ci := 2) (r := (RX2, TX2, 11)) rfl (ma0 g σ 0 mi ti rest) hP hD hA hK hX hS) rfl rfl hl.1 rfl (lv_room (Nat.le_of_ble_eq_true rfl)) dX2_addLigature_63 ⟨Nat.le_of_ble_eq_true rfl, Nat.le_of_ble_eq_true rfl⟩) hS (fun _ _ h => h) (fun _ h => h) (fun r_6 u7 t7 H7 locs7 ht7 hvm7 hw7 hB7 hz7 hk7 hS => ?_)
      obtain ⟨hP, hD⟩ := hB7
      rw [ht7] at hP
      subst hw7
      have hcd : cd_addLigature σ (nI v) f0 s0 t0 = 2 := by simp [cd_addLigature, inL, c1, hixv, c2]
      rw [hcd]
      exact W.iret hx hb hr (fun t ht hW => ⟨⟨_, (mi, ti), rfl, (fun q => absurd q (by decide)), by rw [ht]; exact hP, hD⟩, hS.F ht⟩) hS.2.2 dX2_addLigature_66
    · have c2 := bI_n0.mp c2
      refine lv_iload_n (pc := 29) hx hb dX2_addLigature_29 rfl (lv_at hl 3 rfl) ?_
      refine lv_iconst (v := 0) (pc := 30) hx hb dX2_addLigature_30 (by decide) ?_
      refine lv_bipush (v := 9) (pc := 31) hx hb dX2_addLigature_31 (by decide) ?_
      refine k_ri (pc := 33) (va_runS (As := [.int s0, .int 0, .int 9]) (rest := []) ⟨hx, hb, hml, hown, hts⟩ (cX2_isIn_m l g A σ rest 0 mi ti s0 0 9) (va_cwS 3 hts gX2_addLigature_X2_isIn rfl rfl rfl (by decide +kernel) ⟨Nat.le_of_ble_eq_true rfl, Nat.le_of_ble_eq_true rfl⟩) (cx_S hP hD hA hK hX hS) rfl rfl hl.1 rfl (lv_room (Nat.le_of_ble_eq_true rfl)) dX2_addLigature_33 ⟨Nat.le_of_ble_eq_true rfl, Nat.le_of_ble_eq_true rfl⟩) (fun r_8 hr_8 => ?_)
      subst hr_8
      refine lv_if_eq (tgt := 61) (pc := 36) hx hb dX2_addLigature_36 (by decide) (fun c3 => ?_) (fun c3 => ?_)
      · have c3 := bI_0.mp c3
        refine lv_aload_n (pc := 61) hx hb dX2_addLigature_61 rfl (lv_at hl 0 rfl) ?_
        refine lv_iconst (v := 2) (pc := 62) hx hb dX2_addLigature_62 (by decide) ?_
        refine va_calli (pc := 63) (va_runV (As := [.int 2]) (rest := []) ⟨hx, hb, hml, hown, hts⟩ (cX2_fail_m l g A σ rest 0 mi ti 2) (cwV 1 hts gX2_addLigature_X2_fail rfl rfl rfl (by decide +kernel) ⟨Nat.le_of_ble_eq_true rfl, Nat.le_of_ble_eq_true rfl⟩) (cx_V (q0 := 0) (ci := 2) (r := (RX2, TX2, 11)) rfl (ma0 g σ 0 mi ti rest) hP hD hA hK hX hS) rfl rfl hl.1 rfl (lv_room (Nat.le_of_ble_eq_true rfl)) dX2_addLigature_63 ⟨Nat.le_of_ble_eq_true rfl, Nat.le_of_ble_eq_true rfl⟩) hS (fun _ _ h => h) (fun _ h => h) (fun r_10 u11 t11 H11 locs11 ht11 hvm11 hw11 hB11 hz11 hk11 hS => ?_)
        obtain ⟨hP, hD⟩ := hB11
        rw [ht11] at hP
        subst hw11
        have hcd : cd_addLigature σ (nI v) f0 s0 t0 = 2 := by simp [cd_addLigature, inL, c1, hixv, c2, c3]
        rw [hcd]
        exact W.iret hx hb hr (fun t ht hW => ⟨⟨_, (mi, ti), rfl, (fun q => absurd q (by decide)), by rw [ht]; exact hP, hD⟩, hS.F ht⟩) hS.2.2 dX2_addLigature_66
      · have c3 := bI_n0.mp c3
        refine lv_iload (pc := 39) hx hb dX2_addLigature_39 (lv_at hl 4 rfl) ?_
        refine lv_iconst (v := (-1)) (pc := 41) hx hb dX2_addLigature_41 (by decide) ?_
        refine lv_bipush (v := 9) (pc := 42) hx hb dX2_addLigature_42 (by decide) ?_
        refine k_ri (pc := 44) (va_runS (As := [.int t0, .int ((-1)), .int 9]) (rest := []) ⟨hx, hb, hml, hown, hts⟩ (cX2_isIn_m l g A σ rest 0 mi ti t0 ((-1)) 9) (va_cwS 3 hts gX2_addLigature_X2_isIn rfl rfl rfl (by decide +kernel) ⟨Nat.le_of_ble_eq_true rfl, Nat.le_of_ble_eq_true rfl⟩) (cx_S hP hD hA hK hX hS) rfl rfl hl.1 rfl (lv_room (Nat.le_of_ble_eq_true rfl)) dX2_addLigature_44 ⟨Nat.le_of_ble_eq_true rfl, Nat.le_of_ble_eq_true rfl⟩) (fun r_12 hr_12 => ?_)
        subst hr_12
        refine lv_if_eq (tgt := 61) (pc := 47) hx hb dX2_addLigature_47 (by decide) (fun c4 => ?_) (fun c4 => ?_)
        · have c4 := bI_0.mp c4
          refine lv_aload_n (pc := 61) hx hb dX2_addLigature_61 rfl (lv_at hl 0 rfl) ?_
          refine lv_iconst (v := 2) (pc := 62) hx hb dX2_addLigature_62 (by decide) ?_
          refine va_calli (pc := 63) (va_runV (As := [.int 2]) (rest := []) ⟨hx, hb, hml, hown, hts⟩ (cX2_fail_m l g A σ rest 0 mi ti 2) (cwV 1 hts gX2_addLigature_X2_fail rfl rfl rfl (by decide +kernel) ⟨Nat.le_of_ble_eq_true rfl, Nat.le_of_ble_eq_true rfl⟩) (cx_V (q0 := 0) (ci := 2) (r := (RX2, TX2, 11)) rfl (ma0 g σ 0 mi ti rest) hP hD hA hK hX hS) rfl rfl hl.1 rfl (lv_room (Nat.le_of_ble_eq_true rfl)) dX2_addLigature_63 ⟨Nat.le_of_ble_eq_true rfl, Nat.le_of_ble_eq_true rfl⟩) hS (fun _ _ h => h) (fun _ h => h) (fun r_14 u15 t15 H15 locs15 ht15 hvm15 hw15 hB15 hz15 hk15 hS => ?_)
          obtain ⟨hP, hD⟩ := hB15
          rw [ht15] at hP
          subst hw15
          have hcd : cd_addLigature σ (nI v) f0 s0 t0 = 2 := by simp [cd_addLigature, inL, c1, hixv, c2, c3, c4]
          rw [hcd]
          exact W.iret hx hb hr (fun t ht hW => ⟨⟨_, (mi, ti), rfl, (fun q => absurd q (by decide)), by rw [ht]; exact hP, hD⟩, hS.F ht⟩) hS.2.2 dX2_addLigature_66
        · have c4 := bI_n0.mp c4
          refine lv_iload_n (pc := 50) hx hb dX2_addLigature_50 rfl (lv_at hl 2 rfl) ?_
          refine lv_iload_n (pc := 51) hx hb dX2_addLigature_51 rfl (lv_at hl 3 rfl) ?_
          refine lv_icmp_eq (tgt := 61) (pc := 52) hx hb dX2_addLigature_52 (by decide) (fun c5 => ?_) (fun c5 => ?_)
          · have c5 : s0 = f0 := c5.symm
            refine lv_aload_n (pc := 61) hx hb dX2_addLigature_61 rfl (lv_at hl 0 rfl) ?_
            refine lv_iconst (v := 2) (pc := 62) hx hb dX2_addLigature_62 (by decide) ?_
            refine va_calli (pc := 63) (va_runV (As := [.int 2]) (rest := []) ⟨hx, hb, hml, hown, hts⟩ (cX2_fail_m l g A σ rest 0 mi ti 2) (cwV 1 hts gX2_addLigature_X2_fail rfl rfl rfl (by decide +kernel) ⟨Nat.le_of_ble_eq_true rfl, Nat.le_of_ble_eq_true rfl⟩) (cx_V (q0 := 0) (ci := 2) (r := (RX2, TX2, 11)) rfl (ma0 g σ 0 mi ti rest) hP hD hA hK hX hS) rfl rfl hl.1 rfl (lv_room (Nat.le_of_ble_eq_true rfl)) dX2_addLigature_63 ⟨Nat.le_of_ble_eq_true rfl, Nat.le_of_ble_eq_true rfl⟩) hS (fun _ _ h => h) (fun _ h => h) (fun r_17 u18 t18 H18 locs18 ht18 hvm18 hw18 hB18 hz18 hk18 hS => ?_)
            obtain ⟨hP, hD⟩ := hB18
            rw [ht18] at hP
            subst hw18
            have hcd : cd_addLigature σ (nI v) f0 s0 t0 = 2 := by simp [cd_addLigature, inL, c1, hixv, c2, c3, c4, c5]
            rw [hcd]
            exact W.iret hx hb hr (fun t ht hW => ⟨⟨_, (mi, ti), rfl, (fun q => absurd q (by decide)), by rw [ht]; exact hP, hD⟩, hS.F ht⟩) hS.2.2 dX2_addLigature_66
          · have c5 : ¬ s0 = f0 := fun q => c5 q.symm
            refine lv_iload_n (pc := 55) hx hb dX2_addLigature_55 rfl (lv_at hl 3 rfl) ?_
            refine lv_iload (pc := 56) hx hb dX2_addLigature_56 (lv_at hl 4 rfl) ?_
            refine lv_icmp_ne (tgt := 67) (pc := 58) hx hb dX2_addLigature_58 (by decide) (fun c6 => ?_) (fun c6 => ?_)
            · have c6 : ¬ t0 = s0 := fun q => c6 q.symm
              refine lv_iload (pc := 67) hx hb dX2_addLigature_67 (lv_at hl 4 rfl) ?_
              refine lv_iconst (v := (-1)) (pc := 69) hx hb dX2_addLigature_69 (by decide) ?_
              refine lv_icmp_ne (tgt := 77) (pc := 70) hx hb dX2_addLigature_70 (by decide) (fun k5 => ?_) (fun k5 => ?_)
              · have hM : lgM t0 = 3 := if_neg k5
                refine lv_iconst (v := 3) (pc := 77) hx hb dX2_addLigature_77 (by decide) ?_
                refine lv_istore (lv' := [(6, .int 3), (0, .ref (gM g)), (1, .int (nI v)), (2, .int f0), (3, .int s0), (4, .int t0), (5, .int (bI z0))]) (pc := 78) hx hb dX2_addLigature_78 hl (by decide) rfl (fun ls hl => ?_)
                refine lv_aload_n (pc := 80) hx hb dX2_addLigature_80 rfl (lv_at hl 1 rfl) ?_
                refine va_get (v := .ref (gB g 0)) (pc := 81) (D := gD g) (ci := 2) (C := RX2) (T := TX2) (N := 11) hx hb hts hinX2 hown hK hP 0 (ma0 g σ 0 mi ti rest) rfl 2 (by decide) (hts (.fieldLink RX2 9 "ChoirNotesModel" "many" "[I") (by decide +kernel)) (fun _ h9 => h9) rfl dX2_addLigature_81 ?_
                refine lv_iload_n (pc := 84) hx hb dX2_addLigature_84 rfl (lv_at hl 2 rfl) ?_
                refine k_iald (pc := 85) (x := nI (sC σ v)) hx hb hK hP 1 0 (ma1 g σ 0 mi ti rest) rfl v rfl (by omega) (by decide) rfl dX2_addLigature_85 ?_
                refine lv_iload (pc := 86) hx hb dX2_addLigature_86 (lv_at hl 0 rfl) ?_
                refine lv_iadd (pc := 88) hx hb dX2_addLigature_88 ?_
                refine k_cong (y := nI (sC σ v + 3)) (nI_add (sC σ v) 3) ?_
                refine lv_bipush (v := 24) (pc := 89) hx hb dX2_addLigature_89 (by decide) ?_
                refine lv_icmp_le (tgt := 100) (pc := 91) hx hb dX2_addLigature_91 (by decide) (fun k6 => ?_) (fun k6 => ?_)
                · have k6 : sC σ v + 3 ≤ 24 := (nI_leI (a := sC σ v + 3) (b := 24) (by omega) (by omega)).mp k6
                  have hroom : sC σ v + lgM t0 ≤ 24 := by omega
                  refine lv_iload_n (pc := 100) hx hb dX2_addLigature_100 rfl (lv_at hl 4 rfl) ?_
                  refine lv_iload_n (pc := 101) hx hb dX2_addLigature_101 rfl (lv_at hl 3 rfl) ?_
                  refine lv_icmp_ge (tgt := 109) (pc := 102) hx hb dX2_addLigature_102 (by decide) (fun k7 => ?_) (fun k7 => ?_)
                  · refine lv_iconst (v := 1) (pc := 109) hx hb dX2_addLigature_109 (by decide) ?_
                    refine k_cong (y := nI (lk f0 s0)) (by unfold lk; first | (rw [if_pos (Int32.not_le.mp k7)]; rfl) | (rw [if_neg (Int32.not_lt.mpr k7)]; rfl)) ?_
                    refine lv_istore (lv' := [(7, .int (nI (lk f0 s0))), (6, .int 3), (0, .ref (gM g)), (1, .int (nI v)), (2, .int f0), (3, .int s0), (4, .int t0), (5, .int (bI z0))]) (pc := 110) hx hb dX2_addLigature_110 hl (by decide) rfl (fun ls hl => ?_)
                    refine lv_aload_n (pc := 112) hx hb dX2_addLigature_112 rfl (lv_at hl 2 rfl) ?_
                    refine lv_iload_n (pc := 113) hx hb dX2_addLigature_113 rfl (lv_at hl 3 rfl) ?_
                    refine lv_iload (pc := 114) hx hb dX2_addLigature_114 (lv_at hl 7 rfl) ?_
                    refine lv_if_eq (tgt := 123) (pc := 116) hx hb dX2_addLigature_116 (by decide) (fun k8 => ?_) (fun k8 => ?_)
                    · have k8 := bI_0.mp k8
                      refine lv_iload (pc := 123) hx hb dX2_addLigature_123 (lv_at hl 0 rfl) ?_
                      refine k_cong (y := nI (lg1 f0 s0 z0)) (by unfold lg1; rw [k8]; rfl) ?_
                      refine lv_iload_n (pc := 125) hx hb dX2_addLigature_125 rfl (lv_at hl 4 rfl) ?_
                      refine lv_iconst (v := 0) (pc := 126) hx hb dX2_addLigature_126 (by decide) ?_
                      refine lv_iconst (v := 0) (pc := 127) hx hb dX2_addLigature_127 (by decide) ?_
                      refine va_callv (pc := 128) (va_runV (As := [.int (nI v), .int (nI (lg1 f0 s0 z0)), .int f0, .int 0, .int 0]) (rest := []) ⟨hx, hb, hml, hown, hts⟩ (cX2_put_m l g A σ rest 0 mi ti v (lg1 f0 s0 z0) f0 false 0 hvv4 (by omega)) (cwV 5 hts gX2_addLigature_X2_put rfl rfl rfl (by decide +kernel) ⟨Nat.le_of_ble_eq_true rfl, Nat.le_of_ble_eq_true rfl⟩) (cx_V (q0 := 0) (ci := 2) (r := (RX2, TX2, 11)) rfl (ma0 g σ 0 mi ti rest) hP hD hA hK hX hS) rfl rfl hl.1 rfl (lv_room (Nat.le_of_ble_eq_true rfl)) dX2_addLigature_128 ⟨Nat.le_of_ble_eq_true rfl, Nat.le_of_ble_eq_true rfl⟩) hS (fun _ _ h => h) (fun _ h => h) (fun u25 t25 H25 locs25 ht25 hvm25 hw25 hB25 hz25 hk25 hS => ?_)
                      obtain ⟨hP, hD⟩ := hB25
                      rw [ht25] at hP
                      refine lv_aload_n (pc := 131) hx hb dX2_addLigature_131 rfl (lv_at hl 2 rfl) ?_
                      refine lv_iload_n (pc := 132) hx hb dX2_addLigature_132 rfl (lv_at hl 3 rfl) ?_
                      refine lv_iload (pc := 133) hx hb dX2_addLigature_133 (lv_at hl 7 rfl) ?_
                      refine lv_if_eq (tgt := 142) (pc := 135) hx hb dX2_addLigature_135 (by decide) (fun k8b => ?_) (fun k8b => ?_)
                      · have k8b := bI_0.mp k8b
                        refine lv_iload (pc := 142) hx hb dX2_addLigature_142 (lv_at hl 1 rfl) ?_
                        refine lv_iconst (v := 3) (pc := 144) hx hb dX2_addLigature_144 (by decide) ?_
                        refine lv_icmp_ne (tgt := 152) (pc := 145) hx hb dX2_addLigature_145 (by decide) (fun c_27 => ?_) (fun c_27 => ?_)
                        · exact absurd c_27 (by decide)
                        · refine lv_iconst (v := 1) (pc := 148) hx hb dX2_addLigature_148 (by decide) ?_
                          refine lv_goto (tgt := 154) (pc := 149) hx hb dX2_addLigature_149 (by decide) ?_
                          refine k_cong (y := nI (lg2 f0 s0 true z0)) (by unfold lg2; rw [k8b]; rfl) ?_
                          refine lv_iload_n (pc := 154) hx hb dX2_addLigature_154 rfl (lv_at hl 5 rfl) ?_
                          refine lv_iconst (v := 0) (pc := 155) hx hb dX2_addLigature_155 (by decide) ?_
                          refine lv_iconst (v := 1) (pc := 156) hx hb dX2_addLigature_156 (by decide) ?_
                          refine va_callv (pc := 157) (va_runV (As := [.int (nI v), .int (nI (lg2 f0 s0 true z0)), .int s0, .int 0, .int 1]) (rest := []) ⟨hx, hb, hml, hown, hts⟩ (cX2_put_m l g A (apS σ v (lg1 f0 s0 z0) f0 false 0) rest 0 mi ti v (lg2 f0 s0 true z0) s0 false 1 hvv4 (by simp only [sC_apS, up1_s]; omega)) (cwV 5 hts gX2_addLigature_X2_put rfl rfl rfl (by decide +kernel) ⟨Nat.le_of_ble_eq_true rfl, Nat.le_of_ble_eq_true rfl⟩) (cx_V (q0 := 0) (ci := 2) (r := (RX2, TX2, 11)) rfl (ma0 g (apS σ v (lg1 f0 s0 z0) f0 false 0) 0 mi ti rest) hP hD hA hK hX hS) rfl rfl hl.1 rfl (lv_room (Nat.le_of_ble_eq_true rfl)) dX2_addLigature_157 ⟨Nat.le_of_ble_eq_true rfl, Nat.le_of_ble_eq_true rfl⟩) hS (fun _ _ h => h) (fun _ h => h) (fun u29 t29 H29 locs29 ht29 hvm29 hw29 hB29 hz29 hk29 hS => ?_)
                          obtain ⟨hP, hD⟩ := hB29
                          rw [ht29] at hP
                          refine lv_iload (pc := 160) hx hb dX2_addLigature_160 (lv_at hl 1 rfl) ?_
                          refine lv_iconst (v := 3) (pc := 162) hx hb dX2_addLigature_162 (by decide) ?_
                          refine lv_icmp_ne (tgt := 186) (pc := 163) hx hb dX2_addLigature_163 (by decide) (fun c_30 => ?_) (fun c_30 => ?_)
                          · exact absurd c_30 (by decide)
                          · refine lv_aload_n (pc := 166) hx hb dX2_addLigature_166 rfl (lv_at hl 2 rfl) ?_
                            refine lv_iload_n (pc := 167) hx hb dX2_addLigature_167 rfl (lv_at hl 3 rfl) ?_
                            refine lv_iload (pc := 168) hx hb dX2_addLigature_168 (lv_at hl 6 rfl) ?_
                            refine lv_iload_n (pc := 170) hx hb dX2_addLigature_170 rfl (lv_at hl 5 rfl) ?_
                            refine lv_icmp_ge (tgt := 178) (pc := 171) hx hb dX2_addLigature_171 (by decide) (fun k9 => ?_) (fun k9 => ?_)
                            · refine lv_iconst (v := 1) (pc := 178) hx hb dX2_addLigature_178 (by decide) ?_
                              refine k_cong (y := nI (lk s0 t0)) (by unfold lk; first | (rw [if_pos (Int32.not_le.mp k9)]; rfl) | (rw [if_neg (Int32.not_lt.mpr k9)]; rfl)) ?_
                              refine lv_iload (pc := 179) hx hb dX2_addLigature_179 (lv_at hl 6 rfl) ?_
                              refine lv_iconst (v := 0) (pc := 181) hx hb dX2_addLigature_181 (by decide) ?_
                              refine lv_iconst (v := 2) (pc := 182) hx hb dX2_addLigature_182 (by decide) ?_
                              refine va_callv (pc := 183) (va_runV (As := [.int (nI v), .int (nI (lk s0 t0)), .int t0, .int 0, .int 2]) (rest := []) ⟨hx, hb, hml, hown, hts⟩ (cX2_put_m l g A (apS (apS σ v (lg1 f0 s0 z0) f0 false 0) v (lg2 f0 s0 true z0) s0 false 1) rest 0 mi ti v (lk s0 t0) t0 false 2 hvv4 (by simp only [sC_apS, up1_s]; omega)) (cwV 5 hts gX2_addLigature_X2_put rfl rfl rfl (by decide +kernel) ⟨Nat.le_of_ble_eq_true rfl, Nat.le_of_ble_eq_true rfl⟩) (cx_V (q0 := 0) (ci := 2) (r := (RX2, TX2, 11)) rfl (ma0 g (apS (apS σ v (lg1 f0 s0 z0) f0 false 0) v (lg2 f0 s0 true z0) s0 false 1) 0 mi ti rest) hP hD hA hK hX hS) rfl rfl hl.1 rfl (lv_room (Nat.le_of_ble_eq_true rfl)) dX2_addLigature_183 ⟨Nat.le_of_ble_eq_true rfl, Nat.le_of_ble_eq_true rfl⟩) hS (fun _ _ h => h) (fun _ h => h) (fun u33 t33 H33 locs33 ht33 hvm33 hw33 hB33 hz33 hk33 hS => ?_)
                              obtain ⟨hP, hD⟩ := hB33
                              rw [ht33] at hP
                              refine lv_aload_n (pc := 186) hx hb dX2_addLigature_186 rfl (lv_at hl 2 rfl) ?_
                              refine va_get (v := .ref (gB g 0)) (pc := 187) (D := gD g) (ci := 2) (C := RX2) (T := TX2) (N := 11) hx hb hts hinX2 hown hK hP 0 (ma0 g (apS (apS (apS σ v (lg1 f0 s0 z0) f0 false 0) v (lg2 f0 s0 true z0) s0 false 1) v (lk s0 t0) t0 false 2) 0 mi ti rest) rfl 2 (by decide) (hts (.fieldLink RX2 9 "ChoirNotesModel" "many" "[I") (by decide +kernel)) (fun _ h9 => h9) rfl dX2_addLigature_187 ?_
                              refine lv_iload_n (pc := 190) hx hb dX2_addLigature_190 rfl (lv_at hl 3 rfl) ?_
                              refine k_iald (pc := 191) (x := nI (sC σ v + 1 + 1 + 1)) hx hb hK hP 1 0 (ma1 g (apS (apS (apS σ v (lg1 f0 s0 z0) f0 false 0) v (lg2 f0 s0 true z0) s0 false 1) v (lk s0 t0) t0 false 2) 0 mi ti rest) rfl v rfl (by omega) (by decide) (congrArg nI (by simp only [sC_apS, up1_s])) dX2_addLigature_191 ?_
                              refine lv_iload (pc := 192) hx hb dX2_addLigature_192 (lv_at hl 1 rfl) ?_
                              refine lv_isub (pc := 194) hx hb dX2_addLigature_194 ?_
                              refine k_cong (y := nI (sC σ v)) (pk_sub (a := sC σ v + 1 + 1 + 1) (b := 3) (by omega)) ?_
                              have hef : ef_addLigature σ v f0 s0 t0 z0 = (apS (apS (apS σ v (lg1 f0 s0 z0) f0 false 0) v (lg2 f0 s0 true z0) s0 false 1) v (lk s0 t0) t0 false 2) := by unfold ef_addLigature; rw [if_neg k5]
                              rw [hef]
                              have hcd : cd_addLigature σ (nI v) f0 s0 t0 = 0 := by simp [cd_addLigature, inL, c1, hixv, c2, c3, c4, c5, c6, hroom]
                              rw [hcd]
                              exact W.iret hx hb hr (fun t ht hW => ⟨⟨_, (mi, ti), rfl, (fun _ => rfl), by rw [ht]; exact hP, hD⟩, hS.F ht⟩) hS.2.2 dX2_addLigature_195
                            · refine lv_iconst (v := 0) (pc := 174) hx hb dX2_addLigature_174 (by decide) ?_
                              refine lv_goto (tgt := 179) (pc := 175) hx hb dX2_addLigature_175 (by decide) ?_
                              refine k_cong (y := nI (lk s0 t0)) (by unfold lk; first | (rw [if_pos (Int32.not_le.mp k9)]; rfl) | (rw [if_neg (Int32.not_lt.mpr k9)]; rfl)) ?_
                              refine lv_iload (pc := 179) hx hb dX2_addLigature_179 (lv_at hl 6 rfl) ?_
                              refine lv_iconst (v := 0) (pc := 181) hx hb dX2_addLigature_181 (by decide) ?_
                              refine lv_iconst (v := 2) (pc := 182) hx hb dX2_addLigature_182 (by decide) ?_
                              refine va_callv (pc := 183) (va_runV (As := [.int (nI v), .int (nI (lk s0 t0)), .int t0, .int 0, .int 2]) (rest := []) ⟨hx, hb, hml, hown, hts⟩ (cX2_put_m l g A (apS (apS σ v (lg1 f0 s0 z0) f0 false 0) v (lg2 f0 s0 true z0) s0 false 1) rest 0 mi ti v (lk s0 t0) t0 false 2 hvv4 (by simp only [sC_apS, up1_s]; omega)) (cwV 5 hts gX2_addLigature_X2_put rfl rfl rfl (by decide +kernel) ⟨Nat.le_of_ble_eq_true rfl, Nat.le_of_ble_eq_true rfl⟩) (cx_V (q0 := 0) (ci := 2) (r := (RX2, TX2, 11)) rfl (ma0 g (apS (apS σ v (lg1 f0 s0 z0) f0 false 0) v (lg2 f0 s0 true z0) s0 false 1) 0 mi ti rest) hP hD hA hK hX hS) rfl rfl hl.1 rfl (lv_room (Nat.le_of_ble_eq_true rfl)) dX2_addLigature_183 ⟨Nat.le_of_ble_eq_true rfl, Nat.le_of_ble_eq_true rfl⟩) hS (fun _ _ h => h) (fun _ h => h) (fun u35 t35 H35 locs35 ht35 hvm35 hw35 hB35 hz35 hk35 hS => ?_)
                              obtain ⟨hP, hD⟩ := hB35
                              rw [ht35] at hP
                              refine lv_aload_n (pc := 186) hx hb dX2_addLigature_186 rfl (lv_at hl 2 rfl) ?_
                              refine va_get (v := .ref (gB g 0)) (pc := 187) (D := gD g) (ci := 2) (C := RX2) (T := TX2) (N := 11) hx hb hts hinX2 hown hK hP 0 (ma0 g (apS (apS (apS σ v (lg1 f0 s0 z0) f0 false 0) v (lg2 f0 s0 true z0) s0 false 1) v (lk s0 t0) t0 false 2) 0 mi ti rest) rfl 2 (by decide) (hts (.fieldLink RX2 9 "ChoirNotesModel" "many" "[I") (by decide +kernel)) (fun _ h9 => h9) rfl dX2_addLigature_187 ?_
                              refine lv_iload_n (pc := 190) hx hb dX2_addLigature_190 rfl (lv_at hl 3 rfl) ?_
                              refine k_iald (pc := 191) (x := nI (sC σ v + 1 + 1 + 1)) hx hb hK hP 1 0 (ma1 g (apS (apS (apS σ v (lg1 f0 s0 z0) f0 false 0) v (lg2 f0 s0 true z0) s0 false 1) v (lk s0 t0) t0 false 2) 0 mi ti rest) rfl v rfl (by omega) (by decide) (congrArg nI (by simp only [sC_apS, up1_s])) dX2_addLigature_191 ?_
                              refine lv_iload (pc := 192) hx hb dX2_addLigature_192 (lv_at hl 1 rfl) ?_
                              refine lv_isub (pc := 194) hx hb dX2_addLigature_194 ?_
                              refine k_cong (y := nI (sC σ v)) (pk_sub (a := sC σ v + 1 + 1 + 1) (b := 3) (by omega)) ?_
                              have hef : ef_addLigature σ v f0 s0 t0 z0 = (apS (apS (apS σ v (lg1 f0 s0 z0) f0 false 0) v (lg2 f0 s0 true z0) s0 false 1) v (lk s0 t0) t0 false 2) := by unfold ef_addLigature; rw [if_neg k5]
                              rw [hef]
                              have hcd : cd_addLigature σ (nI v) f0 s0 t0 = 0 := by simp [cd_addLigature, inL, c1, hixv, c2, c3, c4, c5, c6, hroom]
                              rw [hcd]
                              exact W.iret hx hb hr (fun t ht hW => ⟨⟨_, (mi, ti), rfl, (fun _ => rfl), by rw [ht]; exact hP, hD⟩, hS.F ht⟩) hS.2.2 dX2_addLigature_195
                      · have k8b := bI_n0.mp k8b
                        refine lv_iconst (v := 2) (pc := 138) hx hb dX2_addLigature_138 (by decide) ?_
                        refine lv_goto (tgt := 154) (pc := 139) hx hb dX2_addLigature_139 (by decide) ?_
                        refine k_cong (y := nI (lg2 f0 s0 true z0)) (by unfold lg2; rw [k8b]; rfl) ?_
                        refine lv_iload_n (pc := 154) hx hb dX2_addLigature_154 rfl (lv_at hl 5 rfl) ?_
                        refine lv_iconst (v := 0) (pc := 155) hx hb dX2_addLigature_155 (by decide) ?_
                        refine lv_iconst (v := 1) (pc := 156) hx hb dX2_addLigature_156 (by decide) ?_
                        refine va_callv (pc := 157) (va_runV (As := [.int (nI v), .int (nI (lg2 f0 s0 true z0)), .int s0, .int 0, .int 1]) (rest := []) ⟨hx, hb, hml, hown, hts⟩ (cX2_put_m l g A (apS σ v (lg1 f0 s0 z0) f0 false 0) rest 0 mi ti v (lg2 f0 s0 true z0) s0 false 1 hvv4 (by simp only [sC_apS, up1_s]; omega)) (cwV 5 hts gX2_addLigature_X2_put rfl rfl rfl (by decide +kernel) ⟨Nat.le_of_ble_eq_true rfl, Nat.le_of_ble_eq_true rfl⟩) (cx_V (q0 := 0) (ci := 2) (r := (RX2, TX2, 11)) rfl (ma0 g (apS σ v (lg1 f0 s0 z0) f0 false 0) 0 mi ti rest) hP hD hA hK hX hS) rfl rfl hl.1 rfl (lv_room (Nat.le_of_ble_eq_true rfl)) dX2_addLigature_157 ⟨Nat.le_of_ble_eq_true rfl, Nat.le_of_ble_eq_true rfl⟩) hS (fun _ _ h => h) (fun _ h => h) (fun u37 t37 H37 locs37 ht37 hvm37 hw37 hB37 hz37 hk37 hS => ?_)
                        obtain ⟨hP, hD⟩ := hB37
                        rw [ht37] at hP
                        refine lv_iload (pc := 160) hx hb dX2_addLigature_160 (lv_at hl 1 rfl) ?_
                        refine lv_iconst (v := 3) (pc := 162) hx hb dX2_addLigature_162 (by decide) ?_
                        refine lv_icmp_ne (tgt := 186) (pc := 163) hx hb dX2_addLigature_163 (by decide) (fun c_38 => ?_) (fun c_38 => ?_)
                        · exact absurd c_38 (by decide)
                        · refine lv_aload_n (pc := 166) hx hb dX2_addLigature_166 rfl (lv_at hl 2 rfl) ?_
                          refine lv_iload_n (pc := 167) hx hb dX2_addLigature_167 rfl (lv_at hl 3 rfl) ?_
                          refine lv_iload (pc := 168) hx hb dX2_addLigature_168 (lv_at hl 6 rfl) ?_
                          refine lv_iload_n (pc := 170) hx hb dX2_addLigature_170 rfl (lv_at hl 5 rfl) ?_
                          refine lv_icmp_ge (tgt := 178) (pc := 171) hx hb dX2_addLigature_171 (by decide) (fun k9 => ?_) (fun k9 => ?_)
                          · refine lv_iconst (v := 1) (pc := 178) hx hb dX2_addLigature_178 (by decide) ?_
                            refine k_cong (y := nI (lk s0 t0)) (by unfold lk; first | (rw [if_pos (Int32.not_le.mp k9)]; rfl) | (rw [if_neg (Int32.not_lt.mpr k9)]; rfl)) ?_
                            refine lv_iload (pc := 179) hx hb dX2_addLigature_179 (lv_at hl 6 rfl) ?_
                            refine lv_iconst (v := 0) (pc := 181) hx hb dX2_addLigature_181 (by decide) ?_
                            refine lv_iconst (v := 2) (pc := 182) hx hb dX2_addLigature_182 (by decide) ?_
                            refine va_callv (pc := 183) (va_runV (As := [.int (nI v), .int (nI (lk s0 t0)), .int t0, .int 0, .int 2]) (rest := []) ⟨hx, hb, hml, hown, hts⟩ (cX2_put_m l g A (apS (apS σ v (lg1 f0 s0 z0) f0 false 0) v (lg2 f0 s0 true z0) s0 false 1) rest 0 mi ti v (lk s0 t0) t0 false 2 hvv4 (by simp only [sC_apS, up1_s]; omega)) (cwV 5 hts gX2_addLigature_X2_put rfl rfl rfl (by decide +kernel) ⟨Nat.le_of_ble_eq_true rfl, Nat.le_of_ble_eq_true rfl⟩) (cx_V (q0 := 0) (ci := 2) (r := (RX2, TX2, 11)) rfl (ma0 g (apS (apS σ v (lg1 f0 s0 z0) f0 false 0) v (lg2 f0 s0 true z0) s0 false 1) 0 mi ti rest) hP hD hA hK hX hS) rfl rfl hl.1 rfl (lv_room (Nat.le_of_ble_eq_true rfl)) dX2_addLigature_183 ⟨Nat.le_of_ble_eq_true rfl, Nat.le_of_ble_eq_true rfl⟩) hS (fun _ _ h => h) (fun _ h => h) (fun u41 t41 H41 locs41 ht41 hvm41 hw41 hB41 hz41 hk41 hS => ?_)
                            obtain ⟨hP, hD⟩ := hB41
                            rw [ht41] at hP
                            refine lv_aload_n (pc := 186) hx hb dX2_addLigature_186 rfl (lv_at hl 2 rfl) ?_
                            refine va_get (v := .ref (gB g 0)) (pc := 187) (D := gD g) (ci := 2) (C := RX2) (T := TX2) (N := 11) hx hb hts hinX2 hown hK hP 0 (ma0 g (apS (apS (apS σ v (lg1 f0 s0 z0) f0 false 0) v (lg2 f0 s0 true z0) s0 false 1) v (lk s0 t0) t0 false 2) 0 mi ti rest) rfl 2 (by decide) (hts (.fieldLink RX2 9 "ChoirNotesModel" "many" "[I") (by decide +kernel)) (fun _ h9 => h9) rfl dX2_addLigature_187 ?_
                            refine lv_iload_n (pc := 190) hx hb dX2_addLigature_190 rfl (lv_at hl 3 rfl) ?_
                            refine k_iald (pc := 191) (x := nI (sC σ v + 1 + 1 + 1)) hx hb hK hP 1 0 (ma1 g (apS (apS (apS σ v (lg1 f0 s0 z0) f0 false 0) v (lg2 f0 s0 true z0) s0 false 1) v (lk s0 t0) t0 false 2) 0 mi ti rest) rfl v rfl (by omega) (by decide) (congrArg nI (by simp only [sC_apS, up1_s])) dX2_addLigature_191 ?_
                            refine lv_iload (pc := 192) hx hb dX2_addLigature_192 (lv_at hl 1 rfl) ?_
                            refine lv_isub (pc := 194) hx hb dX2_addLigature_194 ?_
                            refine k_cong (y := nI (sC σ v)) (pk_sub (a := sC σ v + 1 + 1 + 1) (b := 3) (by omega)) ?_
                            have hef : ef_addLigature σ v f0 s0 t0 z0 = (apS (apS (apS σ v (lg1 f0 s0 z0) f0 false 0) v (lg2 f0 s0 true z0) s0 false 1) v (lk s0 t0) t0 false 2) := by unfold ef_addLigature; rw [if_neg k5]
                            rw [hef]
                            have hcd : cd_addLigature σ (nI v) f0 s0 t0 = 0 := by simp [cd_addLigature, inL, c1, hixv, c2, c3, c4, c5, c6, hroom]
                            rw [hcd]
                            exact W.iret hx hb hr (fun t ht hW => ⟨⟨_, (mi, ti), rfl, (fun _ => rfl), by rw [ht]; exact hP, hD⟩, hS.F ht⟩) hS.2.2 dX2_addLigature_195
                          · refine lv_iconst (v := 0) (pc := 174) hx hb dX2_addLigature_174 (by decide) ?_
                            refine lv_goto (tgt := 179) (pc := 175) hx hb dX2_addLigature_175 (by decide) ?_
                            refine k_cong (y := nI (lk s0 t0)) (by unfold lk; first | (rw [if_pos (Int32.not_le.mp k9)]; rfl) | (rw [if_neg (Int32.not_lt.mpr k9)]; rfl)) ?_
                            refine lv_iload (pc := 179) hx hb dX2_addLigature_179 (lv_at hl 6 rfl) ?_
                            refine lv_iconst (v := 0) (pc := 181) hx hb dX2_addLigature_181 (by decide) ?_
                            refine lv_iconst (v := 2) (pc := 182) hx hb dX2_addLigature_182 (by decide) ?_
                            refine va_callv (pc := 183) (va_runV (As := [.int (nI v), .int (nI (lk s0 t0)), .int t0, .int 0, .int 2]) (rest := []) ⟨hx, hb, hml, hown, hts⟩ (cX2_put_m l g A (apS (apS σ v (lg1 f0 s0 z0) f0 false 0) v (lg2 f0 s0 true z0) s0 false 1) rest 0 mi ti v (lk s0 t0) t0 false 2 hvv4 (by simp only [sC_apS, up1_s]; omega)) (cwV 5 hts gX2_addLigature_X2_put rfl rfl rfl (by decide +kernel) ⟨Nat.le_of_ble_eq_true rfl, Nat.le_of_ble_eq_true rfl⟩) (cx_V (q0 := 0) (ci := 2) (r := (RX2, TX2, 11)) rfl (ma0 g (apS (apS σ v (lg1 f0 s0 z0) f0 false 0) v (lg2 f0 s0 true z0) s0 false 1) 0 mi ti rest) hP hD hA hK hX hS) rfl rfl hl.1 rfl (lv_room (Nat.le_of_ble_eq_true rfl)) dX2_addLigature_183 ⟨Nat.le_of_ble_eq_true rfl, Nat.le_of_ble_eq_true rfl⟩) hS (fun _ _ h => h) (fun _ h => h) (fun u43 t43 H43 locs43 ht43 hvm43 hw43 hB43 hz43 hk43 hS => ?_)
                            obtain ⟨hP, hD⟩ := hB43
                            rw [ht43] at hP
                            refine lv_aload_n (pc := 186) hx hb dX2_addLigature_186 rfl (lv_at hl 2 rfl) ?_
                            refine va_get (v := .ref (gB g 0)) (pc := 187) (D := gD g) (ci := 2) (C := RX2) (T := TX2) (N := 11) hx hb hts hinX2 hown hK hP 0 (ma0 g (apS (apS (apS σ v (lg1 f0 s0 z0) f0 false 0) v (lg2 f0 s0 true z0) s0 false 1) v (lk s0 t0) t0 false 2) 0 mi ti rest) rfl 2 (by decide) (hts (.fieldLink RX2 9 "ChoirNotesModel" "many" "[I") (by decide +kernel)) (fun _ h9 => h9) rfl dX2_addLigature_187 ?_
                            refine lv_iload_n (pc := 190) hx hb dX2_addLigature_190 rfl (lv_at hl 3 rfl) ?_
                            refine k_iald (pc := 191) (x := nI (sC σ v + 1 + 1 + 1)) hx hb hK hP 1 0 (ma1 g (apS (apS (apS σ v (lg1 f0 s0 z0) f0 false 0) v (lg2 f0 s0 true z0) s0 false 1) v (lk s0 t0) t0 false 2) 0 mi ti rest) rfl v rfl (by omega) (by decide) (congrArg nI (by simp only [sC_apS, up1_s])) dX2_addLigature_191 ?_
                            refine lv_iload (pc := 192) hx hb dX2_addLigature_192 (lv_at hl 1 rfl) ?_
                            refine lv_isub (pc := 194) hx hb dX2_addLigature_194 ?_
                            refine k_cong (y := nI (sC σ v)) (pk_sub (a := sC σ v + 1 + 1 + 1) (b := 3) (by omega)) ?_
                            have hef : ef_addLigature σ v f0 s0 t0 z0 = (apS (apS (apS σ v (lg1 f0 s0 z0) f0 false 0) v (lg2 f0 s0 true z0) s0 false 1) v (lk s0 t0) t0 false 2) := by unfold ef_addLigature; rw [if_neg k5]
                            rw [hef]
                            have hcd : cd_addLigature σ (nI v) f0 s0 t0 = 0 := by simp [cd_addLigature, inL, c1, hixv, c2, c3, c4, c5, c6, hroom]
                            rw [hcd]
                            exact W.iret hx hb hr (fun t ht hW => ⟨⟨_, (mi, ti), rfl, (fun _ => rfl), by rw [ht]; exact hP, hD⟩, hS.F ht⟩) hS.2.2 dX2_addLigature_195
                    · have k8 := bI_n0.mp k8
                      refine lv_iconst (v := 2) (pc := 119) hx hb dX2_addLigature_119 (by decide) ?_
                      refine lv_goto (tgt := 125) (pc := 120) hx hb dX2_addLigature_120 (by decide) ?_
                      refine k_cong (y := nI (lg1 f0 s0 z0)) (by unfold lg1; rw [k8]; rfl) ?_
                      refine lv_iload_n (pc := 125) hx hb dX2_addLigature_125 rfl (lv_at hl 4 rfl) ?_
                      refine lv_iconst (v := 0) (pc := 126) hx hb dX2_addLigature_126 (by decide) ?_
                      refine lv_iconst (v := 0) (pc := 127) hx hb dX2_addLigature_127 (by decide) ?_
                      refine va_callv (pc := 128) (va_runV (As := [.int (nI v), .int (nI (lg1 f0 s0 z0)), .int f0, .int 0, .int 0]) (rest := []) ⟨hx, hb, hml, hown, hts⟩ (cX2_put_m l g A σ rest 0 mi ti v (lg1 f0 s0 z0) f0 false 0 hvv4 (by omega)) (cwV 5 hts gX2_addLigature_X2_put rfl rfl rfl (by decide +kernel) ⟨Nat.le_of_ble_eq_true rfl, Nat.le_of_ble_eq_true rfl⟩) (cx_V (q0 := 0) (ci := 2) (r := (RX2, TX2, 11)) rfl (ma0 g σ 0 mi ti rest) hP hD hA hK hX hS) rfl rfl hl.1 rfl (lv_room (Nat.le_of_ble_eq_true rfl)) dX2_addLigature_128 ⟨Nat.le_of_ble_eq_true rfl, Nat.le_of_ble_eq_true rfl⟩) hS (fun _ _ h => h) (fun _ h => h) (fun u45 t45 H45 locs45 ht45 hvm45 hw45 hB45 hz45 hk45 hS => ?_)
                      obtain ⟨hP, hD⟩ := hB45
                      rw [ht45] at hP
                      refine lv_aload_n (pc := 131) hx hb dX2_addLigature_131 rfl (lv_at hl 2 rfl) ?_
                      refine lv_iload_n (pc := 132) hx hb dX2_addLigature_132 rfl (lv_at hl 3 rfl) ?_
                      refine lv_iload (pc := 133) hx hb dX2_addLigature_133 (lv_at hl 7 rfl) ?_
                      refine lv_if_eq (tgt := 142) (pc := 135) hx hb dX2_addLigature_135 (by decide) (fun k8b => ?_) (fun k8b => ?_)
                      · have k8b := bI_0.mp k8b
                        refine lv_iload (pc := 142) hx hb dX2_addLigature_142 (lv_at hl 1 rfl) ?_
                        refine lv_iconst (v := 3) (pc := 144) hx hb dX2_addLigature_144 (by decide) ?_
                        refine lv_icmp_ne (tgt := 152) (pc := 145) hx hb dX2_addLigature_145 (by decide) (fun c_47 => ?_) (fun c_47 => ?_)
                        · exact absurd c_47 (by decide)
                        · refine lv_iconst (v := 1) (pc := 148) hx hb dX2_addLigature_148 (by decide) ?_
                          refine lv_goto (tgt := 154) (pc := 149) hx hb dX2_addLigature_149 (by decide) ?_
                          refine k_cong (y := nI (lg2 f0 s0 true z0)) (by unfold lg2; rw [k8b]; rfl) ?_
                          refine lv_iload_n (pc := 154) hx hb dX2_addLigature_154 rfl (lv_at hl 5 rfl) ?_
                          refine lv_iconst (v := 0) (pc := 155) hx hb dX2_addLigature_155 (by decide) ?_
                          refine lv_iconst (v := 1) (pc := 156) hx hb dX2_addLigature_156 (by decide) ?_
                          refine va_callv (pc := 157) (va_runV (As := [.int (nI v), .int (nI (lg2 f0 s0 true z0)), .int s0, .int 0, .int 1]) (rest := []) ⟨hx, hb, hml, hown, hts⟩ (cX2_put_m l g A (apS σ v (lg1 f0 s0 z0) f0 false 0) rest 0 mi ti v (lg2 f0 s0 true z0) s0 false 1 hvv4 (by simp only [sC_apS, up1_s]; omega)) (cwV 5 hts gX2_addLigature_X2_put rfl rfl rfl (by decide +kernel) ⟨Nat.le_of_ble_eq_true rfl, Nat.le_of_ble_eq_true rfl⟩) (cx_V (q0 := 0) (ci := 2) (r := (RX2, TX2, 11)) rfl (ma0 g (apS σ v (lg1 f0 s0 z0) f0 false 0) 0 mi ti rest) hP hD hA hK hX hS) rfl rfl hl.1 rfl (lv_room (Nat.le_of_ble_eq_true rfl)) dX2_addLigature_157 ⟨Nat.le_of_ble_eq_true rfl, Nat.le_of_ble_eq_true rfl⟩) hS (fun _ _ h => h) (fun _ h => h) (fun u49 t49 H49 locs49 ht49 hvm49 hw49 hB49 hz49 hk49 hS => ?_)
                          obtain ⟨hP, hD⟩ := hB49
                          rw [ht49] at hP
                          refine lv_iload (pc := 160) hx hb dX2_addLigature_160 (lv_at hl 1 rfl) ?_
                          refine lv_iconst (v := 3) (pc := 162) hx hb dX2_addLigature_162 (by decide) ?_
                          refine lv_icmp_ne (tgt := 186) (pc := 163) hx hb dX2_addLigature_163 (by decide) (fun c_50 => ?_) (fun c_50 => ?_)
                          · exact absurd c_50 (by decide)
                          · refine lv_aload_n (pc := 166) hx hb dX2_addLigature_166 rfl (lv_at hl 2 rfl) ?_
                            refine lv_iload_n (pc := 167) hx hb dX2_addLigature_167 rfl (lv_at hl 3 rfl) ?_
                            refine lv_iload (pc := 168) hx hb dX2_addLigature_168 (lv_at hl 6 rfl) ?_
                            refine lv_iload_n (pc := 170) hx hb dX2_addLigature_170 rfl (lv_at hl 5 rfl) ?_
                            refine lv_icmp_ge (tgt := 178) (pc := 171) hx hb dX2_addLigature_171 (by decide) (fun k9 => ?_) (fun k9 => ?_)
                            · refine lv_iconst (v := 1) (pc := 178) hx hb dX2_addLigature_178 (by decide) ?_
                              refine k_cong (y := nI (lk s0 t0)) (by unfold lk; first | (rw [if_pos (Int32.not_le.mp k9)]; rfl) | (rw [if_neg (Int32.not_lt.mpr k9)]; rfl)) ?_
                              refine lv_iload (pc := 179) hx hb dX2_addLigature_179 (lv_at hl 6 rfl) ?_
                              refine lv_iconst (v := 0) (pc := 181) hx hb dX2_addLigature_181 (by decide) ?_
                              refine lv_iconst (v := 2) (pc := 182) hx hb dX2_addLigature_182 (by decide) ?_
                              refine va_callv (pc := 183) (va_runV (As := [.int (nI v), .int (nI (lk s0 t0)), .int t0, .int 0, .int 2]) (rest := []) ⟨hx, hb, hml, hown, hts⟩ (cX2_put_m l g A (apS (apS σ v (lg1 f0 s0 z0) f0 false 0) v (lg2 f0 s0 true z0) s0 false 1) rest 0 mi ti v (lk s0 t0) t0 false 2 hvv4 (by simp only [sC_apS, up1_s]; omega)) (cwV 5 hts gX2_addLigature_X2_put rfl rfl rfl (by decide +kernel) ⟨Nat.le_of_ble_eq_true rfl, Nat.le_of_ble_eq_true rfl⟩) (cx_V (q0 := 0) (ci := 2) (r := (RX2, TX2, 11)) rfl (ma0 g (apS (apS σ v (lg1 f0 s0 z0) f0 false 0) v (lg2 f0 s0 true z0) s0 false 1) 0 mi ti rest) hP hD hA hK hX hS) rfl rfl hl.1 rfl (lv_room (Nat.le_of_ble_eq_true rfl)) dX2_addLigature_183 ⟨Nat.le_of_ble_eq_true rfl, Nat.le_of_ble_eq_true rfl⟩) hS (fun _ _ h => h) (fun _ h => h) (fun u53 t53 H53 locs53 ht53 hvm53 hw53 hB53 hz53 hk53 hS => ?_)
                              obtain ⟨hP, hD⟩ := hB53
                              rw [ht53] at hP
                              refine lv_aload_n (pc := 186) hx hb dX2_addLigature_186 rfl (lv_at hl 2 rfl) ?_
                              refine va_get (v := .ref (gB g 0)) (pc := 187) (D := gD g) (ci := 2) (C := RX2) (T := TX2) (N := 11) hx hb hts hinX2 hown hK hP 0 (ma0 g (apS (apS (apS σ v (lg1 f0 s0 z0) f0 false 0) v (lg2 f0 s0 true z0) s0 false 1) v (lk s0 t0) t0 false 2) 0 mi ti rest) rfl 2 (by decide) (hts (.fieldLink RX2 9 "ChoirNotesModel" "many" "[I") (by decide +kernel)) (fun _ h9 => h9) rfl dX2_addLigature_187 ?_
                              refine lv_iload_n (pc := 190) hx hb dX2_addLigature_190 rfl (lv_at hl 3 rfl) ?_
                              refine k_iald (pc := 191) (x := nI (sC σ v + 1 + 1 + 1)) hx hb hK hP 1 0 (ma1 g (apS (apS (apS σ v (lg1 f0 s0 z0) f0 false 0) v (lg2 f0 s0 true z0) s0 false 1) v (lk s0 t0) t0 false 2) 0 mi ti rest) rfl v rfl (by omega) (by decide) (congrArg nI (by simp only [sC_apS, up1_s])) dX2_addLigature_191 ?_
                              refine lv_iload (pc := 192) hx hb dX2_addLigature_192 (lv_at hl 1 rfl) ?_
                              refine lv_isub (pc := 194) hx hb dX2_addLigature_194 ?_
                              refine k_cong (y := nI (sC σ v)) (pk_sub (a := sC σ v + 1 + 1 + 1) (b := 3) (by omega)) ?_
                              have hef : ef_addLigature σ v f0 s0 t0 z0 = (apS (apS (apS σ v (lg1 f0 s0 z0) f0 false 0) v (lg2 f0 s0 true z0) s0 false 1) v (lk s0 t0) t0 false 2) := by unfold ef_addLigature; rw [if_neg k5]
                              rw [hef]
                              have hcd : cd_addLigature σ (nI v) f0 s0 t0 = 0 := by simp [cd_addLigature, inL, c1, hixv, c2, c3, c4, c5, c6, hroom]
                              rw [hcd]
                              exact W.iret hx hb hr (fun t ht hW => ⟨⟨_, (mi, ti), rfl, (fun _ => rfl), by rw [ht]; exact hP, hD⟩, hS.F ht⟩) hS.2.2 dX2_addLigature_195
                            · refine lv_iconst (v := 0) (pc := 174) hx hb dX2_addLigature_174 (by decide) ?_
                              refine lv_goto (tgt := 179) (pc := 175) hx hb dX2_addLigature_175 (by decide) ?_
                              refine k_cong (y := nI (lk s0 t0)) (by unfold lk; first | (rw [if_pos (Int32.not_le.mp k9)]; rfl) | (rw [if_neg (Int32.not_lt.mpr k9)]; rfl)) ?_
                              refine lv_iload (pc := 179) hx hb dX2_addLigature_179 (lv_at hl 6 rfl) ?_
                              refine lv_iconst (v := 0) (pc := 181) hx hb dX2_addLigature_181 (by decide) ?_
                              refine lv_iconst (v := 2) (pc := 182) hx hb dX2_addLigature_182 (by decide) ?_
                              refine va_callv (pc := 183) (va_runV (As := [.int (nI v), .int (nI (lk s0 t0)), .int t0, .int 0, .int 2]) (rest := []) ⟨hx, hb, hml, hown, hts⟩ (cX2_put_m l g A (apS (apS σ v (lg1 f0 s0 z0) f0 false 0) v (lg2 f0 s0 true z0) s0 false 1) rest 0 mi ti v (lk s0 t0) t0 false 2 hvv4 (by simp only [sC_apS, up1_s]; omega)) (cwV 5 hts gX2_addLigature_X2_put rfl rfl rfl (by decide +kernel) ⟨Nat.le_of_ble_eq_true rfl, Nat.le_of_ble_eq_true rfl⟩) (cx_V (q0 := 0) (ci := 2) (r := (RX2, TX2, 11)) rfl (ma0 g (apS (apS σ v (lg1 f0 s0 z0) f0 false 0) v (lg2 f0 s0 true z0) s0 false 1) 0 mi ti rest) hP hD hA hK hX hS) rfl rfl hl.1 rfl (lv_room (Nat.le_of_ble_eq_true rfl)) dX2_addLigature_183 ⟨Nat.le_of_ble_eq_true rfl, Nat.le_of_ble_eq_true rfl⟩) hS (fun _ _ h => h) (fun _ h => h) (fun u55 t55 H55 locs55 ht55 hvm55 hw55 hB55 hz55 hk55 hS => ?_)
                              obtain ⟨hP, hD⟩ := hB55
                              rw [ht55] at hP
                              refine lv_aload_n (pc := 186) hx hb dX2_addLigature_186 rfl (lv_at hl 2 rfl) ?_
                              refine va_get (v := .ref (gB g 0)) (pc := 187) (D := gD g) (ci := 2) (C := RX2) (T := TX2) (N := 11) hx hb hts hinX2 hown hK hP 0 (ma0 g (apS (apS (apS σ v (lg1 f0 s0 z0) f0 false 0) v (lg2 f0 s0 true z0) s0 false 1) v (lk s0 t0) t0 false 2) 0 mi ti rest) rfl 2 (by decide) (hts (.fieldLink RX2 9 "ChoirNotesModel" "many" "[I") (by decide +kernel)) (fun _ h9 => h9) rfl dX2_addLigature_187 ?_
                              refine lv_iload_n (pc := 190) hx hb dX2_addLigature_190 rfl (lv_at hl 3 rfl) ?_
                              refine k_iald (pc := 191) (x := nI (sC σ v + 1 + 1 + 1)) hx hb hK hP 1 0 (ma1 g (apS (apS (apS σ v (lg1 f0 s0 z0) f0 false 0) v (lg2 f0 s0 true z0) s0 false 1) v (lk s0 t0) t0 false 2) 0 mi ti rest) rfl v rfl (by omega) (by decide) (congrArg nI (by simp only [sC_apS, up1_s])) dX2_addLigature_191 ?_
                              refine lv_iload (pc := 192) hx hb dX2_addLigature_192 (lv_at hl 1 rfl) ?_
                              refine lv_isub (pc := 194) hx hb dX2_addLigature_194 ?_
                              refine k_cong (y := nI (sC σ v)) (pk_sub (a := sC σ v + 1 + 1 + 1) (b := 3) (by omega)) ?_
                              have hef : ef_addLigature σ v f0 s0 t0 z0 = (apS (apS (apS σ v (lg1 f0 s0 z0) f0 false 0) v (lg2 f0 s0 true z0) s0 false 1) v (lk s0 t0) t0 false 2) := by unfold ef_addLigature; rw [if_neg k5]
                              rw [hef]
                              have hcd : cd_addLigature σ (nI v) f0 s0 t0 = 0 := by simp [cd_addLigature, inL, c1, hixv, c2, c3, c4, c5, c6, hroom]
                              rw [hcd]
                              exact W.iret hx hb hr (fun t ht hW => ⟨⟨_, (mi, ti), rfl, (fun _ => rfl), by rw [ht]; exact hP, hD⟩, hS.F ht⟩) hS.2.2 dX2_addLigature_195
                      · have k8b := bI_n0.mp k8b
                        refine lv_iconst (v := 2) (pc := 138) hx hb dX2_addLigature_138 (by decide) ?_
                        refine lv_goto (tgt := 154) (pc := 139) hx hb dX2_addLigature_139 (by decide) ?_
                        refine k_cong (y := nI (lg2 f0 s0 true z0)) (by unfold lg2; rw [k8b]; rfl) ?_
                        refine lv_iload_n (pc := 154) hx hb dX2_addLigature_154 rfl (lv_at hl 5 rfl) ?_
                        refine lv_iconst (v := 0) (pc := 155) hx hb dX2_addLigature_155 (by decide) ?_
                        refine lv_iconst (v := 1) (pc := 156) hx hb dX2_addLigature_156 (by decide) ?_
                        refine va_callv (pc := 157) (va_runV (As := [.int (nI v), .int (nI (lg2 f0 s0 true z0)), .int s0, .int 0, .int 1]) (rest := []) ⟨hx, hb, hml, hown, hts⟩ (cX2_put_m l g A (apS σ v (lg1 f0 s0 z0) f0 false 0) rest 0 mi ti v (lg2 f0 s0 true z0) s0 false 1 hvv4 (by simp only [sC_apS, up1_s]; omega)) (cwV 5 hts gX2_addLigature_X2_put rfl rfl rfl (by decide +kernel) ⟨Nat.le_of_ble_eq_true rfl, Nat.le_of_ble_eq_true rfl⟩) (cx_V (q0 := 0) (ci := 2) (r := (RX2, TX2, 11)) rfl (ma0 g (apS σ v (lg1 f0 s0 z0) f0 false 0) 0 mi ti rest) hP hD hA hK hX hS) rfl rfl hl.1 rfl (lv_room (Nat.le_of_ble_eq_true rfl)) dX2_addLigature_157 ⟨Nat.le_of_ble_eq_true rfl, Nat.le_of_ble_eq_true rfl⟩) hS (fun _ _ h => h) (fun _ h => h) (fun u57 t57 H57 locs57 ht57 hvm57 hw57 hB57 hz57 hk57 hS => ?_)
                        obtain ⟨hP, hD⟩ := hB57
                        rw [ht57] at hP
                        refine lv_iload (pc := 160) hx hb dX2_addLigature_160 (lv_at hl 1 rfl) ?_
                        refine lv_iconst (v := 3) (pc := 162) hx hb dX2_addLigature_162 (by decide) ?_
                        refine lv_icmp_ne (tgt := 186) (pc := 163) hx hb dX2_addLigature_163 (by decide) (fun c_58 => ?_) (fun c_58 => ?_)
                        · exact absurd c_58 (by decide)
                        · refine lv_aload_n (pc := 166) hx hb dX2_addLigature_166 rfl (lv_at hl 2 rfl) ?_
                          refine lv_iload_n (pc := 167) hx hb dX2_addLigature_167 rfl (lv_at hl 3 rfl) ?_
                          refine lv_iload (pc := 168) hx hb dX2_addLigature_168 (lv_at hl 6 rfl) ?_
                          refine lv_iload_n (pc := 170) hx hb dX2_addLigature_170 rfl (lv_at hl 5 rfl) ?_
                          refine lv_icmp_ge (tgt := 178) (pc := 171) hx hb dX2_addLigature_171 (by decide) (fun k9 => ?_) (fun k9 => ?_)
                          · refine lv_iconst (v := 1) (pc := 178) hx hb dX2_addLigature_178 (by decide) ?_
                            refine k_cong (y := nI (lk s0 t0)) (by unfold lk; first | (rw [if_pos (Int32.not_le.mp k9)]; rfl) | (rw [if_neg (Int32.not_lt.mpr k9)]; rfl)) ?_
                            refine lv_iload (pc := 179) hx hb dX2_addLigature_179 (lv_at hl 6 rfl) ?_
                            refine lv_iconst (v := 0) (pc := 181) hx hb dX2_addLigature_181 (by decide) ?_
                            refine lv_iconst (v := 2) (pc := 182) hx hb dX2_addLigature_182 (by decide) ?_
                            refine va_callv (pc := 183) (va_runV (As := [.int (nI v), .int (nI (lk s0 t0)), .int t0, .int 0, .int 2]) (rest := []) ⟨hx, hb, hml, hown, hts⟩ (cX2_put_m l g A (apS (apS σ v (lg1 f0 s0 z0) f0 false 0) v (lg2 f0 s0 true z0) s0 false 1) rest 0 mi ti v (lk s0 t0) t0 false 2 hvv4 (by simp only [sC_apS, up1_s]; omega)) (cwV 5 hts gX2_addLigature_X2_put rfl rfl rfl (by decide +kernel) ⟨Nat.le_of_ble_eq_true rfl, Nat.le_of_ble_eq_true rfl⟩) (cx_V (q0 := 0) (ci := 2) (r := (RX2, TX2, 11)) rfl (ma0 g (apS (apS σ v (lg1 f0 s0 z0) f0 false 0) v (lg2 f0 s0 true z0) s0 false 1) 0 mi ti rest) hP hD hA hK hX hS) rfl rfl hl.1 rfl (lv_room (Nat.le_of_ble_eq_true rfl)) dX2_addLigature_183 ⟨Nat.le_of_ble_eq_true rfl, Nat.le_of_ble_eq_true rfl⟩) hS (fun _ _ h => h) (fun _ h => h) (fun u61 t61 H61 locs61 ht61 hvm61 hw61 hB61 hz61 hk61 hS => ?_)
                            obtain ⟨hP, hD⟩ := hB61
                            rw [ht61] at hP
                            refine lv_aload_n (pc := 186) hx hb dX2_addLigature_186 rfl (lv_at hl 2 rfl) ?_
                            refine va_get (v := .ref (gB g 0)) (pc := 187) (D := gD g) (ci := 2) (C := RX2) (T := TX2) (N := 11) hx hb hts hinX2 hown hK hP 0 (ma0 g (apS (apS (apS σ v (lg1 f0 s0 z0) f0 false 0) v (lg2 f0 s0 true z0) s0 false 1) v (lk s0 t0) t0 false 2) 0 mi ti rest) rfl 2 (by decide) (hts (.fieldLink RX2 9 "ChoirNotesModel" "many" "[I") (by decide +kernel)) (fun _ h9 => h9) rfl dX2_addLigature_187 ?_
                            refine lv_iload_n (pc := 190) hx hb dX2_addLigature_190 rfl (lv_at hl 3 rfl) ?_
                            refine k_iald (pc := 191) (x := nI (sC σ v + 1 + 1 + 1)) hx hb hK hP 1 0 (ma1 g (apS (apS (apS σ v (lg1 f0 s0 z0) f0 false 0) v (lg2 f0 s0 true z0) s0 false 1) v (lk s0 t0) t0 false 2) 0 mi ti rest) rfl v rfl (by omega) (by decide) (congrArg nI (by simp only [sC_apS, up1_s])) dX2_addLigature_191 ?_
                            refine lv_iload (pc := 192) hx hb dX2_addLigature_192 (lv_at hl 1 rfl) ?_
                            refine lv_isub (pc := 194) hx hb dX2_addLigature_194 ?_
                            refine k_cong (y := nI (sC σ v)) (pk_sub (a := sC σ v + 1 + 1 + 1) (b := 3) (by omega)) ?_
                            have hef : ef_addLigature σ v f0 s0 t0 z0 = (apS (apS (apS σ v (lg1 f0 s0 z0) f0 false 0) v (lg2 f0 s0 true z0) s0 false 1) v (lk s0 t0) t0 false 2) := by unfold ef_addLigature; rw [if_neg k5]
                            rw [hef]
                            have hcd : cd_addLigature σ (nI v) f0 s0 t0 = 0 := by simp [cd_addLigature, inL, c1, hixv, c2, c3, c4, c5, c6, hroom]
                            rw [hcd]
                            exact W.iret hx hb hr (fun t ht hW => ⟨⟨_, (mi, ti), rfl, (fun _ => rfl), by rw [ht]; exact hP, hD⟩, hS.F ht⟩) hS.2.2 dX2_addLigature_195
                          · refine lv_iconst (v := 0) (pc := 174) hx hb dX2_addLigature_174 (by decide) ?_
                            refine lv_goto (tgt := 179) (pc := 175) hx hb dX2_addLigature_175 (by decide) ?_
                            refine k_cong (y := nI (lk s0 t0)) (by unfold lk; first | (rw [if_pos (Int32.not_le.mp k9)]; rfl) | (rw [if_neg (Int32.not_lt.mpr k9)]; rfl)) ?_
                            refine lv_iload (pc := 179) hx hb dX2_addLigature_179 (lv_at hl 6 rfl) ?_
                            refine lv_iconst (v := 0) (pc := 181) hx hb dX2_addLigature_181 (by decide) ?_
                            refine lv_iconst (v := 2) (pc := 182) hx hb dX2_addLigature_182 (by decide) ?_
                            refine va_callv (pc := 183) (va_runV (As := [.int (nI v), .int (nI (lk s0 t0)), .int t0, .int 0, .int 2]) (rest := []) ⟨hx, hb, hml, hown, hts⟩ (cX2_put_m l g A (apS (apS σ v (lg1 f0 s0 z0) f0 false 0) v (lg2 f0 s0 true z0) s0 false 1) rest 0 mi ti v (lk s0 t0) t0 false 2 hvv4 (by simp only [sC_apS, up1_s]; omega)) (cwV 5 hts gX2_addLigature_X2_put rfl rfl rfl (by decide +kernel) ⟨Nat.le_of_ble_eq_true rfl, Nat.le_of_ble_eq_true rfl⟩) (cx_V (q0 := 0) (ci := 2) (r := (RX2, TX2, 11)) rfl (ma0 g (apS (apS σ v (lg1 f0 s0 z0) f0 false 0) v (lg2 f0 s0 true z0) s0 false 1) 0 mi ti rest) hP hD hA hK hX hS) rfl rfl hl.1 rfl (lv_room (Nat.le_of_ble_eq_true rfl)) dX2_addLigature_183 ⟨Nat.le_of_ble_eq_true rfl, Nat.le_of_ble_eq_true rfl⟩) hS (fun _ _ h => h) (fun _ h => h) (fun u63 t63 H63 locs63 ht63 hvm63 hw63 hB63 hz63 hk63 hS => ?_)
                            obtain ⟨hP, hD⟩ := hB63
                            rw [ht63] at hP
                            refine lv_aload_n (pc := 186) hx hb dX2_addLigature_186 rfl (lv_at hl 2 rfl) ?_
                            refine va_get (v := .ref (gB g 0)) (pc := 187) (D := gD g) (ci := 2) (C := RX2) (T := TX2) (N := 11) hx hb hts hinX2 hown hK hP 0 (ma0 g (apS (apS (apS σ v (lg1 f0 s0 z0) f0 false 0) v (lg2 f0 s0 true z0) s0 false 1) v (lk s0 t0) t0 false 2) 0 mi ti rest) rfl 2 (by decide) (hts (.fieldLink RX2 9 "ChoirNotesModel" "many" "[I") (by decide +kernel)) (fun _ h9 => h9) rfl dX2_addLigature_187 ?_
                            refine lv_iload_n (pc := 190) hx hb dX2_addLigature_190 rfl (lv_at hl 3 rfl) ?_
                            refine k_iald (pc := 191) (x := nI (sC σ v + 1 + 1 + 1)) hx hb hK hP 1 0 (ma1 g (apS (apS (apS σ v (lg1 f0 s0 z0) f0 false 0) v (lg2 f0 s0 true z0) s0 false 1) v (lk s0 t0) t0 false 2) 0 mi ti rest) rfl v rfl (by omega) (by decide) (congrArg nI (by simp only [sC_apS, up1_s])) dX2_addLigature_191 ?_
                            refine lv_iload (pc := 192) hx hb dX2_addLigature_192 (lv_at hl 1 rfl) ?_
                            refine lv_isub (pc := 194) hx hb dX2_addLigature_194 ?_
                            refine k_cong (y := nI (sC σ v)) (pk_sub (a := sC σ v + 1 + 1 + 1) (b := 3) (by omega)) ?_
                            have hef : ef_addLigature σ v f0 s0 t0 z0 = (apS (apS (apS σ v (lg1 f0 s0 z0) f0 false 0) v (lg2 f0 s0 true z0) s0 false 1) v (lk s0 t0) t0 false 2) := by unfold ef_addLigature; rw [if_neg k5]
                            rw [hef]
                            have hcd : cd_addLigature σ (nI v) f0 s0 t0 = 0 := by simp [cd_addLigature, inL, c1, hixv, c2, c3, c4, c5, c6, hroom]
                            rw [hcd]
                            exact W.iret hx hb hr (fun t ht hW => ⟨⟨_, (mi, ti), rfl, (fun _ => rfl), by rw [ht]; exact hP, hD⟩, hS.F ht⟩) hS.2.2 dX2_addLigature_195
                  · refine lv_iconst (v := 0) (pc := 105) hx hb dX2_addLigature_105 (by decide) ?_
                    refine lv_goto (tgt := 110) (pc := 106) hx hb dX2_addLigature_106 (by decide) ?_
                    refine k_cong (y := nI (lk f0 s0)) (by unfold lk; first | (rw [if_pos (Int32.not_le.mp k7)]; rfl) | (rw [if_neg (Int32.not_lt.mpr k7)]; rfl)) ?_
                    refine lv_istore (lv' := [(7, .int (nI (lk f0 s0))), (6, .int 3), (0, .ref (gM g)), (1, .int (nI v)), (2, .int f0), (3, .int s0), (4, .int t0), (5, .int (bI z0))]) (pc := 110) hx hb dX2_addLigature_110 hl (by decide) rfl (fun ls hl => ?_)
                    refine lv_aload_n (pc := 112) hx hb dX2_addLigature_112 rfl (lv_at hl 2 rfl) ?_
                    refine lv_iload_n (pc := 113) hx hb dX2_addLigature_113 rfl (lv_at hl 3 rfl) ?_
                    refine lv_iload (pc := 114) hx hb dX2_addLigature_114 (lv_at hl 7 rfl) ?_
                    refine lv_if_eq (tgt := 123) (pc := 116) hx hb dX2_addLigature_116 (by decide) (fun k8 => ?_) (fun k8 => ?_)
                    · have k8 := bI_0.mp k8
                      refine lv_iload (pc := 123) hx hb dX2_addLigature_123 (lv_at hl 0 rfl) ?_
                      refine k_cong (y := nI (lg1 f0 s0 z0)) (by unfold lg1; rw [k8]; rfl) ?_
                      refine lv_iload_n (pc := 125) hx hb dX2_addLigature_125 rfl (lv_at hl 4 rfl) ?_
                      refine lv_iconst (v := 0) (pc := 126) hx hb dX2_addLigature_126 (by decide) ?_
                      refine lv_iconst (v := 0) (pc := 127) hx hb dX2_addLigature_127 (by decide) ?_
                      refine va_callv (pc := 128) (va_runV (As := [.int (nI v), .int (nI (lg1 f0 s0 z0)), .int f0, .int 0, .int 0]) (rest := []) ⟨hx, hb, hml, hown, hts⟩ (cX2_put_m l g A σ rest 0 mi ti v (lg1 f0 s0 z0) f0 false 0 hvv4 (by omega)) (cwV 5 hts gX2_addLigature_X2_put rfl rfl rfl (by decide +kernel) ⟨Nat.le_of_ble_eq_true rfl, Nat.le_of_ble_eq_true rfl⟩) (cx_V (q0 := 0) (ci := 2) (r := (RX2, TX2, 11)) rfl (ma0 g σ 0 mi ti rest) hP hD hA hK hX hS) rfl rfl hl.1 rfl (lv_room (Nat.le_of_ble_eq_true rfl)) dX2_addLigature_128 ⟨Nat.le_of_ble_eq_true rfl, Nat.le_of_ble_eq_true rfl⟩) hS (fun _ _ h => h) (fun _ h => h) (fun u66 t66 H66 locs66 ht66 hvm66 hw66 hB66 hz66 hk66 hS => ?_)
                      obtain ⟨hP, hD⟩ := hB66
                      rw [ht66] at hP
                      refine lv_aload_n (pc := 131) hx hb dX2_addLigature_131 rfl (lv_at hl 2 rfl) ?_
                      refine lv_iload_n (pc := 132) hx hb dX2_addLigature_132 rfl (lv_at hl 3 rfl) ?_
                      refine lv_iload (pc := 133) hx hb dX2_addLigature_133 (lv_at hl 7 rfl) ?_
                      refine lv_if_eq (tgt := 142) (pc := 135) hx hb dX2_addLigature_135 (by decide) (fun k8b => ?_) (fun k8b => ?_)
                      · have k8b := bI_0.mp k8b
                        refine lv_iload (pc := 142) hx hb dX2_addLigature_142 (lv_at hl 1 rfl) ?_
                        refine lv_iconst (v := 3) (pc := 144) hx hb dX2_addLigature_144 (by decide) ?_
                        refine lv_icmp_ne (tgt := 152) (pc := 145) hx hb dX2_addLigature_145 (by decide) (fun c_68 => ?_) (fun c_68 => ?_)
                        · exact absurd c_68 (by decide)
                        · refine lv_iconst (v := 1) (pc := 148) hx hb dX2_addLigature_148 (by decide) ?_
                          refine lv_goto (tgt := 154) (pc := 149) hx hb dX2_addLigature_149 (by decide) ?_
                          refine k_cong (y := nI (lg2 f0 s0 true z0)) (by unfold lg2; rw [k8b]; rfl) ?_
                          refine lv_iload_n (pc := 154) hx hb dX2_addLigature_154 rfl (lv_at hl 5 rfl) ?_
                          refine lv_iconst (v := 0) (pc := 155) hx hb dX2_addLigature_155 (by decide) ?_
                          refine lv_iconst (v := 1) (pc := 156) hx hb dX2_addLigature_156 (by decide) ?_
                          refine va_callv (pc := 157) (va_runV (As := [.int (nI v), .int (nI (lg2 f0 s0 true z0)), .int s0, .int 0, .int 1]) (rest := []) ⟨hx, hb, hml, hown, hts⟩ (cX2_put_m l g A (apS σ v (lg1 f0 s0 z0) f0 false 0) rest 0 mi ti v (lg2 f0 s0 true z0) s0 false 1 hvv4 (by simp only [sC_apS, up1_s]; omega)) (cwV 5 hts gX2_addLigature_X2_put rfl rfl rfl (by decide +kernel) ⟨Nat.le_of_ble_eq_true rfl, Nat.le_of_ble_eq_true rfl⟩) (cx_V (q0 := 0) (ci := 2) (r := (RX2, TX2, 11)) rfl (ma0 g (apS σ v (lg1 f0 s0 z0) f0 false 0) 0 mi ti rest) hP hD hA hK hX hS) rfl rfl hl.1 rfl (lv_room (Nat.le_of_ble_eq_true rfl)) dX2_addLigature_157 ⟨Nat.le_of_ble_eq_true rfl, Nat.le_of_ble_eq_true rfl⟩) hS (fun _ _ h => h) (fun _ h => h) (fun u70 t70 H70 locs70 ht70 hvm70 hw70 hB70 hz70 hk70 hS => ?_)
                          obtain ⟨hP, hD⟩ := hB70
                          rw [ht70] at hP
                          refine lv_iload (pc := 160) hx hb dX2_addLigature_160 (lv_at hl 1 rfl) ?_
                          refine lv_iconst (v := 3) (pc := 162) hx hb dX2_addLigature_162 (by decide) ?_
                          refine lv_icmp_ne (tgt := 186) (pc := 163) hx hb dX2_addLigature_163 (by decide) (fun c_71 => ?_) (fun c_71 => ?_)
                          · exact absurd c_71 (by decide)
                          · refine lv_aload_n (pc := 166) hx hb dX2_addLigature_166 rfl (lv_at hl 2 rfl) ?_
                            refine lv_iload_n (pc := 167) hx hb dX2_addLigature_167 rfl (lv_at hl 3 rfl) ?_
                            refine lv_iload (pc := 168) hx hb dX2_addLigature_168 (lv_at hl 6 rfl) ?_
                            refine lv_iload_n (pc := 170) hx hb dX2_addLigature_170 rfl (lv_at hl 5 rfl) ?_
                            refine lv_icmp_ge (tgt := 178) (pc := 171) hx hb dX2_addLigature_171 (by decide) (fun k9 => ?_) (fun k9 => ?_)
                            · refine lv_iconst (v := 1) (pc := 178) hx hb dX2_addLigature_178 (by decide) ?_
                              refine k_cong (y := nI (lk s0 t0)) (by unfold lk; first | (rw [if_pos (Int32.not_le.mp k9)]; rfl) | (rw [if_neg (Int32.not_lt.mpr k9)]; rfl)) ?_
                              refine lv_iload (pc := 179) hx hb dX2_addLigature_179 (lv_at hl 6 rfl) ?_
                              refine lv_iconst (v := 0) (pc := 181) hx hb dX2_addLigature_181 (by decide) ?_
                              refine lv_iconst (v := 2) (pc := 182) hx hb dX2_addLigature_182 (by decide) ?_
                              refine va_callv (pc := 183) (va_runV (As := [.int (nI v), .int (nI (lk s0 t0)), .int t0, .int 0, .int 2]) (rest := []) ⟨hx, hb, hml, hown, hts⟩ (cX2_put_m l g A (apS (apS σ v (lg1 f0 s0 z0) f0 false 0) v (lg2 f0 s0 true z0) s0 false 1) rest 0 mi ti v (lk s0 t0) t0 false 2 hvv4 (by simp only [sC_apS, up1_s]; omega)) (cwV 5 hts gX2_addLigature_X2_put rfl rfl rfl (by decide +kernel) ⟨Nat.le_of_ble_eq_true rfl, Nat.le_of_ble_eq_true rfl⟩) (cx_V (q0 := 0) (ci := 2) (r := (RX2, TX2, 11)) rfl (ma0 g (apS (apS σ v (lg1 f0 s0 z0) f0 false 0) v (lg2 f0 s0 true z0) s0 false 1) 0 mi ti rest) hP hD hA hK hX hS) rfl rfl hl.1 rfl (lv_room (Nat.le_of_ble_eq_true rfl)) dX2_addLigature_183 ⟨Nat.le_of_ble_eq_true rfl, Nat.le_of_ble_eq_true rfl⟩) hS (fun _ _ h => h) (fun _ h => h) (fun u74 t74 H74 locs74 ht74 hvm74 hw74 hB74 hz74 hk74 hS => ?_)
                              obtain ⟨hP, hD⟩ := hB74
                              rw [ht74] at hP
                              refine lv_aload_n (pc := 186) hx hb dX2_addLigature_186 rfl (lv_at hl 2 rfl) ?_
                              refine va_get (v := .ref (gB g 0)) (pc := 187) (D := gD g) (ci := 2) (C := RX2) (T := TX2) (N := 11) hx hb hts hinX2 hown hK hP 0 (ma0 g (apS (apS (apS σ v (lg1 f0 s0 z0) f0 false 0) v (lg2 f0 s0 true z0) s0 false 1) v (lk s0 t0) t0 false 2) 0 mi ti rest) rfl 2 (by decide) (hts (.fieldLink RX2 9 "ChoirNotesModel" "many" "[I") (by decide +kernel)) (fun _ h9 => h9) rfl dX2_addLigature_187 ?_
                              refine lv_iload_n (pc := 190) hx hb dX2_addLigature_190 rfl (lv_at hl 3 rfl) ?_
                              refine k_iald (pc := 191) (x := nI (sC σ v + 1 + 1 + 1)) hx hb hK hP 1 0 (ma1 g (apS (apS (apS σ v (lg1 f0 s0 z0) f0 false 0) v (lg2 f0 s0 true z0) s0 false 1) v (lk s0 t0) t0 false 2) 0 mi ti rest) rfl v rfl (by omega) (by decide) (congrArg nI (by simp only [sC_apS, up1_s])) dX2_addLigature_191 ?_
                              refine lv_iload (pc := 192) hx hb dX2_addLigature_192 (lv_at hl 1 rfl) ?_
                              refine lv_isub (pc := 194) hx hb dX2_addLigature_194 ?_
                              refine k_cong (y := nI (sC σ v)) (pk_sub (a := sC σ v + 1 + 1 + 1) (b := 3) (by omega)) ?_
                              have hef : ef_addLigature σ v f0 s0 t0 z0 = (apS (apS (apS σ v (lg1 f0 s0 z0) f0 false 0) v (lg2 f0 s0 true z0) s0 false 1) v (lk s0 t0) t0 false 2) := by unfold ef_addLigature; rw [if_neg k5]
                              rw [hef]
                              have hcd : cd_addLigature σ (nI v) f0 s0 t0 = 0 := by simp [cd_addLigature, inL, c1, hixv, c2, c3, c4, c5, c6, hroom]
                              rw [hcd]
                              exact W.iret hx hb hr (fun t ht hW => ⟨⟨_, (mi, ti), rfl, (fun _ => rfl), by rw [ht]; exact hP, hD⟩, hS.F ht⟩) hS.2.2 dX2_addLigature_195
                            · refine lv_iconst (v := 0) (pc := 174) hx hb dX2_addLigature_174 (by decide) ?_
                              refine lv_goto (tgt := 179) (pc := 175) hx hb dX2_addLigature_175 (by decide) ?_
                              refine k_cong (y := nI (lk s0 t0)) (by unfold lk; first | (rw [if_pos (Int32.not_le.mp k9)]; rfl) | (rw [if_neg (Int32.not_lt.mpr k9)]; rfl)) ?_
                              refine lv_iload (pc := 179) hx hb dX2_addLigature_179 (lv_at hl 6 rfl) ?_
                              refine lv_iconst (v := 0) (pc := 181) hx hb dX2_addLigature_181 (by decide) ?_
                              refine lv_iconst (v := 2) (pc := 182) hx hb dX2_addLigature_182 (by decide) ?_
                              refine va_callv (pc := 183) (va_runV (As := [.int (nI v), .int (nI (lk s0 t0)), .int t0, .int 0, .int 2]) (rest := []) ⟨hx, hb, hml, hown, hts⟩ (cX2_put_m l g A (apS (apS σ v (lg1 f0 s0 z0) f0 false 0) v (lg2 f0 s0 true z0) s0 false 1) rest 0 mi ti v (lk s0 t0) t0 false 2 hvv4 (by simp only [sC_apS, up1_s]; omega)) (cwV 5 hts gX2_addLigature_X2_put rfl rfl rfl (by decide +kernel) ⟨Nat.le_of_ble_eq_true rfl, Nat.le_of_ble_eq_true rfl⟩) (cx_V (q0 := 0) (ci := 2) (r := (RX2, TX2, 11)) rfl (ma0 g (apS (apS σ v (lg1 f0 s0 z0) f0 false 0) v (lg2 f0 s0 true z0) s0 false 1) 0 mi ti rest) hP hD hA hK hX hS) rfl rfl hl.1 rfl (lv_room (Nat.le_of_ble_eq_true rfl)) dX2_addLigature_183 ⟨Nat.le_of_ble_eq_true rfl, Nat.le_of_ble_eq_true rfl⟩) hS (fun _ _ h => h) (fun _ h => h) (fun u76 t76 H76 locs76 ht76 hvm76 hw76 hB76 hz76 hk76 hS => ?_)
                              obtain ⟨hP, hD⟩ := hB76
                              rw [ht76] at hP
                              refine lv_aload_n (pc := 186) hx hb dX2_addLigature_186 rfl (lv_at hl 2 rfl) ?_
                              refine va_get (v := .ref (gB g 0)) (pc := 187) (D := gD g) (ci := 2) (C := RX2) (T := TX2) (N := 11) hx hb hts hinX2 hown hK hP 0 (ma0 g (apS (apS (apS σ v (lg1 f0 s0 z0) f0 false 0) v (lg2 f0 s0 true z0) s0 false 1) v (lk s0 t0) t0 false 2) 0 mi ti rest) rfl 2 (by decide) (hts (.fieldLink RX2 9 "ChoirNotesModel" "many" "[I") (by decide +kernel)) (fun _ h9 => h9) rfl dX2_addLigature_187 ?_
                              refine lv_iload_n (pc := 190) hx hb dX2_addLigature_190 rfl (lv_at hl 3 rfl) ?_
                              refine k_iald (pc := 191) (x := nI (sC σ v + 1 + 1 + 1)) hx hb hK hP 1 0 (ma1 g (apS (apS (apS σ v (lg1 f0 s0 z0) f0 false 0) v (lg2 f0 s0 true z0) s0 false 1) v (lk s0 t0) t0 false 2) 0 mi ti rest) rfl v rfl (by omega) (by decide) (congrArg nI (by simp only [sC_apS, up1_s])) dX2_addLigature_191 ?_
                              refine lv_iload (pc := 192) hx hb dX2_addLigature_192 (lv_at hl 1 rfl) ?_
                              refine lv_isub (pc := 194) hx hb dX2_addLigature_194 ?_
                              refine k_cong (y := nI (sC σ v)) (pk_sub (a := sC σ v + 1 + 1 + 1) (b := 3) (by omega)) ?_
                              have hef : ef_addLigature σ v f0 s0 t0 z0 = (apS (apS (apS σ v (lg1 f0 s0 z0) f0 false 0) v (lg2 f0 s0 true z0) s0 false 1) v (lk s0 t0) t0 false 2) := by unfold ef_addLigature; rw [if_neg k5]
                              rw [hef]
                              have hcd : cd_addLigature σ (nI v) f0 s0 t0 = 0 := by simp [cd_addLigature, inL, c1, hixv, c2, c3, c4, c5, c6, hroom]
                              rw [hcd]
                              exact W.iret hx hb hr (fun t ht hW => ⟨⟨_, (mi, ti), rfl, (fun _ => rfl), by rw [ht]; exact hP, hD⟩, hS.F ht⟩) hS.2.2 dX2_addLigature_195
                      · have k8b := bI_n0.mp k8b
                        refine lv_iconst (v := 2) (pc := 138) hx hb dX2_addLigature_138 (by decide) ?_
                        refine lv_goto (tgt := 154) (pc := 139) hx hb dX2_addLigature_139 (by decide) ?_
                        refine k_cong (y := nI (lg2 f0 s0 true z0)) (by unfold lg2; rw [k8b]; rfl) ?_
                        refine lv_iload_n (pc := 154) hx hb dX2_addLigature_154 rfl (lv_at hl 5 rfl) ?_
                        refine lv_iconst (v := 0) (pc := 155) hx hb dX2_addLigature_155 (by decide) ?_
                        refine lv_iconst (v := 1) (pc := 156) hx hb dX2_addLigature_156 (by decide) ?_
                        refine va_callv (pc := 157) (va_runV (As := [.int (nI v), .int (nI (lg2 f0 s0 true z0)), .int s0, .int 0, .int 1]) (rest := []) ⟨hx, hb, hml, hown, hts⟩ (cX2_put_m l g A (apS σ v (lg1 f0 s0 z0) f0 false 0) rest 0 mi ti v (lg2 f0 s0 true z0) s0 false 1 hvv4 (by simp only [sC_apS, up1_s]; omega)) (cwV 5 hts gX2_addLigature_X2_put rfl rfl rfl (by decide +kernel) ⟨Nat.le_of_ble_eq_true rfl, Nat.le_of_ble_eq_true rfl⟩) (cx_V (q0 := 0) (ci := 2) (r := (RX2, TX2, 11)) rfl (ma0 g (apS σ v (lg1 f0 s0 z0) f0 false 0) 0 mi ti rest) hP hD hA hK hX hS) rfl rfl hl.1 rfl (lv_room (Nat.le_of_ble_eq_true rfl)) dX2_addLigature_157 ⟨Nat.le_of_ble_eq_true rfl, Nat.le_of_ble_eq_true rfl⟩) hS (fun _ _ h => h) (fun _ h => h) (fun u78 t78 H78 locs78 ht78 hvm78 hw78 hB78 hz78 hk78 hS => ?_)
                        obtain ⟨hP, hD⟩ := hB78
                        rw [ht78] at hP
                        refine lv_iload (pc := 160) hx hb dX2_addLigature_160 (lv_at hl 1 rfl) ?_
                        refine lv_iconst (v := 3) (pc := 162) hx hb dX2_addLigature_162 (by decide) ?_
                        refine lv_icmp_ne (tgt := 186) (pc := 163) hx hb dX2_addLigature_163 (by decide) (fun c_79 => ?_) (fun c_79 => ?_)
                        · exact absurd c_79 (by decide)
                        · refine lv_aload_n (pc := 166) hx hb dX2_addLigature_166 rfl (lv_at hl 2 rfl) ?_
                          refine lv_iload_n (pc := 167) hx hb dX2_addLigature_167 rfl (lv_at hl 3 rfl) ?_
                          refine lv_iload (pc := 168) hx hb dX2_addLigature_168 (lv_at hl 6 rfl) ?_
                          refine lv_iload_n (pc := 170) hx hb dX2_addLigature_170 rfl (lv_at hl 5 rfl) ?_
                          refine lv_icmp_ge (tgt := 178) (pc := 171) hx hb dX2_addLigature_171 (by decide) (fun k9 => ?_) (fun k9 => ?_)
                          · refine lv_iconst (v := 1) (pc := 178) hx hb dX2_addLigature_178 (by decide) ?_
                            refine k_cong (y := nI (lk s0 t0)) (by unfold lk; first | (rw [if_pos (Int32.not_le.mp k9)]; rfl) | (rw [if_neg (Int32.not_lt.mpr k9)]; rfl)) ?_
                            refine lv_iload (pc := 179) hx hb dX2_addLigature_179 (lv_at hl 6 rfl) ?_
                            refine lv_iconst (v := 0) (pc := 181) hx hb dX2_addLigature_181 (by decide) ?_
                            refine lv_iconst (v := 2) (pc := 182) hx hb dX2_addLigature_182 (by decide) ?_
                            refine va_callv (pc := 183) (va_runV (As := [.int (nI v), .int (nI (lk s0 t0)), .int t0, .int 0, .int 2]) (rest := []) ⟨hx, hb, hml, hown, hts⟩ (cX2_put_m l g A (apS (apS σ v (lg1 f0 s0 z0) f0 false 0) v (lg2 f0 s0 true z0) s0 false 1) rest 0 mi ti v (lk s0 t0) t0 false 2 hvv4 (by simp only [sC_apS, up1_s]; omega)) (cwV 5 hts gX2_addLigature_X2_put rfl rfl rfl (by decide +kernel) ⟨Nat.le_of_ble_eq_true rfl, Nat.le_of_ble_eq_true rfl⟩) (cx_V (q0 := 0) (ci := 2) (r := (RX2, TX2, 11)) rfl (ma0 g (apS (apS σ v (lg1 f0 s0 z0) f0 false 0) v (lg2 f0 s0 true z0) s0 false 1) 0 mi ti rest) hP hD hA hK hX hS) rfl rfl hl.1 rfl (lv_room (Nat.le_of_ble_eq_true rfl)) dX2_addLigature_183 ⟨Nat.le_of_ble_eq_true rfl, Nat.le_of_ble_eq_true rfl⟩) hS (fun _ _ h => h) (fun _ h => h) (fun u82 t82 H82 locs82 ht82 hvm82 hw82 hB82 hz82 hk82 hS => ?_)
                            obtain ⟨hP, hD⟩ := hB82
                            rw [ht82] at hP
                            refine lv_aload_n (pc := 186) hx hb dX2_addLigature_186 rfl (lv_at hl 2 rfl) ?_
                            refine va_get (v := .ref (gB g 0)) (pc := 187) (D := gD g) (ci := 2) (C := RX2) (T := TX2) (N := 11) hx hb hts hinX2 hown hK hP 0 (ma0 g (apS (apS (apS σ v (lg1 f0 s0 z0) f0 false 0) v (lg2 f0 s0 true z0) s0 false 1) v (lk s0 t0) t0 false 2) 0 mi ti rest) rfl 2 (by decide) (hts (.fieldLink RX2 9 "ChoirNotesModel" "many" "[I") (by decide +kernel)) (fun _ h9 => h9) rfl dX2_addLigature_187 ?_
                            refine lv_iload_n (pc := 190) hx hb dX2_addLigature_190 rfl (lv_at hl 3 rfl) ?_
                            refine k_iald (pc := 191) (x := nI (sC σ v + 1 + 1 + 1)) hx hb hK hP 1 0 (ma1 g (apS (apS (apS σ v (lg1 f0 s0 z0) f0 false 0) v (lg2 f0 s0 true z0) s0 false 1) v (lk s0 t0) t0 false 2) 0 mi ti rest) rfl v rfl (by omega) (by decide) (congrArg nI (by simp only [sC_apS, up1_s])) dX2_addLigature_191 ?_
                            refine lv_iload (pc := 192) hx hb dX2_addLigature_192 (lv_at hl 1 rfl) ?_
                            refine lv_isub (pc := 194) hx hb dX2_addLigature_194 ?_
                            refine k_cong (y := nI (sC σ v)) (pk_sub (a := sC σ v + 1 + 1 + 1) (b := 3) (by omega)) ?_
                            have hef : ef_addLigature σ v f0 s0 t0 z0 = (apS (apS (apS σ v (lg1 f0 s0 z0) f0 false 0) v (lg2 f0 s0 true z0) s0 false 1) v (lk s0 t0) t0 false 2) := by unfold ef_addLigature; rw [if_neg k5]
                            rw [hef]
                            have hcd : cd_addLigature σ (nI v) f0 s0 t0 = 0 := by simp [cd_addLigature, inL, c1, hixv, c2, c3, c4, c5, c6, hroom]
                            rw [hcd]
                            exact W.iret hx hb hr (fun t ht hW => ⟨⟨_, (mi, ti), rfl, (fun _ => rfl), by rw [ht]; exact hP, hD⟩, hS.F ht⟩) hS.2.2 dX2_addLigature_195
                          · refine lv_iconst (v := 0) (pc := 174) hx hb dX2_addLigature_174 (by decide) ?_
                            refine lv_goto (tgt := 179) (pc := 175) hx hb dX2_addLigature_175 (by decide) ?_
                            refine k_cong (y := nI (lk s0 t0)) (by unfold lk; first | (rw [if_pos (Int32.not_le.mp k9)]; rfl) | (rw [if_neg (Int32.not_lt.mpr k9)]; rfl)) ?_
                            refine lv_iload (pc := 179) hx hb dX2_addLigature_179 (lv_at hl 6 rfl) ?_
                            refine lv_iconst (v := 0) (pc := 181) hx hb dX2_addLigature_181 (by decide) ?_
                            refine lv_iconst (v := 2) (pc := 182) hx hb dX2_addLigature_182 (by decide) ?_
                            refine va_callv (pc := 183) (va_runV (As := [.int (nI v), .int (nI (lk s0 t0)), .int t0, .int 0, .int 2]) (rest := []) ⟨hx, hb, hml, hown, hts⟩ (cX2_put_m l g A (apS (apS σ v (lg1 f0 s0 z0) f0 false 0) v (lg2 f0 s0 true z0) s0 false 1) rest 0 mi ti v (lk s0 t0) t0 false 2 hvv4 (by simp only [sC_apS, up1_s]; omega)) (cwV 5 hts gX2_addLigature_X2_put rfl rfl rfl (by decide +kernel) ⟨Nat.le_of_ble_eq_true rfl, Nat.le_of_ble_eq_true rfl⟩) (cx_V (q0 := 0) (ci := 2) (r := (RX2, TX2, 11)) rfl (ma0 g (apS (apS σ v (lg1 f0 s0 z0) f0 false 0) v (lg2 f0 s0 true z0) s0 false 1) 0 mi ti rest) hP hD hA hK hX hS) rfl rfl hl.1 rfl (lv_room (Nat.le_of_ble_eq_true rfl)) dX2_addLigature_183 ⟨Nat.le_of_ble_eq_true rfl, Nat.le_of_ble_eq_true rfl⟩) hS (fun _ _ h => h) (fun _ h => h) (fun u84 t84 H84 locs84 ht84 hvm84 hw84 hB84 hz84 hk84 hS => ?_)
                            obtain ⟨hP, hD⟩ := hB84
                            rw [ht84] at hP
                            refine lv_aload_n (pc := 186) hx hb dX2_addLigature_186 rfl (lv_at hl 2 rfl) ?_
                            refine va_get (v := .ref (gB g 0)) (pc := 187) (D := gD g) (ci := 2) (C := RX2) (T := TX2) (N := 11) hx hb hts hinX2 hown hK hP 0 (ma0 g (apS (apS (apS σ v (lg1 f0 s0 z0) f0 false 0) v (lg2 f0 s0 true z0) s0 false 1) v (lk s0 t0) t0 false 2) 0 mi ti rest) rfl 2 (by decide) (hts (.fieldLink RX2 9 "ChoirNotesModel" "many" "[I") (by decide +kernel)) (fun _ h9 => h9) rfl dX2_addLigature_187 ?_
                            refine lv_iload_n (pc := 190) hx hb dX2_addLigature_190 rfl (lv_at hl 3 rfl) ?_
                            refine k_iald (pc := 191) (x := nI (sC σ v + 1 + 1 + 1)) hx hb hK hP 1 0 (ma1 g (apS (apS (apS σ v (lg1 f0 s0 z0) f0 false 0) v (lg2 f0 s0 true z0) s0 false 1) v (lk s0 t0) t0 false 2) 0 mi ti rest) rfl v rfl (by omega) (by decide) (congrArg nI (by simp only [sC_apS, up1_s])) dX2_addLigature_191 ?_
                            refine lv_iload (pc := 192) hx hb dX2_addLigature_192 (lv_at hl 1 rfl) ?_
                            refine lv_isub (pc := 194) hx hb dX2_addLigature_194 ?_
                            refine k_cong (y := nI (sC σ v)) (pk_sub (a := sC σ v + 1 + 1 + 1) (b := 3) (by omega)) ?_
                            have hef : ef_addLigature σ v f0 s0 t0 z0 = (apS (apS (apS σ v (lg1 f0 s0 z0) f0 false 0) v (lg2 f0 s0 true z0) s0 false 1) v (lk s0 t0) t0 false 2) := by unfold ef_addLigature; rw [if_neg k5]
                            rw [hef]
                            have hcd : cd_addLigature σ (nI v) f0 s0 t0 = 0 := by simp [cd_addLigature, inL, c1, hixv, c2, c3, c4, c5, c6, hroom]
                            rw [hcd]
                            exact W.iret hx hb hr (fun t ht hW => ⟨⟨_, (mi, ti), rfl, (fun _ => rfl), by rw [ht]; exact hP, hD⟩, hS.F ht⟩) hS.2.2 dX2_addLigature_195
                    · have k8 := bI_n0.mp k8
                      refine lv_iconst (v := 2) (pc := 119) hx hb dX2_addLigature_119 (by decide) ?_
                      refine lv_goto (tgt := 125) (pc := 120) hx hb dX2_addLigature_120 (by decide) ?_
                      refine k_cong (y := nI (lg1 f0 s0 z0)) (by unfold lg1; rw [k8]; rfl) ?_
                      refine lv_iload_n (pc := 125) hx hb dX2_addLigature_125 rfl (lv_at hl 4 rfl) ?_
                      refine lv_iconst (v := 0) (pc := 126) hx hb dX2_addLigature_126 (by decide) ?_
                      refine lv_iconst (v := 0) (pc := 127) hx hb dX2_addLigature_127 (by decide) ?_
                      refine va_callv (pc := 128) (va_runV (As := [.int (nI v), .int (nI (lg1 f0 s0 z0)), .int f0, .int 0, .int 0]) (rest := []) ⟨hx, hb, hml, hown, hts⟩ (cX2_put_m l g A σ rest 0 mi ti v (lg1 f0 s0 z0) f0 false 0 hvv4 (by omega)) (cwV 5 hts gX2_addLigature_X2_put rfl rfl rfl (by decide +kernel) ⟨Nat.le_of_ble_eq_true rfl, Nat.le_of_ble_eq_true rfl⟩) (cx_V (q0 := 0) (ci := 2) (r := (RX2, TX2, 11)) rfl (ma0 g σ 0 mi ti rest) hP hD hA hK hX hS) rfl rfl hl.1 rfl (lv_room (Nat.le_of_ble_eq_true rfl)) dX2_addLigature_128 ⟨Nat.le_of_ble_eq_true rfl, Nat.le_of_ble_eq_true rfl⟩) hS (fun _ _ h => h) (fun _ h => h) (fun u86 t86 H86 locs86 ht86 hvm86 hw86 hB86 hz86 hk86 hS => ?_)
                      obtain ⟨hP, hD⟩ := hB86
                      rw [ht86] at hP
                      refine lv_aload_n (pc := 131) hx hb dX2_addLigature_131 rfl (lv_at hl 2 rfl) ?_
                      refine lv_iload_n (pc := 132) hx hb dX2_addLigature_132 rfl (lv_at hl 3 rfl) ?_
                      refine lv_iload (pc := 133) hx hb dX2_addLigature_133 (lv_at hl 7 rfl) ?_
                      refine lv_if_eq (tgt := 142) (pc := 135) hx hb dX2_addLigature_135 (by decide) (fun k8b => ?_) (fun k8b => ?_)
                      · have k8b := bI_0.mp k8b
                        refine lv_iload (pc := 142) hx hb dX2_addLigature_142 (lv_at hl 1 rfl) ?_
                        refine lv_iconst (v := 3) (pc := 144) hx hb dX2_addLigature_144 (by decide) ?_
                        refine lv_icmp_ne (tgt := 152) (pc := 145) hx hb dX2_addLigature_145 (by decide) (fun c_88 => ?_) (fun c_88 => ?_)
                        · exact absurd c_88 (by decide)
                        · refine lv_iconst (v := 1) (pc := 148) hx hb dX2_addLigature_148 (by decide) ?_
                          refine lv_goto (tgt := 154) (pc := 149) hx hb dX2_addLigature_149 (by decide) ?_
                          refine k_cong (y := nI (lg2 f0 s0 true z0)) (by unfold lg2; rw [k8b]; rfl) ?_
                          refine lv_iload_n (pc := 154) hx hb dX2_addLigature_154 rfl (lv_at hl 5 rfl) ?_
                          refine lv_iconst (v := 0) (pc := 155) hx hb dX2_addLigature_155 (by decide) ?_
                          refine lv_iconst (v := 1) (pc := 156) hx hb dX2_addLigature_156 (by decide) ?_
                          refine va_callv (pc := 157) (va_runV (As := [.int (nI v), .int (nI (lg2 f0 s0 true z0)), .int s0, .int 0, .int 1]) (rest := []) ⟨hx, hb, hml, hown, hts⟩ (cX2_put_m l g A (apS σ v (lg1 f0 s0 z0) f0 false 0) rest 0 mi ti v (lg2 f0 s0 true z0) s0 false 1 hvv4 (by simp only [sC_apS, up1_s]; omega)) (cwV 5 hts gX2_addLigature_X2_put rfl rfl rfl (by decide +kernel) ⟨Nat.le_of_ble_eq_true rfl, Nat.le_of_ble_eq_true rfl⟩) (cx_V (q0 := 0) (ci := 2) (r := (RX2, TX2, 11)) rfl (ma0 g (apS σ v (lg1 f0 s0 z0) f0 false 0) 0 mi ti rest) hP hD hA hK hX hS) rfl rfl hl.1 rfl (lv_room (Nat.le_of_ble_eq_true rfl)) dX2_addLigature_157 ⟨Nat.le_of_ble_eq_true rfl, Nat.le_of_ble_eq_true rfl⟩) hS (fun _ _ h => h) (fun _ h => h) (fun u90 t90 H90 locs90 ht90 hvm90 hw90 hB90 hz90 hk90 hS => ?_)
                          obtain ⟨hP, hD⟩ := hB90
                          rw [ht90] at hP
                          refine lv_iload (pc := 160) hx hb dX2_addLigature_160 (lv_at hl 1 rfl) ?_
                          refine lv_iconst (v := 3) (pc := 162) hx hb dX2_addLigature_162 (by decide) ?_
                          refine lv_icmp_ne (tgt := 186) (pc := 163) hx hb dX2_addLigature_163 (by decide) (fun c_91 => ?_) (fun c_91 => ?_)
                          · exact absurd c_91 (by decide)
                          · refine lv_aload_n (pc := 166) hx hb dX2_addLigature_166 rfl (lv_at hl 2 rfl) ?_
                            refine lv_iload_n (pc := 167) hx hb dX2_addLigature_167 rfl (lv_at hl 3 rfl) ?_
                            refine lv_iload (pc := 168) hx hb dX2_addLigature_168 (lv_at hl 6 rfl) ?_
                            refine lv_iload_n (pc := 170) hx hb dX2_addLigature_170 rfl (lv_at hl 5 rfl) ?_
                            refine lv_icmp_ge (tgt := 178) (pc := 171) hx hb dX2_addLigature_171 (by decide) (fun k9 => ?_) (fun k9 => ?_)
                            · refine lv_iconst (v := 1) (pc := 178) hx hb dX2_addLigature_178 (by decide) ?_
                              refine k_cong (y := nI (lk s0 t0)) (by unfold lk; first | (rw [if_pos (Int32.not_le.mp k9)]; rfl) | (rw [if_neg (Int32.not_lt.mpr k9)]; rfl)) ?_
                              refine lv_iload (pc := 179) hx hb dX2_addLigature_179 (lv_at hl 6 rfl) ?_
                              refine lv_iconst (v := 0) (pc := 181) hx hb dX2_addLigature_181 (by decide) ?_
                              refine lv_iconst (v := 2) (pc := 182) hx hb dX2_addLigature_182 (by decide) ?_
                              refine va_callv (pc := 183) (va_runV (As := [.int (nI v), .int (nI (lk s0 t0)), .int t0, .int 0, .int 2]) (rest := []) ⟨hx, hb, hml, hown, hts⟩ (cX2_put_m l g A (apS (apS σ v (lg1 f0 s0 z0) f0 false 0) v (lg2 f0 s0 true z0) s0 false 1) rest 0 mi ti v (lk s0 t0) t0 false 2 hvv4 (by simp only [sC_apS, up1_s]; omega)) (cwV 5 hts gX2_addLigature_X2_put rfl rfl rfl (by decide +kernel) ⟨Nat.le_of_ble_eq_true rfl, Nat.le_of_ble_eq_true rfl⟩) (cx_V (q0 := 0) (ci := 2) (r := (RX2, TX2, 11)) rfl (ma0 g (apS (apS σ v (lg1 f0 s0 z0) f0 false 0) v (lg2 f0 s0 true z0) s0 false 1) 0 mi ti rest) hP hD hA hK hX hS) rfl rfl hl.1 rfl (lv_room (Nat.le_of_ble_eq_true rfl)) dX2_addLigature_183 ⟨Nat.le_of_ble_eq_true rfl, Nat.le_of_ble_eq_true rfl⟩) hS (fun _ _ h => h) (fun _ h => h) (fun u94 t94 H94 locs94 ht94 hvm94 hw94 hB94 hz94 hk94 hS => ?_)
                              obtain ⟨hP, hD⟩ := hB94
                              rw [ht94] at hP
                              refine lv_aload_n (pc := 186) hx hb dX2_addLigature_186 rfl (lv_at hl 2 rfl) ?_
                              refine va_get (v := .ref (gB g 0)) (pc := 187) (D := gD g) (ci := 2) (C := RX2) (T := TX2) (N := 11) hx hb hts hinX2 hown hK hP 0 (ma0 g (apS (apS (apS σ v (lg1 f0 s0 z0) f0 false 0) v (lg2 f0 s0 true z0) s0 false 1) v (lk s0 t0) t0 false 2) 0 mi ti rest) rfl 2 (by decide) (hts (.fieldLink RX2 9 "ChoirNotesModel" "many" "[I") (by decide +kernel)) (fun _ h9 => h9) rfl dX2_addLigature_187 ?_
                              refine lv_iload_n (pc := 190) hx hb dX2_addLigature_190 rfl (lv_at hl 3 rfl) ?_
                              refine k_iald (pc := 191) (x := nI (sC σ v + 1 + 1 + 1)) hx hb hK hP 1 0 (ma1 g (apS (apS (apS σ v (lg1 f0 s0 z0) f0 false 0) v (lg2 f0 s0 true z0) s0 false 1) v (lk s0 t0) t0 false 2) 0 mi ti rest) rfl v rfl (by omega) (by decide) (congrArg nI (by simp only [sC_apS, up1_s])) dX2_addLigature_191 ?_
                              refine lv_iload (pc := 192) hx hb dX2_addLigature_192 (lv_at hl 1 rfl) ?_
                              refine lv_isub (pc := 194) hx hb dX2_addLigature_194 ?_
                              refine k_cong (y := nI (sC σ v)) (pk_sub (a := sC σ v + 1 + 1 + 1) (b := 3) (by omega)) ?_
                              have hef : ef_addLigature σ v f0 s0 t0 z0 = (apS (apS (apS σ v (lg1 f0 s0 z0) f0 false 0) v (lg2 f0 s0 true z0) s0 false 1) v (lk s0 t0) t0 false 2) := by unfold ef_addLigature; rw [if_neg k5]
                              rw [hef]
                              have hcd : cd_addLigature σ (nI v) f0 s0 t0 = 0 := by simp [cd_addLigature, inL, c1, hixv, c2, c3, c4, c5, c6, hroom]
                              rw [hcd]
                              exact W.iret hx hb hr (fun t ht hW => ⟨⟨_, (mi, ti), rfl, (fun _ => rfl), by rw [ht]; exact hP, hD⟩, hS.F ht⟩) hS.2.2 dX2_addLigature_195
                            · refine lv_iconst (v := 0) (pc := 174) hx hb dX2_addLigature_174 (by decide) ?_
                              refine lv_goto (tgt := 179) (pc := 175) hx hb dX2_addLigature_175 (by decide) ?_
                              refine k_cong (y := nI (lk s0 t0)) (by unfold lk; first | (rw [if_pos (Int32.not_le.mp k9)]; rfl) | (rw [if_neg (Int32.not_lt.mpr k9)]; rfl)) ?_
                              refine lv_iload (pc := 179) hx hb dX2_addLigature_179 (lv_at hl 6 rfl) ?_
                              refine lv_iconst (v := 0) (pc := 181) hx hb dX2_addLigature_181 (by decide) ?_
                              refine lv_iconst (v := 2) (pc := 182) hx hb dX2_addLigature_182 (by decide) ?_
                              refine va_callv (pc := 183) (va_runV (As := [.int (nI v), .int (nI (lk s0 t0)), .int t0, .int 0, .int 2]) (rest := []) ⟨hx, hb, hml, hown, hts⟩ (cX2_put_m l g A (apS (apS σ v (lg1 f0 s0 z0) f0 false 0) v (lg2 f0 s0 true z0) s0 false 1) rest 0 mi ti v (lk s0 t0) t0 false 2 hvv4 (by simp only [sC_apS, up1_s]; omega)) (cwV 5 hts gX2_addLigature_X2_put rfl rfl rfl (by decide +kernel) ⟨Nat.le_of_ble_eq_true rfl, Nat.le_of_ble_eq_true rfl⟩) (cx_V (q0 := 0) (ci := 2) (r := (RX2, TX2, 11)) rfl (ma0 g (apS (apS σ v (lg1 f0 s0 z0) f0 false 0) v (lg2 f0 s0 true z0) s0 false 1) 0 mi ti rest) hP hD hA hK hX hS) rfl rfl hl.1 rfl (lv_room (Nat.le_of_ble_eq_true rfl)) dX2_addLigature_183 ⟨Nat.le_of_ble_eq_true rfl, Nat.le_of_ble_eq_true rfl⟩) hS (fun _ _ h => h) (fun _ h => h) (fun u96 t96 H96 locs96 ht96 hvm96 hw96 hB96 hz96 hk96 hS => ?_)
                              obtain ⟨hP, hD⟩ := hB96
                              rw [ht96] at hP
                              refine lv_aload_n (pc := 186) hx hb dX2_addLigature_186 rfl (lv_at hl 2 rfl) ?_
                              refine va_get (v := .ref (gB g 0)) (pc := 187) (D := gD g) (ci := 2) (C := RX2) (T := TX2) (N := 11) hx hb hts hinX2 hown hK hP 0 (ma0 g (apS (apS (apS σ v (lg1 f0 s0 z0) f0 false 0) v (lg2 f0 s0 true z0) s0 false 1) v (lk s0 t0) t0 false 2) 0 mi ti rest) rfl 2 (by decide) (hts (.fieldLink RX2 9 "ChoirNotesModel" "many" "[I") (by decide +kernel)) (fun _ h9 => h9) rfl dX2_addLigature_187 ?_
                              refine lv_iload_n (pc := 190) hx hb dX2_addLigature_190 rfl (lv_at hl 3 rfl) ?_
                              refine k_iald (pc := 191) (x := nI (sC σ v + 1 + 1 + 1)) hx hb hK hP 1 0 (ma1 g (apS (apS (apS σ v (lg1 f0 s0 z0) f0 false 0) v (lg2 f0 s0 true z0) s0 false 1) v (lk s0 t0) t0 false 2) 0 mi ti rest) rfl v rfl (by omega) (by decide) (congrArg nI (by simp only [sC_apS, up1_s])) dX2_addLigature_191 ?_
                              refine lv_iload (pc := 192) hx hb dX2_addLigature_192 (lv_at hl 1 rfl) ?_
                              refine lv_isub (pc := 194) hx hb dX2_addLigature_194 ?_
                              refine k_cong (y := nI (sC σ v)) (pk_sub (a := sC σ v + 1 + 1 + 1) (b := 3) (by omega)) ?_
                              have hef : ef_addLigature σ v f0 s0 t0 z0 = (apS (apS (apS σ v (lg1 f0 s0 z0) f0 false 0) v (lg2 f0 s0 true z0) s0 false 1) v (lk s0 t0) t0 false 2) := by unfold ef_addLigature; rw [if_neg k5]
                              rw [hef]
                              have hcd : cd_addLigature σ (nI v) f0 s0 t0 = 0 := by simp [cd_addLigature, inL, c1, hixv, c2, c3, c4, c5, c6, hroom]
                              rw [hcd]
                              exact W.iret hx hb hr (fun t ht hW => ⟨⟨_, (mi, ti), rfl, (fun _ => rfl), by rw [ht]; exact hP, hD⟩, hS.F ht⟩) hS.2.2 dX2_addLigature_195
                      · have k8b := bI_n0.mp k8b
                        refine lv_iconst (v := 2) (pc := 138) hx hb dX2_addLigature_138 (by decide) ?_
                        refine lv_goto (tgt := 154) (pc := 139) hx hb dX2_addLigature_139 (by decide) ?_
                        refine k_cong (y := nI (lg2 f0 s0 true z0)) (by unfold lg2; rw [k8b]; rfl) ?_
                        refine lv_iload_n (pc := 154) hx hb dX2_addLigature_154 rfl (lv_at hl 5 rfl) ?_
                        refine lv_iconst (v := 0) (pc := 155) hx hb dX2_addLigature_155 (by decide) ?_
                        refine lv_iconst (v := 1) (pc := 156) hx hb dX2_addLigature_156 (by decide) ?_
                        refine va_callv (pc := 157) (va_runV (As := [.int (nI v), .int (nI (lg2 f0 s0 true z0)), .int s0, .int 0, .int 1]) (rest := []) ⟨hx, hb, hml, hown, hts⟩ (cX2_put_m l g A (apS σ v (lg1 f0 s0 z0) f0 false 0) rest 0 mi ti v (lg2 f0 s0 true z0) s0 false 1 hvv4 (by simp only [sC_apS, up1_s]; omega)) (cwV 5 hts gX2_addLigature_X2_put rfl rfl rfl (by decide +kernel) ⟨Nat.le_of_ble_eq_true rfl, Nat.le_of_ble_eq_true rfl⟩) (cx_V (q0 := 0) (ci := 2) (r := (RX2, TX2, 11)) rfl (ma0 g (apS σ v (lg1 f0 s0 z0) f0 false 0) 0 mi ti rest) hP hD hA hK hX hS) rfl rfl hl.1 rfl (lv_room (Nat.le_of_ble_eq_true rfl)) dX2_addLigature_157 ⟨Nat.le_of_ble_eq_true rfl, Nat.le_of_ble_eq_true rfl⟩) hS (fun _ _ h => h) (fun _ h => h) (fun u98 t98 H98 locs98 ht98 hvm98 hw98 hB98 hz98 hk98 hS => ?_)
                        obtain ⟨hP, hD⟩ := hB98
                        rw [ht98] at hP
                        refine lv_iload (pc := 160) hx hb dX2_addLigature_160 (lv_at hl 1 rfl) ?_
                        refine lv_iconst (v := 3) (pc := 162) hx hb dX2_addLigature_162 (by decide) ?_
                        refine lv_icmp_ne (tgt := 186) (pc := 163) hx hb dX2_addLigature_163 (by decide) (fun c_99 => ?_) (fun c_99 => ?_)
                        · exact absurd c_99 (by decide)
                        · refine lv_aload_n (pc := 166) hx hb dX2_addLigature_166 rfl (lv_at hl 2 rfl) ?_
                          refine lv_iload_n (pc := 167) hx hb dX2_addLigature_167 rfl (lv_at hl 3 rfl) ?_
                          refine lv_iload (pc := 168) hx hb dX2_addLigature_168 (lv_at hl 6 rfl) ?_
                          refine lv_iload_n (pc := 170) hx hb dX2_addLigature_170 rfl (lv_at hl 5 rfl) ?_
                          refine lv_icmp_ge (tgt := 178) (pc := 171) hx hb dX2_addLigature_171 (by decide) (fun k9 => ?_) (fun k9 => ?_)
                          · refine lv_iconst (v := 1) (pc := 178) hx hb dX2_addLigature_178 (by decide) ?_
                            refine k_cong (y := nI (lk s0 t0)) (by unfold lk; first | (rw [if_pos (Int32.not_le.mp k9)]; rfl) | (rw [if_neg (Int32.not_lt.mpr k9)]; rfl)) ?_
                            refine lv_iload (pc := 179) hx hb dX2_addLigature_179 (lv_at hl 6 rfl) ?_
                            refine lv_iconst (v := 0) (pc := 181) hx hb dX2_addLigature_181 (by decide) ?_
                            refine lv_iconst (v := 2) (pc := 182) hx hb dX2_addLigature_182 (by decide) ?_
                            refine va_callv (pc := 183) (va_runV (As := [.int (nI v), .int (nI (lk s0 t0)), .int t0, .int 0, .int 2]) (rest := []) ⟨hx, hb, hml, hown, hts⟩ (cX2_put_m l g A (apS (apS σ v (lg1 f0 s0 z0) f0 false 0) v (lg2 f0 s0 true z0) s0 false 1) rest 0 mi ti v (lk s0 t0) t0 false 2 hvv4 (by simp only [sC_apS, up1_s]; omega)) (cwV 5 hts gX2_addLigature_X2_put rfl rfl rfl (by decide +kernel) ⟨Nat.le_of_ble_eq_true rfl, Nat.le_of_ble_eq_true rfl⟩) (cx_V (q0 := 0) (ci := 2) (r := (RX2, TX2, 11)) rfl (ma0 g (apS (apS σ v (lg1 f0 s0 z0) f0 false 0) v (lg2 f0 s0 true z0) s0 false 1) 0 mi ti rest) hP hD hA hK hX hS) rfl rfl hl.1 rfl (lv_room (Nat.le_of_ble_eq_true rfl)) dX2_addLigature_183 ⟨Nat.le_of_ble_eq_true rfl, Nat.le_of_ble_eq_true rfl⟩) hS (fun _ _ h => h) (fun _ h => h) (fun u102 t102 H102 locs102 ht102 hvm102 hw102 hB102 hz102 hk102 hS => ?_)
                            obtain ⟨hP, hD⟩ := hB102
                            rw [ht102] at hP
                            refine lv_aload_n (pc := 186) hx hb dX2_addLigature_186 rfl (lv_at hl 2 rfl) ?_
                            refine va_get (v := .ref (gB g 0)) (pc := 187) (D := gD g) (ci := 2) (C := RX2) (T := TX2) (N := 11) hx hb hts hinX2 hown hK hP 0 (ma0 g (apS (apS (apS σ v (lg1 f0 s0 z0) f0 false 0) v (lg2 f0 s0 true z0) s0 false 1) v (lk s0 t0) t0 false 2) 0 mi ti rest) rfl 2 (by decide) (hts (.fieldLink RX2 9 "ChoirNotesModel" "many" "[I") (by decide +kernel)) (fun _ h9 => h9) rfl dX2_addLigature_187 ?_
                            refine lv_iload_n (pc := 190) hx hb dX2_addLigature_190 rfl (lv_at hl 3 rfl) ?_
                            refine k_iald (pc := 191) (x := nI (sC σ v + 1 + 1 + 1)) hx hb hK hP 1 0 (ma1 g (apS (apS (apS σ v (lg1 f0 s0 z0) f0 false 0) v (lg2 f0 s0 true z0) s0 false 1) v (lk s0 t0) t0 false 2) 0 mi ti rest) rfl v rfl (by omega) (by decide) (congrArg nI (by simp only [sC_apS, up1_s])) dX2_addLigature_191 ?_
                            refine lv_iload (pc := 192) hx hb dX2_addLigature_192 (lv_at hl 1 rfl) ?_
                            refine lv_isub (pc := 194) hx hb dX2_addLigature_194 ?_
                            refine k_cong (y := nI (sC σ v)) (pk_sub (a := sC σ v + 1 + 1 + 1) (b := 3) (by omega)) ?_
                            have hef : ef_addLigature σ v f0 s0 t0 z0 = (apS (apS (apS σ v (lg1 f0 s0 z0) f0 false 0) v (lg2 f0 s0 true z0) s0 false 1) v (lk s0 t0) t0 false 2) := by unfold ef_addLigature; rw [if_neg k5]
                            rw [hef]
                            have hcd : cd_addLigature σ (nI v) f0 s0 t0 = 0 := by simp [cd_addLigature, inL, c1, hixv, c2, c3, c4, c5, c6, hroom]
                            rw [hcd]
                            exact W.iret hx hb hr (fun t ht hW => ⟨⟨_, (mi, ti), rfl, (fun _ => rfl), by rw [ht]; exact hP, hD⟩, hS.F ht⟩) hS.2.2 dX2_addLigature_195
                          · refine lv_iconst (v := 0) (pc := 174) hx hb dX2_addLigature_174 (by decide) ?_
                            refine lv_goto (tgt := 179) (pc := 175) hx hb dX2_addLigature_175 (by decide) ?_
                            refine k_cong (y := nI (lk s0 t0)) (by unfold lk; first | (rw [if_pos (Int32.not_le.mp k9)]; rfl) | (rw [if_neg (Int32.not_lt.mpr k9)]; rfl)) ?_
                            refine lv_iload (pc := 179) hx hb dX2_addLigature_179 (lv_at hl 6 rfl) ?_
                            refine lv_iconst (v := 0) (pc := 181) hx hb dX2_addLigature_181 (by decide) ?_
                            refine lv_iconst (v := 2) (pc := 182) hx hb dX2_addLigature_182 (by decide) ?_
                            refine va_callv (pc := 183) (va_runV (As := [.int (nI v), .int (nI (lk s0 t0)), .int t0, .int 0, .int 2]) (rest := []) ⟨hx, hb, hml, hown, hts⟩ (cX2_put_m l g A (apS (apS σ v (lg1 f0 s0 z0) f0 false 0) v (lg2 f0 s0 true z0) s0 false 1) rest 0 mi ti v (lk s0 t0) t0 false 2 hvv4 (by simp only [sC_apS, up1_s]; omega)) (cwV 5 hts gX2_addLigature_X2_put rfl rfl rfl (by decide +kernel) ⟨Nat.le_of_ble_eq_true rfl, Nat.le_of_ble_eq_true rfl⟩) (cx_V (q0 := 0) (ci := 2) (r := (RX2, TX2, 11)) rfl (ma0 g (apS (apS σ v (lg1 f0 s0 z0) f0 false 0) v (lg2 f0 s0 true z0) s0 false 1) 0 mi ti rest) hP hD hA hK hX hS) rfl rfl hl.1 rfl (lv_room (Nat.le_of_ble_eq_true rfl)) dX2_addLigature_183 ⟨Nat.le_of_ble_eq_true rfl, Nat.le_of_ble_eq_true rfl⟩) hS (fun _ _ h => h) (fun _ h => h) (fun u104 t104 H104 locs104 ht104 hvm104 hw104 hB104 hz104 hk104 hS => ?_)
                            obtain ⟨hP, hD⟩ := hB104
                            rw [ht104] at hP
                            refine lv_aload_n (pc := 186) hx hb dX2_addLigature_186 rfl (lv_at hl 2 rfl) ?_
                            refine va_get (v := .ref (gB g 0)) (pc := 187) (D := gD g) (ci := 2) (C := RX2) (T := TX2) (N := 11) hx hb hts hinX2 hown hK hP 0 (ma0 g (apS (apS (apS σ v (lg1 f0 s0 z0) f0 false 0) v (lg2 f0 s0 true z0) s0 false 1) v (lk s0 t0) t0 false 2) 0 mi ti rest) rfl 2 (by decide) (hts (.fieldLink RX2 9 "ChoirNotesModel" "many" "[I") (by decide +kernel)) (fun _ h9 => h9) rfl dX2_addLigature_187 ?_
                            refine lv_iload_n (pc := 190) hx hb dX2_addLigature_190 rfl (lv_at hl 3 rfl) ?_
                            refine k_iald (pc := 191) (x := nI (sC σ v + 1 + 1 + 1)) hx hb hK hP 1 0 (ma1 g (apS (apS (apS σ v (lg1 f0 s0 z0) f0 false 0) v (lg2 f0 s0 true z0) s0 false 1) v (lk s0 t0) t0 false 2) 0 mi ti rest) rfl v rfl (by omega) (by decide) (congrArg nI (by simp only [sC_apS, up1_s])) dX2_addLigature_191 ?_
                            refine lv_iload (pc := 192) hx hb dX2_addLigature_192 (lv_at hl 1 rfl) ?_
                            refine lv_isub (pc := 194) hx hb dX2_addLigature_194 ?_
                            refine k_cong (y := nI (sC σ v)) (pk_sub (a := sC σ v + 1 + 1 + 1) (b := 3) (by omega)) ?_
                            have hef : ef_addLigature σ v f0 s0 t0 z0 = (apS (apS (apS σ v (lg1 f0 s0 z0) f0 false 0) v (lg2 f0 s0 true z0) s0 false 1) v (lk s0 t0) t0 false 2) := by unfold ef_addLigature; rw [if_neg k5]
                            rw [hef]
                            have hcd : cd_addLigature σ (nI v) f0 s0 t0 = 0 := by simp [cd_addLigature, inL, c1, hixv, c2, c3, c4, c5, c6, hroom]
                            rw [hcd]
                            exact W.iret hx hb hr (fun t ht hW => ⟨⟨_, (mi, ti), rfl, (fun _ => rfl), by rw [ht]; exact hP, hD⟩, hS.F ht⟩) hS.2.2 dX2_addLigature_195
                · have k6 : ¬ (sC σ v + 3 ≤ 24) := fun z => k6 ((nI_leI (a := sC σ v + 3) (b := 24) (by omega) (by omega)).mpr z)
                  have hroom : ¬ sC σ v + lgM t0 ≤ 24 := by omega
                  refine lv_aload_n (pc := 94) hx hb dX2_addLigature_94 rfl (lv_at hl 1 rfl) ?_
                  refine lv_iconst (v := 3) (pc := 95) hx hb dX2_addLigature_95 (by decide) ?_
                  refine va_calli (pc := 96) (va_runV (As := [.int 3]) (rest := []) ⟨hx, hb, hml, hown, hts⟩ (cX2_fail_m l g A σ rest 0 mi ti 3) (cwV 1 hts gX2_addLigature_X2_fail rfl rfl rfl (by decide +kernel) ⟨Nat.le_of_ble_eq_true rfl, Nat.le_of_ble_eq_true rfl⟩) (cx_V (q0 := 0) (ci := 2) (r := (RX2, TX2, 11)) rfl (ma0 g σ 0 mi ti rest) hP hD hA hK hX hS) rfl rfl hl.1 rfl (lv_room (Nat.le_of_ble_eq_true rfl)) dX2_addLigature_96 ⟨Nat.le_of_ble_eq_true rfl, Nat.le_of_ble_eq_true rfl⟩) hS (fun _ _ h => h) (fun _ h => h) (fun r_105 u106 t106 H106 locs106 ht106 hvm106 hw106 hB106 hz106 hk106 hS => ?_)
                  obtain ⟨hP, hD⟩ := hB106
                  rw [ht106] at hP
                  subst hw106
                  have hcd : cd_addLigature σ (nI v) f0 s0 t0 = 3 := by simp [cd_addLigature, inL, c1, hixv, c2, c3, c4, c5, c6, hroom]
                  rw [hcd]
                  exact W.iret hx hb hr (fun t ht hW => ⟨⟨_, (mi, ti), rfl, (fun q => absurd q (by decide)), by rw [ht]; exact hP, hD⟩, hS.F ht⟩) hS.2.2 dX2_addLigature_99
              · have hM : lgM t0 = 2 := if_pos k5
                refine lv_iconst (v := 2) (pc := 73) hx hb dX2_addLigature_73 (by decide) ?_
                refine lv_goto (tgt := 78) (pc := 74) hx hb dX2_addLigature_74 (by decide) ?_
                refine lv_istore (lv' := [(6, .int 2), (0, .ref (gM g)), (1, .int (nI v)), (2, .int f0), (3, .int s0), (4, .int t0), (5, .int (bI z0))]) (pc := 78) hx hb dX2_addLigature_78 hl (by decide) rfl (fun ls hl => ?_)
                refine lv_aload_n (pc := 80) hx hb dX2_addLigature_80 rfl (lv_at hl 1 rfl) ?_
                refine va_get (v := .ref (gB g 0)) (pc := 81) (D := gD g) (ci := 2) (C := RX2) (T := TX2) (N := 11) hx hb hts hinX2 hown hK hP 0 (ma0 g σ 0 mi ti rest) rfl 2 (by decide) (hts (.fieldLink RX2 9 "ChoirNotesModel" "many" "[I") (by decide +kernel)) (fun _ h9 => h9) rfl dX2_addLigature_81 ?_
                refine lv_iload_n (pc := 84) hx hb dX2_addLigature_84 rfl (lv_at hl 2 rfl) ?_
                refine k_iald (pc := 85) (x := nI (sC σ v)) hx hb hK hP 1 0 (ma1 g σ 0 mi ti rest) rfl v rfl (by omega) (by decide) rfl dX2_addLigature_85 ?_
                refine lv_iload (pc := 86) hx hb dX2_addLigature_86 (lv_at hl 0 rfl) ?_
                refine lv_iadd (pc := 88) hx hb dX2_addLigature_88 ?_
                refine k_cong (y := nI (sC σ v + 2)) (nI_add (sC σ v) 2) ?_
                refine lv_bipush (v := 24) (pc := 89) hx hb dX2_addLigature_89 (by decide) ?_
                refine lv_icmp_le (tgt := 100) (pc := 91) hx hb dX2_addLigature_91 (by decide) (fun k6 => ?_) (fun k6 => ?_)
                · have k6 : sC σ v + 2 ≤ 24 := (nI_leI (a := sC σ v + 2) (b := 24) (by omega) (by omega)).mp k6
                  have hroom : sC σ v + lgM t0 ≤ 24 := by omega
                  refine lv_iload_n (pc := 100) hx hb dX2_addLigature_100 rfl (lv_at hl 4 rfl) ?_
                  refine lv_iload_n (pc := 101) hx hb dX2_addLigature_101 rfl (lv_at hl 3 rfl) ?_
                  refine lv_icmp_ge (tgt := 109) (pc := 102) hx hb dX2_addLigature_102 (by decide) (fun k7 => ?_) (fun k7 => ?_)
                  · refine lv_iconst (v := 1) (pc := 109) hx hb dX2_addLigature_109 (by decide) ?_
                    refine k_cong (y := nI (lk f0 s0)) (by unfold lk; first | (rw [if_pos (Int32.not_le.mp k7)]; rfl) | (rw [if_neg (Int32.not_lt.mpr k7)]; rfl)) ?_
                    refine lv_istore (lv' := [(7, .int (nI (lk f0 s0))), (6, .int 2), (0, .ref (gM g)), (1, .int (nI v)), (2, .int f0), (3, .int s0), (4, .int t0), (5, .int (bI z0))]) (pc := 110) hx hb dX2_addLigature_110 hl (by decide) rfl (fun ls hl => ?_)
                    refine lv_aload_n (pc := 112) hx hb dX2_addLigature_112 rfl (lv_at hl 2 rfl) ?_
                    refine lv_iload_n (pc := 113) hx hb dX2_addLigature_113 rfl (lv_at hl 3 rfl) ?_
                    refine lv_iload (pc := 114) hx hb dX2_addLigature_114 (lv_at hl 7 rfl) ?_
                    refine lv_if_eq (tgt := 123) (pc := 116) hx hb dX2_addLigature_116 (by decide) (fun k8 => ?_) (fun k8 => ?_)
                    · have k8 := bI_0.mp k8
                      refine lv_iload (pc := 123) hx hb dX2_addLigature_123 (lv_at hl 0 rfl) ?_
                      refine k_cong (y := nI (lg1 f0 s0 z0)) (by unfold lg1; rw [k8]; rfl) ?_
                      refine lv_iload_n (pc := 125) hx hb dX2_addLigature_125 rfl (lv_at hl 4 rfl) ?_
                      refine lv_iconst (v := 0) (pc := 126) hx hb dX2_addLigature_126 (by decide) ?_
                      refine lv_iconst (v := 0) (pc := 127) hx hb dX2_addLigature_127 (by decide) ?_
                      refine va_callv (pc := 128) (va_runV (As := [.int (nI v), .int (nI (lg1 f0 s0 z0)), .int f0, .int 0, .int 0]) (rest := []) ⟨hx, hb, hml, hown, hts⟩ (cX2_put_m l g A σ rest 0 mi ti v (lg1 f0 s0 z0) f0 false 0 hvv4 (by omega)) (cwV 5 hts gX2_addLigature_X2_put rfl rfl rfl (by decide +kernel) ⟨Nat.le_of_ble_eq_true rfl, Nat.le_of_ble_eq_true rfl⟩) (cx_V (q0 := 0) (ci := 2) (r := (RX2, TX2, 11)) rfl (ma0 g σ 0 mi ti rest) hP hD hA hK hX hS) rfl rfl hl.1 rfl (lv_room (Nat.le_of_ble_eq_true rfl)) dX2_addLigature_128 ⟨Nat.le_of_ble_eq_true rfl, Nat.le_of_ble_eq_true rfl⟩) hS (fun _ _ h => h) (fun _ h => h) (fun u111 t111 H111 locs111 ht111 hvm111 hw111 hB111 hz111 hk111 hS => ?_)
                      obtain ⟨hP, hD⟩ := hB111
                      rw [ht111] at hP
                      refine lv_aload_n (pc := 131) hx hb dX2_addLigature_131 rfl (lv_at hl 2 rfl) ?_
                      refine lv_iload_n (pc := 132) hx hb dX2_addLigature_132 rfl (lv_at hl 3 rfl) ?_
                      refine lv_iload (pc := 133) hx hb dX2_addLigature_133 (lv_at hl 7 rfl) ?_
                      refine lv_if_eq (tgt := 142) (pc := 135) hx hb dX2_addLigature_135 (by decide) (fun k8b => ?_) (fun k8b => ?_)
                      · have k8b := bI_0.mp k8b
                        refine lv_iload (pc := 142) hx hb dX2_addLigature_142 (lv_at hl 1 rfl) ?_
                        refine lv_iconst (v := 3) (pc := 144) hx hb dX2_addLigature_144 (by decide) ?_
                        refine lv_icmp_ne (tgt := 152) (pc := 145) hx hb dX2_addLigature_145 (by decide) (fun c_113 => ?_) (fun c_113 => ?_)
                        · refine lv_iload (pc := 152) hx hb dX2_addLigature_152 (lv_at hl 0 rfl) ?_
                          refine k_cong (y := nI (lg2 f0 s0 false z0)) (by unfold lg2; rw [k8b]; rfl) ?_
                          refine lv_iload_n (pc := 154) hx hb dX2_addLigature_154 rfl (lv_at hl 5 rfl) ?_
                          refine lv_iconst (v := 0) (pc := 155) hx hb dX2_addLigature_155 (by decide) ?_
                          refine lv_iconst (v := 1) (pc := 156) hx hb dX2_addLigature_156 (by decide) ?_
                          refine va_callv (pc := 157) (va_runV (As := [.int (nI v), .int (nI (lg2 f0 s0 false z0)), .int s0, .int 0, .int 1]) (rest := []) ⟨hx, hb, hml, hown, hts⟩ (cX2_put_m l g A (apS σ v (lg1 f0 s0 z0) f0 false 0) rest 0 mi ti v (lg2 f0 s0 false z0) s0 false 1 hvv4 (by simp only [sC_apS, up1_s]; omega)) (cwV 5 hts gX2_addLigature_X2_put rfl rfl rfl (by decide +kernel) ⟨Nat.le_of_ble_eq_true rfl, Nat.le_of_ble_eq_true rfl⟩) (cx_V (q0 := 0) (ci := 2) (r := (RX2, TX2, 11)) rfl (ma0 g (apS σ v (lg1 f0 s0 z0) f0 false 0) 0 mi ti rest) hP hD hA hK hX hS) rfl rfl hl.1 rfl (lv_room (Nat.le_of_ble_eq_true rfl)) dX2_addLigature_157 ⟨Nat.le_of_ble_eq_true rfl, Nat.le_of_ble_eq_true rfl⟩) hS (fun _ _ h => h) (fun _ h => h) (fun u115 t115 H115 locs115 ht115 hvm115 hw115 hB115 hz115 hk115 hS => ?_)
                          obtain ⟨hP, hD⟩ := hB115
                          rw [ht115] at hP
                          refine lv_iload (pc := 160) hx hb dX2_addLigature_160 (lv_at hl 1 rfl) ?_
                          refine lv_iconst (v := 3) (pc := 162) hx hb dX2_addLigature_162 (by decide) ?_
                          refine lv_icmp_ne (tgt := 186) (pc := 163) hx hb dX2_addLigature_163 (by decide) (fun c_116 => ?_) (fun c_116 => ?_)
                          · refine lv_aload_n (pc := 186) hx hb dX2_addLigature_186 rfl (lv_at hl 2 rfl) ?_
                            refine va_get (v := .ref (gB g 0)) (pc := 187) (D := gD g) (ci := 2) (C := RX2) (T := TX2) (N := 11) hx hb hts hinX2 hown hK hP 0 (ma0 g (apS (apS σ v (lg1 f0 s0 z0) f0 false 0) v (lg2 f0 s0 false z0) s0 false 1) 0 mi ti rest) rfl 2 (by decide) (hts (.fieldLink RX2 9 "ChoirNotesModel" "many" "[I") (by decide +kernel)) (fun _ h9 => h9) rfl dX2_addLigature_187 ?_
                            refine lv_iload_n (pc := 190) hx hb dX2_addLigature_190 rfl (lv_at hl 3 rfl) ?_
                            refine k_iald (pc := 191) (x := nI (sC σ v + 1 + 1)) hx hb hK hP 1 0 (ma1 g (apS (apS σ v (lg1 f0 s0 z0) f0 false 0) v (lg2 f0 s0 false z0) s0 false 1) 0 mi ti rest) rfl v rfl (by omega) (by decide) (congrArg nI (by simp only [sC_apS, up1_s])) dX2_addLigature_191 ?_
                            refine lv_iload (pc := 192) hx hb dX2_addLigature_192 (lv_at hl 1 rfl) ?_
                            refine lv_isub (pc := 194) hx hb dX2_addLigature_194 ?_
                            refine k_cong (y := nI (sC σ v)) (pk_sub (a := sC σ v + 1 + 1) (b := 2) (by omega)) ?_
                            have hef : ef_addLigature σ v f0 s0 t0 z0 = (apS (apS σ v (lg1 f0 s0 z0) f0 false 0) v (lg2 f0 s0 false z0) s0 false 1) := by unfold ef_addLigature; rw [if_pos k5]
                            rw [hef]
                            have hcd : cd_addLigature σ (nI v) f0 s0 t0 = 0 := by simp [cd_addLigature, inL, c1, hixv, c2, c3, c4, c5, c6, hroom]
                            rw [hcd]
                            exact W.iret hx hb hr (fun t ht hW => ⟨⟨_, (mi, ti), rfl, (fun _ => rfl), by rw [ht]; exact hP, hD⟩, hS.F ht⟩) hS.2.2 dX2_addLigature_195
                          · exact absurd c_116 (by decide)
                        · exact absurd c_113 (by decide)
                      · have k8b := bI_n0.mp k8b
                        refine lv_iconst (v := 2) (pc := 138) hx hb dX2_addLigature_138 (by decide) ?_
                        refine lv_goto (tgt := 154) (pc := 139) hx hb dX2_addLigature_139 (by decide) ?_
                        refine k_cong (y := nI (lg2 f0 s0 false z0)) (by unfold lg2; rw [k8b]; rfl) ?_
                        refine lv_iload_n (pc := 154) hx hb dX2_addLigature_154 rfl (lv_at hl 5 rfl) ?_
                        refine lv_iconst (v := 0) (pc := 155) hx hb dX2_addLigature_155 (by decide) ?_
                        refine lv_iconst (v := 1) (pc := 156) hx hb dX2_addLigature_156 (by decide) ?_
                        refine va_callv (pc := 157) (va_runV (As := [.int (nI v), .int (nI (lg2 f0 s0 false z0)), .int s0, .int 0, .int 1]) (rest := []) ⟨hx, hb, hml, hown, hts⟩ (cX2_put_m l g A (apS σ v (lg1 f0 s0 z0) f0 false 0) rest 0 mi ti v (lg2 f0 s0 false z0) s0 false 1 hvv4 (by simp only [sC_apS, up1_s]; omega)) (cwV 5 hts gX2_addLigature_X2_put rfl rfl rfl (by decide +kernel) ⟨Nat.le_of_ble_eq_true rfl, Nat.le_of_ble_eq_true rfl⟩) (cx_V (q0 := 0) (ci := 2) (r := (RX2, TX2, 11)) rfl (ma0 g (apS σ v (lg1 f0 s0 z0) f0 false 0) 0 mi ti rest) hP hD hA hK hX hS) rfl rfl hl.1 rfl (lv_room (Nat.le_of_ble_eq_true rfl)) dX2_addLigature_157 ⟨Nat.le_of_ble_eq_true rfl, Nat.le_of_ble_eq_true rfl⟩) hS (fun _ _ h => h) (fun _ h => h) (fun u118 t118 H118 locs118 ht118 hvm118 hw118 hB118 hz118 hk118 hS => ?_)
                        obtain ⟨hP, hD⟩ := hB118
                        rw [ht118] at hP
                        refine lv_iload (pc := 160) hx hb dX2_addLigature_160 (lv_at hl 1 rfl) ?_
                        refine lv_iconst (v := 3) (pc := 162) hx hb dX2_addLigature_162 (by decide) ?_
                        refine lv_icmp_ne (tgt := 186) (pc := 163) hx hb dX2_addLigature_163 (by decide) (fun c_119 => ?_) (fun c_119 => ?_)
                        · refine lv_aload_n (pc := 186) hx hb dX2_addLigature_186 rfl (lv_at hl 2 rfl) ?_
                          refine va_get (v := .ref (gB g 0)) (pc := 187) (D := gD g) (ci := 2) (C := RX2) (T := TX2) (N := 11) hx hb hts hinX2 hown hK hP 0 (ma0 g (apS (apS σ v (lg1 f0 s0 z0) f0 false 0) v (lg2 f0 s0 false z0) s0 false 1) 0 mi ti rest) rfl 2 (by decide) (hts (.fieldLink RX2 9 "ChoirNotesModel" "many" "[I") (by decide +kernel)) (fun _ h9 => h9) rfl dX2_addLigature_187 ?_
                          refine lv_iload_n (pc := 190) hx hb dX2_addLigature_190 rfl (lv_at hl 3 rfl) ?_
                          refine k_iald (pc := 191) (x := nI (sC σ v + 1 + 1)) hx hb hK hP 1 0 (ma1 g (apS (apS σ v (lg1 f0 s0 z0) f0 false 0) v (lg2 f0 s0 false z0) s0 false 1) 0 mi ti rest) rfl v rfl (by omega) (by decide) (congrArg nI (by simp only [sC_apS, up1_s])) dX2_addLigature_191 ?_
                          refine lv_iload (pc := 192) hx hb dX2_addLigature_192 (lv_at hl 1 rfl) ?_
                          refine lv_isub (pc := 194) hx hb dX2_addLigature_194 ?_
                          refine k_cong (y := nI (sC σ v)) (pk_sub (a := sC σ v + 1 + 1) (b := 2) (by omega)) ?_
                          have hef : ef_addLigature σ v f0 s0 t0 z0 = (apS (apS σ v (lg1 f0 s0 z0) f0 false 0) v (lg2 f0 s0 false z0) s0 false 1) := by unfold ef_addLigature; rw [if_pos k5]
                          rw [hef]
                          have hcd : cd_addLigature σ (nI v) f0 s0 t0 = 0 := by simp [cd_addLigature, inL, c1, hixv, c2, c3, c4, c5, c6, hroom]
                          rw [hcd]
                          exact W.iret hx hb hr (fun t ht hW => ⟨⟨_, (mi, ti), rfl, (fun _ => rfl), by rw [ht]; exact hP, hD⟩, hS.F ht⟩) hS.2.2 dX2_addLigature_195
                        · exact absurd c_119 (by decide)
                    · have k8 := bI_n0.mp k8
                      refine lv_iconst (v := 2) (pc := 119) hx hb dX2_addLigature_119 (by decide) ?_
                      refine lv_goto (tgt := 125) (pc := 120) hx hb dX2_addLigature_120 (by decide) ?_
                      refine k_cong (y := nI (lg1 f0 s0 z0)) (by unfold lg1; rw [k8]; rfl) ?_
                      refine lv_iload_n (pc := 125) hx hb dX2_addLigature_125 rfl (lv_at hl 4 rfl) ?_
                      refine lv_iconst (v := 0) (pc := 126) hx hb dX2_addLigature_126 (by decide) ?_
                      refine lv_iconst (v := 0) (pc := 127) hx hb dX2_addLigature_127 (by decide) ?_
                      refine va_callv (pc := 128) (va_runV (As := [.int (nI v), .int (nI (lg1 f0 s0 z0)), .int f0, .int 0, .int 0]) (rest := []) ⟨hx, hb, hml, hown, hts⟩ (cX2_put_m l g A σ rest 0 mi ti v (lg1 f0 s0 z0) f0 false 0 hvv4 (by omega)) (cwV 5 hts gX2_addLigature_X2_put rfl rfl rfl (by decide +kernel) ⟨Nat.le_of_ble_eq_true rfl, Nat.le_of_ble_eq_true rfl⟩) (cx_V (q0 := 0) (ci := 2) (r := (RX2, TX2, 11)) rfl (ma0 g σ 0 mi ti rest) hP hD hA hK hX hS) rfl rfl hl.1 rfl (lv_room (Nat.le_of_ble_eq_true rfl)) dX2_addLigature_128 ⟨Nat.le_of_ble_eq_true rfl, Nat.le_of_ble_eq_true rfl⟩) hS (fun _ _ h => h) (fun _ h => h) (fun u121 t121 H121 locs121 ht121 hvm121 hw121 hB121 hz121 hk121 hS => ?_)
                      obtain ⟨hP, hD⟩ := hB121
                      rw [ht121] at hP
                      refine lv_aload_n (pc := 131) hx hb dX2_addLigature_131 rfl (lv_at hl 2 rfl) ?_
                      refine lv_iload_n (pc := 132) hx hb dX2_addLigature_132 rfl (lv_at hl 3 rfl) ?_
                      refine lv_iload (pc := 133) hx hb dX2_addLigature_133 (lv_at hl 7 rfl) ?_
                      refine lv_if_eq (tgt := 142) (pc := 135) hx hb dX2_addLigature_135 (by decide) (fun k8b => ?_) (fun k8b => ?_)
                      · have k8b := bI_0.mp k8b
                        refine lv_iload (pc := 142) hx hb dX2_addLigature_142 (lv_at hl 1 rfl) ?_
                        refine lv_iconst (v := 3) (pc := 144) hx hb dX2_addLigature_144 (by decide) ?_
                        refine lv_icmp_ne (tgt := 152) (pc := 145) hx hb dX2_addLigature_145 (by decide) (fun c_123 => ?_) (fun c_123 => ?_)
                        · refine lv_iload (pc := 152) hx hb dX2_addLigature_152 (lv_at hl 0 rfl) ?_
                          refine k_cong (y := nI (lg2 f0 s0 false z0)) (by unfold lg2; rw [k8b]; rfl) ?_
                          refine lv_iload_n (pc := 154) hx hb dX2_addLigature_154 rfl (lv_at hl 5 rfl) ?_
                          refine lv_iconst (v := 0) (pc := 155) hx hb dX2_addLigature_155 (by decide) ?_
                          refine lv_iconst (v := 1) (pc := 156) hx hb dX2_addLigature_156 (by decide) ?_
                          refine va_callv (pc := 157) (va_runV (As := [.int (nI v), .int (nI (lg2 f0 s0 false z0)), .int s0, .int 0, .int 1]) (rest := []) ⟨hx, hb, hml, hown, hts⟩ (cX2_put_m l g A (apS σ v (lg1 f0 s0 z0) f0 false 0) rest 0 mi ti v (lg2 f0 s0 false z0) s0 false 1 hvv4 (by simp only [sC_apS, up1_s]; omega)) (cwV 5 hts gX2_addLigature_X2_put rfl rfl rfl (by decide +kernel) ⟨Nat.le_of_ble_eq_true rfl, Nat.le_of_ble_eq_true rfl⟩) (cx_V (q0 := 0) (ci := 2) (r := (RX2, TX2, 11)) rfl (ma0 g (apS σ v (lg1 f0 s0 z0) f0 false 0) 0 mi ti rest) hP hD hA hK hX hS) rfl rfl hl.1 rfl (lv_room (Nat.le_of_ble_eq_true rfl)) dX2_addLigature_157 ⟨Nat.le_of_ble_eq_true rfl, Nat.le_of_ble_eq_true rfl⟩) hS (fun _ _ h => h) (fun _ h => h) (fun u125 t125 H125 locs125 ht125 hvm125 hw125 hB125 hz125 hk125 hS => ?_)
                          obtain ⟨hP, hD⟩ := hB125
                          rw [ht125] at hP
                          refine lv_iload (pc := 160) hx hb dX2_addLigature_160 (lv_at hl 1 rfl) ?_
                          refine lv_iconst (v := 3) (pc := 162) hx hb dX2_addLigature_162 (by decide) ?_
                          refine lv_icmp_ne (tgt := 186) (pc := 163) hx hb dX2_addLigature_163 (by decide) (fun c_126 => ?_) (fun c_126 => ?_)
                          · refine lv_aload_n (pc := 186) hx hb dX2_addLigature_186 rfl (lv_at hl 2 rfl) ?_
                            refine va_get (v := .ref (gB g 0)) (pc := 187) (D := gD g) (ci := 2) (C := RX2) (T := TX2) (N := 11) hx hb hts hinX2 hown hK hP 0 (ma0 g (apS (apS σ v (lg1 f0 s0 z0) f0 false 0) v (lg2 f0 s0 false z0) s0 false 1) 0 mi ti rest) rfl 2 (by decide) (hts (.fieldLink RX2 9 "ChoirNotesModel" "many" "[I") (by decide +kernel)) (fun _ h9 => h9) rfl dX2_addLigature_187 ?_
                            refine lv_iload_n (pc := 190) hx hb dX2_addLigature_190 rfl (lv_at hl 3 rfl) ?_
                            refine k_iald (pc := 191) (x := nI (sC σ v + 1 + 1)) hx hb hK hP 1 0 (ma1 g (apS (apS σ v (lg1 f0 s0 z0) f0 false 0) v (lg2 f0 s0 false z0) s0 false 1) 0 mi ti rest) rfl v rfl (by omega) (by decide) (congrArg nI (by simp only [sC_apS, up1_s])) dX2_addLigature_191 ?_
                            refine lv_iload (pc := 192) hx hb dX2_addLigature_192 (lv_at hl 1 rfl) ?_
                            refine lv_isub (pc := 194) hx hb dX2_addLigature_194 ?_
                            refine k_cong (y := nI (sC σ v)) (pk_sub (a := sC σ v + 1 + 1) (b := 2) (by omega)) ?_
                            have hef : ef_addLigature σ v f0 s0 t0 z0 = (apS (apS σ v (lg1 f0 s0 z0) f0 false 0) v (lg2 f0 s0 false z0) s0 false 1) := by unfold ef_addLigature; rw [if_pos k5]
                            rw [hef]
                            have hcd : cd_addLigature σ (nI v) f0 s0 t0 = 0 := by simp [cd_addLigature, inL, c1, hixv, c2, c3, c4, c5, c6, hroom]
                            rw [hcd]
                            exact W.iret hx hb hr (fun t ht hW => ⟨⟨_, (mi, ti), rfl, (fun _ => rfl), by rw [ht]; exact hP, hD⟩, hS.F ht⟩) hS.2.2 dX2_addLigature_195
                          · exact absurd c_126 (by decide)
                        · exact absurd c_123 (by decide)
                      · have k8b := bI_n0.mp k8b
                        refine lv_iconst (v := 2) (pc := 138) hx hb dX2_addLigature_138 (by decide) ?_
                        refine lv_goto (tgt := 154) (pc := 139) hx hb dX2_addLigature_139 (by decide) ?_
                        refine k_cong (y := nI (lg2 f0 s0 false z0)) (by unfold lg2; rw [k8b]; rfl) ?_
                        refine lv_iload_n (pc := 154) hx hb dX2_addLigature_154 rfl (lv_at hl 5 rfl) ?_
                        refine lv_iconst (v := 0) (pc := 155) hx hb dX2_addLigature_155 (by decide) ?_
                        refine lv_iconst (v := 1) (pc := 156) hx hb dX2_addLigature_156 (by decide) ?_
                        refine va_callv (pc := 157) (va_runV (As := [.int (nI v), .int (nI (lg2 f0 s0 false z0)), .int s0, .int 0, .int 1]) (rest := []) ⟨hx, hb, hml, hown, hts⟩ (cX2_put_m l g A (apS σ v (lg1 f0 s0 z0) f0 false 0) rest 0 mi ti v (lg2 f0 s0 false z0) s0 false 1 hvv4 (by simp only [sC_apS, up1_s]; omega)) (cwV 5 hts gX2_addLigature_X2_put rfl rfl rfl (by decide +kernel) ⟨Nat.le_of_ble_eq_true rfl, Nat.le_of_ble_eq_true rfl⟩) (cx_V (q0 := 0) (ci := 2) (r := (RX2, TX2, 11)) rfl (ma0 g (apS σ v (lg1 f0 s0 z0) f0 false 0) 0 mi ti rest) hP hD hA hK hX hS) rfl rfl hl.1 rfl (lv_room (Nat.le_of_ble_eq_true rfl)) dX2_addLigature_157 ⟨Nat.le_of_ble_eq_true rfl, Nat.le_of_ble_eq_true rfl⟩) hS (fun _ _ h => h) (fun _ h => h) (fun u128 t128 H128 locs128 ht128 hvm128 hw128 hB128 hz128 hk128 hS => ?_)
                        obtain ⟨hP, hD⟩ := hB128
                        rw [ht128] at hP
                        refine lv_iload (pc := 160) hx hb dX2_addLigature_160 (lv_at hl 1 rfl) ?_
                        refine lv_iconst (v := 3) (pc := 162) hx hb dX2_addLigature_162 (by decide) ?_
                        refine lv_icmp_ne (tgt := 186) (pc := 163) hx hb dX2_addLigature_163 (by decide) (fun c_129 => ?_) (fun c_129 => ?_)
                        · refine lv_aload_n (pc := 186) hx hb dX2_addLigature_186 rfl (lv_at hl 2 rfl) ?_
                          refine va_get (v := .ref (gB g 0)) (pc := 187) (D := gD g) (ci := 2) (C := RX2) (T := TX2) (N := 11) hx hb hts hinX2 hown hK hP 0 (ma0 g (apS (apS σ v (lg1 f0 s0 z0) f0 false 0) v (lg2 f0 s0 false z0) s0 false 1) 0 mi ti rest) rfl 2 (by decide) (hts (.fieldLink RX2 9 "ChoirNotesModel" "many" "[I") (by decide +kernel)) (fun _ h9 => h9) rfl dX2_addLigature_187 ?_
                          refine lv_iload_n (pc := 190) hx hb dX2_addLigature_190 rfl (lv_at hl 3 rfl) ?_
                          refine k_iald (pc := 191) (x := nI (sC σ v + 1 + 1)) hx hb hK hP 1 0 (ma1 g (apS (apS σ v (lg1 f0 s0 z0) f0 false 0) v (lg2 f0 s0 false z0) s0 false 1) 0 mi ti rest) rfl v rfl (by omega) (by decide) (congrArg nI (by simp only [sC_apS, up1_s])) dX2_addLigature_191 ?_
                          refine lv_iload (pc := 192) hx hb dX2_addLigature_192 (lv_at hl 1 rfl) ?_
                          refine lv_isub (pc := 194) hx hb dX2_addLigature_194 ?_
                          refine k_cong (y := nI (sC σ v)) (pk_sub (a := sC σ v + 1 + 1) (b := 2) (by omega)) ?_
                          have hef : ef_addLigature σ v f0 s0 t0 z0 = (apS (apS σ v (lg1 f0 s0 z0) f0 false 0) v (lg2 f0 s0 false z0) s0 false 1) := by unfold ef_addLigature; rw [if_pos k5]
                          rw [hef]
                          have hcd : cd_addLigature σ (nI v) f0 s0 t0 = 0 := by simp [cd_addLigature, inL, c1, hixv, c2, c3, c4, c5, c6, hroom]
                          rw [hcd]
                          exact W.iret hx hb hr (fun t ht hW => ⟨⟨_, (mi, ti), rfl, (fun _ => rfl), by rw [ht]; exact hP, hD⟩, hS.F ht⟩) hS.2.2 dX2_addLigature_195
                        · exact absurd c_129 (by decide)
                  · refine lv_iconst (v := 0) (pc := 105) hx hb dX2_addLigature_105 (by decide) ?_
                    refine lv_goto (tgt := 110) (pc := 106) hx hb dX2_addLigature_106 (by decide) ?_
                    refine k_cong (y := nI (lk f0 s0)) (by unfold lk; first | (rw [if_pos (Int32.not_le.mp k7)]; rfl) | (rw [if_neg (Int32.not_lt.mpr k7)]; rfl)) ?_
                    refine lv_istore (lv' := [(7, .int (nI (lk f0 s0))), (6, .int 2), (0, .ref (gM g)), (1, .int (nI v)), (2, .int f0), (3, .int s0), (4, .int t0), (5, .int (bI z0))]) (pc := 110) hx hb dX2_addLigature_110 hl (by decide) rfl (fun ls hl => ?_)
                    refine lv_aload_n (pc := 112) hx hb dX2_addLigature_112 rfl (lv_at hl 2 rfl) ?_
                    refine lv_iload_n (pc := 113) hx hb dX2_addLigature_113 rfl (lv_at hl 3 rfl) ?_
                    refine lv_iload (pc := 114) hx hb dX2_addLigature_114 (lv_at hl 7 rfl) ?_
                    refine lv_if_eq (tgt := 123) (pc := 116) hx hb dX2_addLigature_116 (by decide) (fun k8 => ?_) (fun k8 => ?_)
                    · have k8 := bI_0.mp k8
                      refine lv_iload (pc := 123) hx hb dX2_addLigature_123 (lv_at hl 0 rfl) ?_
                      refine k_cong (y := nI (lg1 f0 s0 z0)) (by unfold lg1; rw [k8]; rfl) ?_
                      refine lv_iload_n (pc := 125) hx hb dX2_addLigature_125 rfl (lv_at hl 4 rfl) ?_
                      refine lv_iconst (v := 0) (pc := 126) hx hb dX2_addLigature_126 (by decide) ?_
                      refine lv_iconst (v := 0) (pc := 127) hx hb dX2_addLigature_127 (by decide) ?_
                      refine va_callv (pc := 128) (va_runV (As := [.int (nI v), .int (nI (lg1 f0 s0 z0)), .int f0, .int 0, .int 0]) (rest := []) ⟨hx, hb, hml, hown, hts⟩ (cX2_put_m l g A σ rest 0 mi ti v (lg1 f0 s0 z0) f0 false 0 hvv4 (by omega)) (cwV 5 hts gX2_addLigature_X2_put rfl rfl rfl (by decide +kernel) ⟨Nat.le_of_ble_eq_true rfl, Nat.le_of_ble_eq_true rfl⟩) (cx_V (q0 := 0) (ci := 2) (r := (RX2, TX2, 11)) rfl (ma0 g σ 0 mi ti rest) hP hD hA hK hX hS) rfl rfl hl.1 rfl (lv_room (Nat.le_of_ble_eq_true rfl)) dX2_addLigature_128 ⟨Nat.le_of_ble_eq_true rfl, Nat.le_of_ble_eq_true rfl⟩) hS (fun _ _ h => h) (fun _ h => h) (fun u132 t132 H132 locs132 ht132 hvm132 hw132 hB132 hz132 hk132 hS => ?_)
                      obtain ⟨hP, hD⟩ := hB132
                      rw [ht132] at hP
                      refine lv_aload_n (pc := 131) hx hb dX2_addLigature_131 rfl (lv_at hl 2 rfl) ?_
                      refine lv_iload_n (pc := 132) hx hb dX2_addLigature_132 rfl (lv_at hl 3 rfl) ?_
                      refine lv_iload (pc := 133) hx hb dX2_addLigature_133 (lv_at hl 7 rfl) ?_
                      refine lv_if_eq (tgt := 142) (pc := 135) hx hb dX2_addLigature_135 (by decide) (fun k8b => ?_) (fun k8b => ?_)
                      · have k8b := bI_0.mp k8b
                        refine lv_iload (pc := 142) hx hb dX2_addLigature_142 (lv_at hl 1 rfl) ?_
                        refine lv_iconst (v := 3) (pc := 144) hx hb dX2_addLigature_144 (by decide) ?_
                        refine lv_icmp_ne (tgt := 152) (pc := 145) hx hb dX2_addLigature_145 (by decide) (fun c_134 => ?_) (fun c_134 => ?_)
                        · refine lv_iload (pc := 152) hx hb dX2_addLigature_152 (lv_at hl 0 rfl) ?_
                          refine k_cong (y := nI (lg2 f0 s0 false z0)) (by unfold lg2; rw [k8b]; rfl) ?_
                          refine lv_iload_n (pc := 154) hx hb dX2_addLigature_154 rfl (lv_at hl 5 rfl) ?_
                          refine lv_iconst (v := 0) (pc := 155) hx hb dX2_addLigature_155 (by decide) ?_
                          refine lv_iconst (v := 1) (pc := 156) hx hb dX2_addLigature_156 (by decide) ?_
                          refine va_callv (pc := 157) (va_runV (As := [.int (nI v), .int (nI (lg2 f0 s0 false z0)), .int s0, .int 0, .int 1]) (rest := []) ⟨hx, hb, hml, hown, hts⟩ (cX2_put_m l g A (apS σ v (lg1 f0 s0 z0) f0 false 0) rest 0 mi ti v (lg2 f0 s0 false z0) s0 false 1 hvv4 (by simp only [sC_apS, up1_s]; omega)) (cwV 5 hts gX2_addLigature_X2_put rfl rfl rfl (by decide +kernel) ⟨Nat.le_of_ble_eq_true rfl, Nat.le_of_ble_eq_true rfl⟩) (cx_V (q0 := 0) (ci := 2) (r := (RX2, TX2, 11)) rfl (ma0 g (apS σ v (lg1 f0 s0 z0) f0 false 0) 0 mi ti rest) hP hD hA hK hX hS) rfl rfl hl.1 rfl (lv_room (Nat.le_of_ble_eq_true rfl)) dX2_addLigature_157 ⟨Nat.le_of_ble_eq_true rfl, Nat.le_of_ble_eq_true rfl⟩) hS (fun _ _ h => h) (fun _ h => h) (fun u136 t136 H136 locs136 ht136 hvm136 hw136 hB136 hz136 hk136 hS => ?_)
                          obtain ⟨hP, hD⟩ := hB136
                          rw [ht136] at hP
                          refine lv_iload (pc := 160) hx hb dX2_addLigature_160 (lv_at hl 1 rfl) ?_
                          refine lv_iconst (v := 3) (pc := 162) hx hb dX2_addLigature_162 (by decide) ?_
                          refine lv_icmp_ne (tgt := 186) (pc := 163) hx hb dX2_addLigature_163 (by decide) (fun c_137 => ?_) (fun c_137 => ?_)
                          · refine lv_aload_n (pc := 186) hx hb dX2_addLigature_186 rfl (lv_at hl 2 rfl) ?_
                            refine va_get (v := .ref (gB g 0)) (pc := 187) (D := gD g) (ci := 2) (C := RX2) (T := TX2) (N := 11) hx hb hts hinX2 hown hK hP 0 (ma0 g (apS (apS σ v (lg1 f0 s0 z0) f0 false 0) v (lg2 f0 s0 false z0) s0 false 1) 0 mi ti rest) rfl 2 (by decide) (hts (.fieldLink RX2 9 "ChoirNotesModel" "many" "[I") (by decide +kernel)) (fun _ h9 => h9) rfl dX2_addLigature_187 ?_
                            refine lv_iload_n (pc := 190) hx hb dX2_addLigature_190 rfl (lv_at hl 3 rfl) ?_
                            refine k_iald (pc := 191) (x := nI (sC σ v + 1 + 1)) hx hb hK hP 1 0 (ma1 g (apS (apS σ v (lg1 f0 s0 z0) f0 false 0) v (lg2 f0 s0 false z0) s0 false 1) 0 mi ti rest) rfl v rfl (by omega) (by decide) (congrArg nI (by simp only [sC_apS, up1_s])) dX2_addLigature_191 ?_
                            refine lv_iload (pc := 192) hx hb dX2_addLigature_192 (lv_at hl 1 rfl) ?_
                            refine lv_isub (pc := 194) hx hb dX2_addLigature_194 ?_
                            refine k_cong (y := nI (sC σ v)) (pk_sub (a := sC σ v + 1 + 1) (b := 2) (by omega)) ?_
                            have hef : ef_addLigature σ v f0 s0 t0 z0 = (apS (apS σ v (lg1 f0 s0 z0) f0 false 0) v (lg2 f0 s0 false z0) s0 false 1) := by unfold ef_addLigature; rw [if_pos k5]
                            rw [hef]
                            have hcd : cd_addLigature σ (nI v) f0 s0 t0 = 0 := by simp [cd_addLigature, inL, c1, hixv, c2, c3, c4, c5, c6, hroom]
                            rw [hcd]
                            exact W.iret hx hb hr (fun t ht hW => ⟨⟨_, (mi, ti), rfl, (fun _ => rfl), by rw [ht]; exact hP, hD⟩, hS.F ht⟩) hS.2.2 dX2_addLigature_195
                          · exact absurd c_137 (by decide)
                        · exact absurd c_134 (by decide)
                      · have k8b := bI_n0.mp k8b
                        refine lv_iconst (v := 2) (pc := 138) hx hb dX2_addLigature_138 (by decide) ?_
                        refine lv_goto (tgt := 154) (pc := 139) hx hb dX2_addLigature_139 (by decide) ?_
                        refine k_cong (y := nI (lg2 f0 s0 false z0)) (by unfold lg2; rw [k8b]; rfl) ?_
                        refine lv_iload_n (pc := 154) hx hb dX2_addLigature_154 rfl (lv_at hl 5 rfl) ?_
                        refine lv_iconst (v := 0) (pc := 155) hx hb dX2_addLigature_155 (by decide) ?_
                        refine lv_iconst (v := 1) (pc := 156) hx hb dX2_addLigature_156 (by decide) ?_
                        refine va_callv (pc := 157) (va_runV (As := [.int (nI v), .int (nI (lg2 f0 s0 false z0)), .int s0, .int 0, .int 1]) (rest := []) ⟨hx, hb, hml, hown, hts⟩ (cX2_put_m l g A (apS σ v (lg1 f0 s0 z0) f0 false 0) rest 0 mi ti v (lg2 f0 s0 false z0) s0 false 1 hvv4 (by simp only [sC_apS, up1_s]; omega)) (cwV 5 hts gX2_addLigature_X2_put rfl rfl rfl (by decide +kernel) ⟨Nat.le_of_ble_eq_true rfl, Nat.le_of_ble_eq_true rfl⟩) (cx_V (q0 := 0) (ci := 2) (r := (RX2, TX2, 11)) rfl (ma0 g (apS σ v (lg1 f0 s0 z0) f0 false 0) 0 mi ti rest) hP hD hA hK hX hS) rfl rfl hl.1 rfl (lv_room (Nat.le_of_ble_eq_true rfl)) dX2_addLigature_157 ⟨Nat.le_of_ble_eq_true rfl, Nat.le_of_ble_eq_true rfl⟩) hS (fun _ _ h => h) (fun _ h => h) (fun u139 t139 H139 locs139 ht139 hvm139 hw139 hB139 hz139 hk139 hS => ?_)
                        obtain ⟨hP, hD⟩ := hB139
                        rw [ht139] at hP
                        refine lv_iload (pc := 160) hx hb dX2_addLigature_160 (lv_at hl 1 rfl) ?_
                        refine lv_iconst (v := 3) (pc := 162) hx hb dX2_addLigature_162 (by decide) ?_
                        refine lv_icmp_ne (tgt := 186) (pc := 163) hx hb dX2_addLigature_163 (by decide) (fun c_140 => ?_) (fun c_140 => ?_)
                        · refine lv_aload_n (pc := 186) hx hb dX2_addLigature_186 rfl (lv_at hl 2 rfl) ?_
                          refine va_get (v := .ref (gB g 0)) (pc := 187) (D := gD g) (ci := 2) (C := RX2) (T := TX2) (N := 11) hx hb hts hinX2 hown hK hP 0 (ma0 g (apS (apS σ v (lg1 f0 s0 z0) f0 false 0) v (lg2 f0 s0 false z0) s0 false 1) 0 mi ti rest) rfl 2 (by decide) (hts (.fieldLink RX2 9 "ChoirNotesModel" "many" "[I") (by decide +kernel)) (fun _ h9 => h9) rfl dX2_addLigature_187 ?_
                          refine lv_iload_n (pc := 190) hx hb dX2_addLigature_190 rfl (lv_at hl 3 rfl) ?_
                          refine k_iald (pc := 191) (x := nI (sC σ v + 1 + 1)) hx hb hK hP 1 0 (ma1 g (apS (apS σ v (lg1 f0 s0 z0) f0 false 0) v (lg2 f0 s0 false z0) s0 false 1) 0 mi ti rest) rfl v rfl (by omega) (by decide) (congrArg nI (by simp only [sC_apS, up1_s])) dX2_addLigature_191 ?_
                          refine lv_iload (pc := 192) hx hb dX2_addLigature_192 (lv_at hl 1 rfl) ?_
                          refine lv_isub (pc := 194) hx hb dX2_addLigature_194 ?_
                          refine k_cong (y := nI (sC σ v)) (pk_sub (a := sC σ v + 1 + 1) (b := 2) (by omega)) ?_
                          have hef : ef_addLigature σ v f0 s0 t0 z0 = (apS (apS σ v (lg1 f0 s0 z0) f0 false 0) v (lg2 f0 s0 false z0) s0 false 1) := by unfold ef_addLigature; rw [if_pos k5]
                          rw [hef]
                          have hcd : cd_addLigature σ (nI v) f0 s0 t0 = 0 := by simp [cd_addLigature, inL, c1, hixv, c2, c3, c4, c5, c6, hroom]
                          rw [hcd]
                          exact W.iret hx hb hr (fun t ht hW => ⟨⟨_, (mi, ti), rfl, (fun _ => rfl), by rw [ht]; exact hP, hD⟩, hS.F ht⟩) hS.2.2 dX2_addLigature_195
                        · exact absurd c_140 (by decide)
                    · have k8 := bI_n0.mp k8
                      refine lv_iconst (v := 2) (pc := 119) hx hb dX2_addLigature_119 (by decide) ?_
                      refine lv_goto (tgt := 125) (pc := 120) hx hb dX2_addLigature_120 (by decide) ?_
                      refine k_cong (y := nI (lg1 f0 s0 z0)) (by unfold lg1; rw [k8]; rfl) ?_
                      refine lv_iload_n (pc := 125) hx hb dX2_addLigature_125 rfl (lv_at hl 4 rfl) ?_
                      refine lv_iconst (v := 0) (pc := 126) hx hb dX2_addLigature_126 (by decide) ?_
                      refine lv_iconst (v := 0) (pc := 127) hx hb dX2_addLigature_127 (by decide) ?_
                      refine va_callv (pc := 128) (va_runV (As := [.int (nI v), .int (nI (lg1 f0 s0 z0)), .int f0, .int 0, .int 0]) (rest := []) ⟨hx, hb, hml, hown, hts⟩ (cX2_put_m l g A σ rest 0 mi ti v (lg1 f0 s0 z0) f0 false 0 hvv4 (by omega)) (cwV 5 hts gX2_addLigature_X2_put rfl rfl rfl (by decide +kernel) ⟨Nat.le_of_ble_eq_true rfl, Nat.le_of_ble_eq_true rfl⟩) (cx_V (q0 := 0) (ci := 2) (r := (RX2, TX2, 11)) rfl (ma0 g σ 0 mi ti rest) hP hD hA hK hX hS) rfl rfl hl.1 rfl (lv_room (Nat.le_of_ble_eq_true rfl)) dX2_addLigature_128 ⟨Nat.le_of_ble_eq_true rfl, Nat.le_of_ble_eq_true rfl⟩) hS (fun _ _ h => h) (fun _ h => h) (fun u142 t142 H142 locs142 ht142 hvm142 hw142 hB142 hz142 hk142 hS => ?_)
                      obtain ⟨hP, hD⟩ := hB142
                      rw [ht142] at hP
                      refine lv_aload_n (pc := 131) hx hb dX2_addLigature_131 rfl (lv_at hl 2 rfl) ?_
                      refine lv_iload_n (pc := 132) hx hb dX2_addLigature_132 rfl (lv_at hl 3 rfl) ?_
                      refine lv_iload (pc := 133) hx hb dX2_addLigature_133 (lv_at hl 7 rfl) ?_
                      refine lv_if_eq (tgt := 142) (pc := 135) hx hb dX2_addLigature_135 (by decide) (fun k8b => ?_) (fun k8b => ?_)
                      · have k8b := bI_0.mp k8b
                        refine lv_iload (pc := 142) hx hb dX2_addLigature_142 (lv_at hl 1 rfl) ?_
                        refine lv_iconst (v := 3) (pc := 144) hx hb dX2_addLigature_144 (by decide) ?_
                        refine lv_icmp_ne (tgt := 152) (pc := 145) hx hb dX2_addLigature_145 (by decide) (fun c_144 => ?_) (fun c_144 => ?_)
                        · refine lv_iload (pc := 152) hx hb dX2_addLigature_152 (lv_at hl 0 rfl) ?_
                          refine k_cong (y := nI (lg2 f0 s0 false z0)) (by unfold lg2; rw [k8b]; rfl) ?_
                          refine lv_iload_n (pc := 154) hx hb dX2_addLigature_154 rfl (lv_at hl 5 rfl) ?_
                          refine lv_iconst (v := 0) (pc := 155) hx hb dX2_addLigature_155 (by decide) ?_
                          refine lv_iconst (v := 1) (pc := 156) hx hb dX2_addLigature_156 (by decide) ?_
                          refine va_callv (pc := 157) (va_runV (As := [.int (nI v), .int (nI (lg2 f0 s0 false z0)), .int s0, .int 0, .int 1]) (rest := []) ⟨hx, hb, hml, hown, hts⟩ (cX2_put_m l g A (apS σ v (lg1 f0 s0 z0) f0 false 0) rest 0 mi ti v (lg2 f0 s0 false z0) s0 false 1 hvv4 (by simp only [sC_apS, up1_s]; omega)) (cwV 5 hts gX2_addLigature_X2_put rfl rfl rfl (by decide +kernel) ⟨Nat.le_of_ble_eq_true rfl, Nat.le_of_ble_eq_true rfl⟩) (cx_V (q0 := 0) (ci := 2) (r := (RX2, TX2, 11)) rfl (ma0 g (apS σ v (lg1 f0 s0 z0) f0 false 0) 0 mi ti rest) hP hD hA hK hX hS) rfl rfl hl.1 rfl (lv_room (Nat.le_of_ble_eq_true rfl)) dX2_addLigature_157 ⟨Nat.le_of_ble_eq_true rfl, Nat.le_of_ble_eq_true rfl⟩) hS (fun _ _ h => h) (fun _ h => h) (fun u146 t146 H146 locs146 ht146 hvm146 hw146 hB146 hz146 hk146 hS => ?_)
                          obtain ⟨hP, hD⟩ := hB146
                          rw [ht146] at hP
                          refine lv_iload (pc := 160) hx hb dX2_addLigature_160 (lv_at hl 1 rfl) ?_
                          refine lv_iconst (v := 3) (pc := 162) hx hb dX2_addLigature_162 (by decide) ?_
                          refine lv_icmp_ne (tgt := 186) (pc := 163) hx hb dX2_addLigature_163 (by decide) (fun c_147 => ?_) (fun c_147 => ?_)
                          · refine lv_aload_n (pc := 186) hx hb dX2_addLigature_186 rfl (lv_at hl 2 rfl) ?_
                            refine va_get (v := .ref (gB g 0)) (pc := 187) (D := gD g) (ci := 2) (C := RX2) (T := TX2) (N := 11) hx hb hts hinX2 hown hK hP 0 (ma0 g (apS (apS σ v (lg1 f0 s0 z0) f0 false 0) v (lg2 f0 s0 false z0) s0 false 1) 0 mi ti rest) rfl 2 (by decide) (hts (.fieldLink RX2 9 "ChoirNotesModel" "many" "[I") (by decide +kernel)) (fun _ h9 => h9) rfl dX2_addLigature_187 ?_
                            refine lv_iload_n (pc := 190) hx hb dX2_addLigature_190 rfl (lv_at hl 3 rfl) ?_
                            refine k_iald (pc := 191) (x := nI (sC σ v + 1 + 1)) hx hb hK hP 1 0 (ma1 g (apS (apS σ v (lg1 f0 s0 z0) f0 false 0) v (lg2 f0 s0 false z0) s0 false 1) 0 mi ti rest) rfl v rfl (by omega) (by decide) (congrArg nI (by simp only [sC_apS, up1_s])) dX2_addLigature_191 ?_
                            refine lv_iload (pc := 192) hx hb dX2_addLigature_192 (lv_at hl 1 rfl) ?_
                            refine lv_isub (pc := 194) hx hb dX2_addLigature_194 ?_
                            refine k_cong (y := nI (sC σ v)) (pk_sub (a := sC σ v + 1 + 1) (b := 2) (by omega)) ?_
                            have hef : ef_addLigature σ v f0 s0 t0 z0 = (apS (apS σ v (lg1 f0 s0 z0) f0 false 0) v (lg2 f0 s0 false z0) s0 false 1) := by unfold ef_addLigature; rw [if_pos k5]
                            rw [hef]
                            have hcd : cd_addLigature σ (nI v) f0 s0 t0 = 0 := by simp [cd_addLigature, inL, c1, hixv, c2, c3, c4, c5, c6, hroom]
                            rw [hcd]
                            exact W.iret hx hb hr (fun t ht hW => ⟨⟨_, (mi, ti), rfl, (fun _ => rfl), by rw [ht]; exact hP, hD⟩, hS.F ht⟩) hS.2.2 dX2_addLigature_195
                          · exact absurd c_147 (by decide)
                        · exact absurd c_144 (by decide)
                      · have k8b := bI_n0.mp k8b
                        refine lv_iconst (v := 2) (pc := 138) hx hb dX2_addLigature_138 (by decide) ?_
                        refine lv_goto (tgt := 154) (pc := 139) hx hb dX2_addLigature_139 (by decide) ?_
                        refine k_cong (y := nI (lg2 f0 s0 false z0)) (by unfold lg2; rw [k8b]; rfl) ?_
                        refine lv_iload_n (pc := 154) hx hb dX2_addLigature_154 rfl (lv_at hl 5 rfl) ?_
                        refine lv_iconst (v := 0) (pc := 155) hx hb dX2_addLigature_155 (by decide) ?_
                        refine lv_iconst (v := 1) (pc := 156) hx hb dX2_addLigature_156 (by decide) ?_
                        refine va_callv (pc := 157) (va_runV (As := [.int (nI v), .int (nI (lg2 f0 s0 false z0)), .int s0, .int 0, .int 1]) (rest := []) ⟨hx, hb, hml, hown, hts⟩ (cX2_put_m l g A (apS σ v (lg1 f0 s0 z0) f0 false 0) rest 0 mi ti v (lg2 f0 s0 false z0) s0 false 1 hvv4 (by simp only [sC_apS, up1_s]; omega)) (cwV 5 hts gX2_addLigature_X2_put rfl rfl rfl (by decide +kernel) ⟨Nat.le_of_ble_eq_true rfl, Nat.le_of_ble_eq_true rfl⟩) (cx_V (q0 := 0) (ci := 2) (r := (RX2, TX2, 11)) rfl (ma0 g (apS σ v (lg1 f0 s0 z0) f0 false 0) 0 mi ti rest) hP hD hA hK hX hS) rfl rfl hl.1 rfl (lv_room (Nat.le_of_ble_eq_true rfl)) dX2_addLigature_157 ⟨Nat.le_of_ble_eq_true rfl, Nat.le_of_ble_eq_true rfl⟩) hS (fun _ _ h => h) (fun _ h => h) (fun u149 t149 H149 locs149 ht149 hvm149 hw149 hB149 hz149 hk149 hS => ?_)
                        obtain ⟨hP, hD⟩ := hB149
                        rw [ht149] at hP
                        refine lv_iload (pc := 160) hx hb dX2_addLigature_160 (lv_at hl 1 rfl) ?_
                        refine lv_iconst (v := 3) (pc := 162) hx hb dX2_addLigature_162 (by decide) ?_
                        refine lv_icmp_ne (tgt := 186) (pc := 163) hx hb dX2_addLigature_163 (by decide) (fun c_150 => ?_) (fun c_150 => ?_)
                        · refine lv_aload_n (pc := 186) hx hb dX2_addLigature_186 rfl (lv_at hl 2 rfl) ?_
                          refine va_get (v := .ref (gB g 0)) (pc := 187) (D := gD g) (ci := 2) (C := RX2) (T := TX2) (N := 11) hx hb hts hinX2 hown hK hP 0 (ma0 g (apS (apS σ v (lg1 f0 s0 z0) f0 false 0) v (lg2 f0 s0 false z0) s0 false 1) 0 mi ti rest) rfl 2 (by decide) (hts (.fieldLink RX2 9 "ChoirNotesModel" "many" "[I") (by decide +kernel)) (fun _ h9 => h9) rfl dX2_addLigature_187 ?_
                          refine lv_iload_n (pc := 190) hx hb dX2_addLigature_190 rfl (lv_at hl 3 rfl) ?_
                          refine k_iald (pc := 191) (x := nI (sC σ v + 1 + 1)) hx hb hK hP 1 0 (ma1 g (apS (apS σ v (lg1 f0 s0 z0) f0 false 0) v (lg2 f0 s0 false z0) s0 false 1) 0 mi ti rest) rfl v rfl (by omega) (by decide) (congrArg nI (by simp only [sC_apS, up1_s])) dX2_addLigature_191 ?_
                          refine lv_iload (pc := 192) hx hb dX2_addLigature_192 (lv_at hl 1 rfl) ?_
                          refine lv_isub (pc := 194) hx hb dX2_addLigature_194 ?_
                          refine k_cong (y := nI (sC σ v)) (pk_sub (a := sC σ v + 1 + 1) (b := 2) (by omega)) ?_
                          have hef : ef_addLigature σ v f0 s0 t0 z0 = (apS (apS σ v (lg1 f0 s0 z0) f0 false 0) v (lg2 f0 s0 false z0) s0 false 1) := by unfold ef_addLigature; rw [if_pos k5]
                          rw [hef]
                          have hcd : cd_addLigature σ (nI v) f0 s0 t0 = 0 := by simp [cd_addLigature, inL, c1, hixv, c2, c3, c4, c5, c6, hroom]
                          rw [hcd]
                          exact W.iret hx hb hr (fun t ht hW => ⟨⟨_, (mi, ti), rfl, (fun _ => rfl), by rw [ht]; exact hP, hD⟩, hS.F ht⟩) hS.2.2 dX2_addLigature_195
                        · exact absurd c_150 (by decide)
                · have k6 : ¬ (sC σ v + 2 ≤ 24) := fun z => k6 ((nI_leI (a := sC σ v + 2) (b := 24) (by omega) (by omega)).mpr z)
                  have hroom : ¬ sC σ v + lgM t0 ≤ 24 := by omega
                  refine lv_aload_n (pc := 94) hx hb dX2_addLigature_94 rfl (lv_at hl 1 rfl) ?_
                  refine lv_iconst (v := 3) (pc := 95) hx hb dX2_addLigature_95 (by decide) ?_
                  refine va_calli (pc := 96) (va_runV (As := [.int 3]) (rest := []) ⟨hx, hb, hml, hown, hts⟩ (cX2_fail_m l g A σ rest 0 mi ti 3) (cwV 1 hts gX2_addLigature_X2_fail rfl rfl rfl (by decide +kernel) ⟨Nat.le_of_ble_eq_true rfl, Nat.le_of_ble_eq_true rfl⟩) (cx_V (q0 := 0) (ci := 2) (r := (RX2, TX2, 11)) rfl (ma0 g σ 0 mi ti rest) hP hD hA hK hX hS) rfl rfl hl.1 rfl (lv_room (Nat.le_of_ble_eq_true rfl)) dX2_addLigature_96 ⟨Nat.le_of_ble_eq_true rfl, Nat.le_of_ble_eq_true rfl⟩) hS (fun _ _ h => h) (fun _ h => h) (fun r_151 u152 t152 H152 locs152 ht152 hvm152 hw152 hB152 hz152 hk152 hS => ?_)
                  obtain ⟨hP, hD⟩ := hB152
                  rw [ht152] at hP
                  subst hw152
                  have hcd : cd_addLigature σ (nI v) f0 s0 t0 = 3 := by simp [cd_addLigature, inL, c1, hixv, c2, c3, c4, c5, c6, hroom]
                  rw [hcd]
                  exact W.iret hx hb hr (fun t ht hW => ⟨⟨_, (mi, ti), rfl, (fun q => absurd q (by decide)), by rw [ht]; exact hP, hD⟩, hS.F ht⟩) hS.2.2 dX2_addLigature_99
            · have c6 : t0 = s0 := c6.symm
              refine lv_aload_n (pc := 61) hx hb dX2_addLigature_61 rfl (lv_at hl 0 rfl) ?_
              refine lv_iconst (v := 2) (pc := 62) hx hb dX2_addLigature_62 (by decide) ?_
              refine va_calli (pc := 63) (va_runV (As := [.int 2]) (rest := []) ⟨hx, hb, hml, hown, hts⟩ (cX2_fail_m l g A σ rest 0 mi ti 2) (cwV 1 hts gX2_addLigature_X2_fail rfl rfl rfl (by decide +kernel) ⟨Nat.le_of_ble_eq_true rfl, Nat.le_of_ble_eq_true rfl⟩) (cx_V (q0 := 0) (ci := 2) (r := (RX2, TX2, 11)) rfl (ma0 g σ 0 mi ti rest) hP hD hA hK hX hS) rfl rfl hl.1 rfl (lv_room (Nat.le_of_ble_eq_true rfl)) dX2_addLigature_63 ⟨Nat.le_of_ble_eq_true rfl, Nat.le_of_ble_eq_true rfl⟩) hS (fun _ _ h => h) (fun _ h => h) (fun r_153 u154 t154 H154 locs154 ht154 hvm154 hw154 hB154 hz154 hk154 hS => ?_)
              obtain ⟨hP, hD⟩ := hB154
              rw [ht154] at hP
              subst hw154
              have hcd : cd_addLigature σ (nI v) f0 s0 t0 = 2 := by simp [cd_addLigature, inL, c1, hixv, c2, c3, c4, c5, c6]
              rw [hcd]
              exact W.iret hx hb hr (fun t ht hW => ⟨⟨_, (mi, ti), rfl, (fun q => absurd q (by decide)), by rw [ht]; exact hP, hD⟩, hS.F ht⟩) hS.2.2 dX2_addLigature_66
  · have c1 := bI_0.mp c1
    refine lv_aload_n (pc := 13) hx hb dX2_addLigature_13 rfl (lv_at hl 0 rfl) ?_
    refine lv_iconst (v := 1) (pc := 14) hx hb dX2_addLigature_14 (by decide) ?_
    refine va_calli (pc := 15) (va_runV (As := [.int 1]) (rest := []) ⟨hx, hb, hml, hown, hts⟩ (cX2_fail_m l g A σ rest 0 mi ti 1) (cwV 1 hts gX2_addLigature_X2_fail rfl rfl rfl (by decide +kernel) ⟨Nat.le_of_ble_eq_true rfl, Nat.le_of_ble_eq_true rfl⟩) (cx_V (q0 := 0) (ci := 2) (r := (RX2, TX2, 11)) rfl (ma0 g σ 0 mi ti rest) hP hD hA hK hX hS) rfl rfl hl.1 rfl (lv_room (Nat.le_of_ble_eq_true rfl)) dX2_addLigature_15 ⟨Nat.le_of_ble_eq_true rfl, Nat.le_of_ble_eq_true rfl⟩) hS (fun _ _ h => h) (fun _ h => h) (fun r_155 u156 t156 H156 locs156 ht156 hvm156 hw156 hB156 hz156 hk156 hS => ?_)
    obtain ⟨hP, hD⟩ := hB156
    rw [ht156] at hP
    subst hw156
    have hcd : cd_addLigature σ p0 f0 s0 t0 = 1 := by simp [cd_addLigature, inL, c1]
    rw [hcd]
    exact W.iret hx hb hr (fun t ht hW => ⟨⟨_, (mi, ti), rfl, (fun q => absurd q (by decide)), by rw [ht]; exact hP, hD⟩, hS.F ht⟩) hS.2.2 dX2_addLigature_18
