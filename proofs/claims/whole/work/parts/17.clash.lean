/-! THE CLASS: two voices -/
set_option maxHeartbeats 4000000 in
set_option maxRecDepth 100000 in
/-- in how many minims two voices clash -/
theorem cX1_clashingMinims_m (l : Launch) (g : GA) (A : Nat → Prop) (σ : St) (rest : va_W) (v w d0 : Nat) (u0 : Int32) (hv : v < 4) (hw : w < 4) (hI : Inv σ) (hd : d0 ≤ 48) : Met l yX1_clashingMinims wsX1_clashingMinims ({ frames := 2, cells := 0, slots := 0, locals := 46 }) (va_Pc [.ref (gV g v), .ref (gV g w), .int (nI d0), .int u0] (Cx g A (cw g σ ++ rest))) (vp_Si (fun r : Int32 => r = nI (clN σ v w d0 u0))) 0 0 (fun _ => False) := by
  refine Met.ofW (cc := cX1_clashingMinims) (maxL := 11) (ret := (some .int)) (by decide) rfl ?_
  intro p e s m args below meth c s₁ B hml hv0
  obtain ⟨rfl, hP, hD, hA, hK, hX⟩ := hv0
  have hx := B.exec
  have hb := B.bytes
  have hr := B.returns
  have hts := atoms_spec (ws := wsX1_clashingMinims) B.pre
  have hown : s.vm.findClass RX1 = some m.cls := findClass_of_methodNamed B.named
  have hlocks := B.notSynchronized
  have hS : va_S A s.heap s.heap [] := va_S.rf
  have hinX0 : ∀ w ∈ u_ws RX0 TX0 10, w ∈ wsX1_clashingMinims := by decide +kernel
  have hl := lv_entry ([.ref (gV g v), .ref (gV g w), .int (nI d0), .int u0]) (n := 11) (Nat.le_of_ble_eq_true rfl)
  rw [lg_entry_eq]
  generalize (lg_sl ([.ref (gV g v), .ref (gV g w), .int (nI d0), .int u0]) ++ List.replicate (11 - (lg_sl ([.ref (gV g v), .ref (gV g w), .int (nI d0), .int u0])).length) Slot.unset).toArray = ls at hl ⊢
  have hl : lv_has ls 11 [(0, .ref (gV g v)), (1, .ref (gV g w)), (2, .int (nI d0)), (3, .int u0)] := hl
  have hCv := hI.C v
  have hCw := hI.C w
  refine lv_iconst (v := 0) (pc := 0) hx hb dX1_clashingMinims_0 (by decide) ?_
  refine lv_istore (lv' := [(4, .int 0), (0, .ref (gV g v)), (1, .ref (gV g w)), (2, .int (nI d0)), (3, .int u0)]) (pc := 1) hx hb dX1_clashingMinims_1 hl (by decide) rfl (fun ls hl => ?_)
  refine lv_iconst (v := 0) (pc := 3) hx hb dX1_clashingMinims_3 (by decide) ?_
  refine lv_istore (lv' := [(5, .int 0), (4, .int 0), (0, .ref (gV g v)), (1, .ref (gV g w)), (2, .int (nI d0)), (3, .int u0)]) (pc := 4) hx hb dX1_clashingMinims_4 hl (by decide) rfl (fun ls hl => ?_)
  refine lv_iconst (v := 0) (pc := 6) hx hb dX1_clashingMinims_6 (by decide) ?_
  refine lv_istore (lv' := [(6, .int 0), (5, .int 0), (4, .int 0), (0, .ref (gV g v)), (1, .ref (gV g w)), (2, .int (nI d0)), (3, .int u0)]) (pc := 7) hx hb dX1_clashingMinims_7 hl (by decide) rfl (fun ls hl => ?_)
  refine k_loop3 (pc := 9) (nL := 11) (fun (i : Nat) (j : Nat) (x : Int32) => (i ≤ sC σ v ∧ j ≤ sC σ w) ∧ x = nI (mgN σ v w d0 u0 i j)) (fun (i : Nat) (j : Nat) (x : Int32) => sC σ v + sC σ w - i - j) (fun (i : Nat) (j : Nat) (x : Int32) => [(6, .int (nI j)), (5, .int (nI i)), (4, .int x), (0, .ref (gV g v)), (1, .ref (gV g w)), (2, .int (nI d0)), (3, .int u0)]) (fun i j x hI ih_9 ls hl => ?_) 0 0 0 ⟨⟨Nat.zero_le _, Nat.zero_le _⟩, by rw [mg_0]; rfl⟩ (lv_sub hl [0, 1, 2, 3, 4, 5, 6] rfl)
  obtain ⟨⟨hi0, hj0⟩, hx0⟩ := hI
  have hl : lv_has ls 11 [(6, .int (nI j)), (5, .int (nI i)), (4, .int x), (0, .ref (gV g v)), (1, .ref (gV g w)), (2, .int (nI d0)), (3, .int u0)] := hl
  refine lv_iload (pc := 9) hx hb dX1_clashingMinims_9 (lv_at hl 1 rfl) ?_
  refine lv_aload_n (pc := 11) hx hb dX1_clashingMinims_11 rfl (lv_at hl 3 rfl) ?_
  refine va_getN (v := .int (nI (sC σ v))) (pc := 12) (D := gD g) (ci := 0) (C := RX0) (T := TX0) (N := 10) hx hb hts hinX0 hown hK hP (2 + 6 * v) (cv0 g σ rest hv) rfl 4 (by decide) (va_Nw.use rfl (nf_64 hX)) (fun _ h9 => h9) rfl dX1_clashingMinims_12 ?_
  refine lv_icmp_ge (tgt := 130) (pc := 15) hx hb dX1_clashingMinims_15 (by decide) (fun c1 => ?_) (fun c1 => ?_)
  · have c1 : sC σ v ≤ i := (nI_leI (a := sC σ v) (b := i) (by omega) (by omega)).mp c1
    refine lv_iload (pc := 130) hx hb dX1_clashingMinims_130 (lv_at hl 2 rfl) ?_
    exact W.iret hx hb hr (fun t ht hW => ⟨_, rfl, (by rw [hx0, mg_e (by omega)]), ht⟩) (fun q hq => absurd hq List.not_mem_nil) dX1_clashingMinims_132
  · have c1 : ¬ (sC σ v ≤ i) := fun z => c1 ((nI_leI (a := sC σ v) (b := i) (by omega) (by omega)).mpr z)
    refine lv_iload (pc := 18) hx hb dX1_clashingMinims_18 (lv_at hl 0 rfl) ?_
    refine lv_aload_n (pc := 20) hx hb dX1_clashingMinims_20 rfl (lv_at hl 4 rfl) ?_
    refine va_getN (v := .int (nI (sC σ w))) (pc := 21) (D := gD g) (ci := 0) (C := RX0) (T := TX0) (N := 10) hx hb hts hinX0 hown hK hP (2 + 6 * w) (cv0 g σ rest hw) rfl 4 (by decide) (va_Nw.use rfl (nf_64 hX)) (fun _ h9 => h9) rfl dX1_clashingMinims_21 ?_
    refine lv_icmp_ge (tgt := 130) (pc := 24) hx hb dX1_clashingMinims_24 (by decide) (fun c2 => ?_) (fun c2 => ?_)
    · have c2 : sC σ w ≤ j := (nI_leI (a := sC σ w) (b := j) (by omega) (by omega)).mp c2
      refine lv_iload (pc := 130) hx hb dX1_clashingMinims_130 (lv_at hl 2 rfl) ?_
      exact W.iret hx hb hr (fun t ht hW => ⟨_, rfl, (by rw [hx0, mg_e (by omega)]), ht⟩) (fun q hq => absurd hq List.not_mem_nil) dX1_clashingMinims_132
    · have c2 : ¬ (sC σ w ≤ j) := fun z => c2 ((nI_leI (a := sC σ w) (b := j) (by omega) (by omega)).mpr z)
      have hi : i < sC σ v := by omega
      have hj : j < sC σ w := by omega
      have b1 := hI.bgC v (show i + 1 ≤ sC σ v by omega)
      have b2 := hI.bgC w (show j + 1 ≤ sC σ w by omega)
      have b3 := bg_mono σ v (show i ≤ i + 1 by omega)
      have b4 := bg_mono σ w (show j ≤ j + 1 by omega)
      refine lv_aload_n (pc := 27) hx hb dX1_clashingMinims_27 rfl (lv_at hl 3 rfl) ?_
      refine va_getN (v := .ref (gA g v 4)) (pc := 28) (D := gD g) (ci := 0) (C := RX0) (T := TX0) (N := 10) hx hb hts hinX0 hown hK hP (2 + 6 * v) (cv0 g σ rest hv) rfl 9 (by decide) (va_Nw.use rfl (nf_116 hX)) (fun _ h9 => h9) rfl dX1_clashingMinims_28 ?_
      refine lv_iload (pc := 31) hx hb dX1_clashingMinims_31 (lv_at hl 1 rfl) ?_
      refine lv_iconst (v := 1) (pc := 33) hx hb dX1_clashingMinims_33 (by decide) ?_
      refine lv_iadd (pc := 34) hx hb dX1_clashingMinims_34 ?_
      refine k_cong (y := nI (i + 1)) (nI_1 i) ?_
      refine k_iald (pc := 35) (x := sB σ v (i + 1)) hx hb hK hP (7 + 6 * v) 0 (cv5 g σ rest hv) rfl (i + 1) rfl (by omega) (by decide) rfl dX1_clashingMinims_35 ?_
      refine k_cong (y := nI (bg σ v (i + 1))) (hI.B (by omega)) ?_
      refine lv_istore (lv' := [(7, .int (nI (bg σ v (i + 1)))), (6, .int (nI j)), (5, .int (nI i)), (4, .int x), (0, .ref (gV g v)), (1, .ref (gV g w)), (2, .int (nI d0)), (3, .int u0)]) (pc := 36) hx hb dX1_clashingMinims_36 hl (by decide) rfl (fun ls hl => ?_)
      refine lv_aload_n (pc := 38) hx hb dX1_clashingMinims_38 rfl (lv_at hl 5 rfl) ?_
      refine va_getN (v := .ref (gA g w 4)) (pc := 39) (D := gD g) (ci := 0) (C := RX0) (T := TX0) (N := 10) hx hb hts hinX0 hown hK hP (2 + 6 * w) (cv0 g σ rest hw) rfl 9 (by decide) (va_Nw.use rfl (nf_116 hX)) (fun _ h9 => h9) rfl dX1_clashingMinims_39 ?_
      refine lv_iload (pc := 42) hx hb dX1_clashingMinims_42 (lv_at hl 1 rfl) ?_
      refine lv_iconst (v := 1) (pc := 44) hx hb dX1_clashingMinims_44 (by decide) ?_
      refine lv_iadd (pc := 45) hx hb dX1_clashingMinims_45 ?_
      refine k_cong (y := nI (j + 1)) (nI_1 j) ?_
      refine k_iald (pc := 46) (x := sB σ w (j + 1)) hx hb hK hP (7 + 6 * w) 0 (cv5 g σ rest hw) rfl (j + 1) rfl (by omega) (by decide) rfl dX1_clashingMinims_46 ?_
      refine k_cong (y := nI (bg σ w (j + 1))) (hI.B (by omega)) ?_
      refine lv_iload_n (pc := 47) hx hb dX1_clashingMinims_47 rfl (lv_at hl 6 rfl) ?_
      refine lv_iadd (pc := 48) hx hb dX1_clashingMinims_48 ?_
      refine k_cong (y := nI (bg σ w (j + 1) + d0)) (nI_add _ _) ?_
      refine lv_istore (lv' := [(8, .int (nI (bg σ w (j + 1) + d0))), (7, .int (nI (bg σ v (i + 1)))), (6, .int (nI j)), (5, .int (nI i)), (4, .int x), (0, .ref (gV g v)), (1, .ref (gV g w)), (2, .int (nI d0)), (3, .int u0)]) (pc := 49) hx hb dX1_clashingMinims_49 hl (by decide) rfl (fun ls hl => ?_)
      refine lv_aload_n (pc := 51) hx hb dX1_clashingMinims_51 rfl (lv_at hl 5 rfl) ?_
      refine va_getN (v := .ref (gA g v 4)) (pc := 52) (D := gD g) (ci := 0) (C := RX0) (T := TX0) (N := 10) hx hb hts hinX0 hown hK hP (2 + 6 * v) (cv0 g σ rest hv) rfl 9 (by decide) (va_Nw.use rfl (nf_116 hX)) (fun _ h9 => h9) rfl dX1_clashingMinims_52 ?_
      refine lv_iload (pc := 55) hx hb dX1_clashingMinims_55 (lv_at hl 3 rfl) ?_
      refine k_iald (pc := 57) (x := sB σ v i) hx hb hK hP (7 + 6 * v) 0 (cv5 g σ rest hv) rfl i rfl (by omega) (by decide) rfl dX1_clashingMinims_57 ?_
      refine k_cong (y := nI (bg σ v i)) (hI.B (by omega)) ?_
      refine lv_aload_n (pc := 58) hx hb dX1_clashingMinims_58 rfl (lv_at hl 6 rfl) ?_
      refine va_getN (v := .ref (gA g w 4)) (pc := 59) (D := gD g) (ci := 0) (C := RX0) (T := TX0) (N := 10) hx hb hts hinX0 hown hK hP (2 + 6 * w) (cv0 g σ rest hw) rfl 9 (by decide) (va_Nw.use rfl (nf_116 hX)) (fun _ h9 => h9) rfl dX1_clashingMinims_59 ?_
      refine lv_iload (pc := 62) hx hb dX1_clashingMinims_62 (lv_at hl 2 rfl) ?_
      refine k_iald (pc := 64) (x := sB σ w j) hx hb hK hP (7 + 6 * w) 0 (cv5 g σ rest hw) rfl j rfl (by omega) (by decide) rfl dX1_clashingMinims_64 ?_
      refine k_cong (y := nI (bg σ w j)) (hI.B (by omega)) ?_
      refine lv_iload_n (pc := 65) hx hb dX1_clashingMinims_65 rfl (lv_at hl 7 rfl) ?_
      refine lv_iadd (pc := 66) hx hb dX1_clashingMinims_66 ?_
      refine k_cong (y := nI (bg σ w j + d0)) (nI_add _ _) ?_
      refine va_mmax (pc := 67) hx hb (hml.trans hl.1.symm) hown (hts (.methodLink RX1 119 Lib.Math.max.name) (by decide +kernel)) (hts (.static Lib.Math.max.name) (by decide +kernel)) (hts (.initialized "java/lang/Math") (by decide +kernel)) (hts (.code Lib.Math.max.name Lib.Math.max.code 2 (some .int)) (by decide +kernel)) (Nat.le_of_ble_eq_true rfl) (Nat.le_of_ble_eq_true rfl) (Nat.le_of_ble_eq_true rfl) (Nat.le_of_ble_eq_true rfl) dX1_clashingMinims_67 ?_
      refine k_cong (y := nI (max (bg σ v i) (bg σ w j + d0))) (mxI (by omega) (by omega)) ?_
      refine lv_istore (lv' := [(9, .int (nI (max (bg σ v i) (bg σ w j + d0)))), (8, .int (nI (bg σ w (j + 1) + d0))), (7, .int (nI (bg σ v (i + 1)))), (6, .int (nI j)), (5, .int (nI i)), (4, .int x), (0, .ref (gV g v)), (1, .ref (gV g w)), (2, .int (nI d0)), (3, .int u0)]) (pc := 70) hx hb dX1_clashingMinims_70 hl (by decide) rfl (fun ls hl => ?_)
      refine lv_iload (pc := 72) hx hb dX1_clashingMinims_72 (lv_at hl 2 rfl) ?_
      refine lv_iload (pc := 74) hx hb dX1_clashingMinims_74 (lv_at hl 1 rfl) ?_
      refine va_mmin (pc := 76) hx hb (hml.trans hl.1.symm) hown (hts (.methodLink RX1 190 Lib.Math.min.name) (by decide +kernel)) (hts (.static Lib.Math.min.name) (by decide +kernel)) (hts (.initialized "java/lang/Math") (by decide +kernel)) (hts (.code Lib.Math.min.name Lib.Math.min.code 2 (some .int)) (by decide +kernel)) (Nat.le_of_ble_eq_true rfl) (Nat.le_of_ble_eq_true rfl) (Nat.le_of_ble_eq_true rfl) (Nat.le_of_ble_eq_true rfl) dX1_clashingMinims_76 ?_
      refine k_cong (y := nI (min (bg σ v (i + 1)) (bg σ w (j + 1) + d0))) (mnI (by omega) (by omega)) ?_
      refine lv_istore (lv' := [(10, .int (nI (min (bg σ v (i + 1)) (bg σ w (j + 1) + d0)))), (9, .int (nI (max (bg σ v i) (bg σ w j + d0)))), (8, .int (nI (bg σ w (j + 1) + d0))), (7, .int (nI (bg σ v (i + 1)))), (6, .int (nI j)), (5, .int (nI i)), (4, .int x), (0, .ref (gV g v)), (1, .ref (gV g w)), (2, .int (nI d0)), (3, .int u0)]) (pc := 79) hx hb dX1_clashingMinims_79 hl (by decide) rfl (fun ls hl => ?_)
      refine lv_iload (pc := 81) hx hb dX1_clashingMinims_81 (lv_at hl 1 rfl) ?_
      refine lv_iload (pc := 83) hx hb dX1_clashingMinims_83 (lv_at hl 0 rfl) ?_
      refine lv_icmp_ge (tgt := 111) (pc := 85) hx hb dX1_clashingMinims_85 (by decide) (fun c3 => ?_) (fun c3 => ?_)
      · have c3 : min (bg σ v (i + 1)) (bg σ w (j + 1) + d0) ≤ max (bg σ v i) (bg σ w j + d0) := (nI_leI (a := min (bg σ v (i + 1)) (bg σ w (j + 1) + d0)) (b := max (bg σ v i) (bg σ w j + d0)) (by omega) (by omega)).mp c3
        refine lv_iload (pc := 111) hx hb dX1_clashingMinims_111 (lv_at hl 3 rfl) ?_
        refine lv_iload (pc := 113) hx hb dX1_clashingMinims_113 (lv_at hl 2 rfl) ?_
        refine lv_icmp_gt (tgt := 124) (pc := 115) hx hb dX1_clashingMinims_115 (by decide) (fun c5 => ?_) (fun c5 => ?_)
        · have c5 : bg σ w (j + 1) + d0 < bg σ v (i + 1) := (nI_ltI (a := bg σ w (j + 1) + d0) (b := bg σ v (i + 1)) (by omega) (by omega)).mp c5
          refine lv_iinc (v := nI (j + 1)) (lv' := [(6, .int (nI (j + 1))), (10, .int (nI (min (bg σ v (i + 1)) (bg σ w (j + 1) + d0)))), (9, .int (nI (max (bg σ v i) (bg σ w j + d0)))), (8, .int (nI (bg σ w (j + 1) + d0))), (7, .int (nI (bg σ v (i + 1)))), (5, .int (nI i)), (4, .int x), (0, .ref (gV g v)), (1, .ref (gV g w)), (2, .int (nI d0)), (3, .int u0)]) (pc := 124) hx hb dX1_clashingMinims_124 hl (k := 4) rfl (nI_1 _) (by decide) rfl (fun ls hl => ?_)
          refine lv_goto (tgt := 9) (pc := 127) hx hb dX1_clashingMinims_127 (by decide) ?_
          exact ih_9 i (j + 1) x ⟨⟨by omega, by omega⟩, by first | exact mx_iA hx0 hi hj (by omega) (by omega) | exact mx_iB hx0 hi hj (by omega) c4 | exact mx_iC hx0 hi hj (by omega) c4 (by omega) | exact mx_jA hx0 hi hj (by omega) (by omega) | exact mx_jB hx0 hi hj (by omega) c4 | exact mx_jC hx0 hi hj (by omega) c4 (by omega)⟩ (by omega) _ (lv_sub hl [0, 5, 6, 7, 8, 9, 10] rfl)
        · have c5 : ¬ (bg σ w (j + 1) + d0 < bg σ v (i + 1)) := fun z => c5 ((nI_ltI (a := bg σ w (j + 1) + d0) (b := bg σ v (i + 1)) (by omega) (by omega)).mpr z)
          refine lv_iinc (v := nI (i + 1)) (lv' := [(5, .int (nI (i + 1))), (10, .int (nI (min (bg σ v (i + 1)) (bg σ w (j + 1) + d0)))), (9, .int (nI (max (bg σ v i) (bg σ w j + d0)))), (8, .int (nI (bg σ w (j + 1) + d0))), (7, .int (nI (bg σ v (i + 1)))), (6, .int (nI j)), (4, .int x), (0, .ref (gV g v)), (1, .ref (gV g w)), (2, .int (nI d0)), (3, .int u0)]) (pc := 118) hx hb dX1_clashingMinims_118 hl (k := 5) rfl (nI_1 _) (by decide) rfl (fun ls hl => ?_)
          refine lv_goto (tgt := 127) (pc := 121) hx hb dX1_clashingMinims_121 (by decide) ?_
          refine lv_goto (tgt := 9) (pc := 127) hx hb dX1_clashingMinims_127 (by decide) ?_
          exact ih_9 (i + 1) j x ⟨⟨by omega, by omega⟩, by first | exact mx_iA hx0 hi hj (by omega) (by omega) | exact mx_iB hx0 hi hj (by omega) c4 | exact mx_iC hx0 hi hj (by omega) c4 (by omega) | exact mx_jA hx0 hi hj (by omega) (by omega) | exact mx_jB hx0 hi hj (by omega) c4 | exact mx_jC hx0 hi hj (by omega) c4 (by omega)⟩ (by omega) _ (lv_sub hl [5, 0, 6, 7, 8, 9, 10] rfl)
      · have c3 : ¬ (min (bg σ v (i + 1)) (bg σ w (j + 1) + d0) ≤ max (bg σ v i) (bg σ w j + d0)) := fun z => c3 ((nI_leI (a := min (bg σ v (i + 1)) (bg σ w (j + 1) + d0)) (b := max (bg σ v i) (bg σ w j + d0)) (by omega) (by omega)).mpr z)
        refine lv_aload_n (pc := 88) hx hb dX1_clashingMinims_88 rfl (lv_at hl 7 rfl) ?_
        refine lv_iload (pc := 89) hx hb dX1_clashingMinims_89 (lv_at hl 5 rfl) ?_
        refine lv_aload_n (pc := 91) hx hb dX1_clashingMinims_91 rfl (lv_at hl 8 rfl) ?_
        refine lv_iload (pc := 92) hx hb dX1_clashingMinims_92 (lv_at hl 4 rfl) ?_
        refine lv_iload_n (pc := 94) hx hb dX1_clashingMinims_94 rfl (lv_at hl 10 rfl) ?_
        refine k_ri (pc := 95) (va_runS (As := [.ref (gV g v), .int (nI i), .ref (gV g w), .int (nI j), .int u0]) (rest := []) ⟨hx, hb, hml, hown, hts⟩ (cX1_signsClash_m l g A σ rest v w i j u0 hv hw (by omega) (by omega)) (va_cwS 5 hts gX1_clashingMinims_X1_signsClash rfl rfl rfl (by decide +kernel) ⟨Nat.le_of_ble_eq_true rfl, Nat.le_of_ble_eq_true rfl⟩) (cx_S hP hD hA hK hX hS) rfl rfl hl.1 rfl (lv_room (Nat.le_of_ble_eq_true rfl)) dX1_clashingMinims_95 ⟨Nat.le_of_ble_eq_true rfl, Nat.le_of_ble_eq_true rfl⟩) (fun r_5 hr_5 => ?_)
        subst hr_5
        refine lv_if_eq (tgt := 111) (pc := 98) hx hb dX1_clashingMinims_98 (by decide) (fun c4 => ?_) (fun c4 => ?_)
        · have c4 := bI_0.mp c4
          refine lv_iload (pc := 111) hx hb dX1_clashingMinims_111 (lv_at hl 3 rfl) ?_
          refine lv_iload (pc := 113) hx hb dX1_clashingMinims_113 (lv_at hl 2 rfl) ?_
          refine lv_icmp_gt (tgt := 124) (pc := 115) hx hb dX1_clashingMinims_115 (by decide) (fun c5 => ?_) (fun c5 => ?_)
          · have c5 : bg σ w (j + 1) + d0 < bg σ v (i + 1) := (nI_ltI (a := bg σ w (j + 1) + d0) (b := bg σ v (i + 1)) (by omega) (by omega)).mp c5
            refine lv_iinc (v := nI (j + 1)) (lv' := [(6, .int (nI (j + 1))), (10, .int (nI (min (bg σ v (i + 1)) (bg σ w (j + 1) + d0)))), (9, .int (nI (max (bg σ v i) (bg σ w j + d0)))), (8, .int (nI (bg σ w (j + 1) + d0))), (7, .int (nI (bg σ v (i + 1)))), (5, .int (nI i)), (4, .int x), (0, .ref (gV g v)), (1, .ref (gV g w)), (2, .int (nI d0)), (3, .int u0)]) (pc := 124) hx hb dX1_clashingMinims_124 hl (k := 4) rfl (nI_1 _) (by decide) rfl (fun ls hl => ?_)
            refine lv_goto (tgt := 9) (pc := 127) hx hb dX1_clashingMinims_127 (by decide) ?_
            exact ih_9 i (j + 1) x ⟨⟨by omega, by omega⟩, by first | exact mx_iA hx0 hi hj (by omega) (by omega) | exact mx_iB hx0 hi hj (by omega) c4 | exact mx_iC hx0 hi hj (by omega) c4 (by omega) | exact mx_jA hx0 hi hj (by omega) (by omega) | exact mx_jB hx0 hi hj (by omega) c4 | exact mx_jC hx0 hi hj (by omega) c4 (by omega)⟩ (by omega) _ (lv_sub hl [0, 5, 6, 7, 8, 9, 10] rfl)
          · have c5 : ¬ (bg σ w (j + 1) + d0 < bg σ v (i + 1)) := fun z => c5 ((nI_ltI (a := bg σ w (j + 1) + d0) (b := bg σ v (i + 1)) (by omega) (by omega)).mpr z)
            refine lv_iinc (v := nI (i + 1)) (lv' := [(5, .int (nI (i + 1))), (10, .int (nI (min (bg σ v (i + 1)) (bg σ w (j + 1) + d0)))), (9, .int (nI (max (bg σ v i) (bg σ w j + d0)))), (8, .int (nI (bg σ w (j + 1) + d0))), (7, .int (nI (bg σ v (i + 1)))), (6, .int (nI j)), (4, .int x), (0, .ref (gV g v)), (1, .ref (gV g w)), (2, .int (nI d0)), (3, .int u0)]) (pc := 118) hx hb dX1_clashingMinims_118 hl (k := 5) rfl (nI_1 _) (by decide) rfl (fun ls hl => ?_)
            refine lv_goto (tgt := 127) (pc := 121) hx hb dX1_clashingMinims_121 (by decide) ?_
            refine lv_goto (tgt := 9) (pc := 127) hx hb dX1_clashingMinims_127 (by decide) ?_
            exact ih_9 (i + 1) j x ⟨⟨by omega, by omega⟩, by first | exact mx_iA hx0 hi hj (by omega) (by omega) | exact mx_iB hx0 hi hj (by omega) c4 | exact mx_iC hx0 hi hj (by omega) c4 (by omega) | exact mx_jA hx0 hi hj (by omega) (by omega) | exact mx_jB hx0 hi hj (by omega) c4 | exact mx_jC hx0 hi hj (by omega) c4 (by omega)⟩ (by omega) _ (lv_sub hl [5, 0, 6, 7, 8, 9, 10] rfl)
        · have c4 := bI_n0.mp c4
          refine lv_iload (pc := 101) hx hb dX1_clashingMinims_101 (lv_at hl 6 rfl) ?_
          refine lv_iload (pc := 103) hx hb dX1_clashingMinims_103 (lv_at hl 0 rfl) ?_
          refine lv_iload (pc := 105) hx hb dX1_clashingMinims_105 (lv_at hl 1 rfl) ?_
          refine lv_isub (pc := 107) hx hb dX1_clashingMinims_107 ?_
          refine lv_iadd (pc := 108) hx hb dX1_clashingMinims_108 ?_
          refine lv_istore (lv' := [(4, .int (x + ((nI (min (bg σ v (i + 1)) (bg σ w (j + 1) + d0))) - (nI (max (bg σ v i) (bg σ w j + d0)))))), (10, .int (nI (min (bg σ v (i + 1)) (bg σ w (j + 1) + d0)))), (9, .int (nI (max (bg σ v i) (bg σ w j + d0)))), (8, .int (nI (bg σ w (j + 1) + d0))), (7, .int (nI (bg σ v (i + 1)))), (6, .int (nI j)), (5, .int (nI i)), (0, .ref (gV g v)), (1, .ref (gV g w)), (2, .int (nI d0)), (3, .int u0)]) (pc := 109) hx hb dX1_clashingMinims_109 hl (by decide) rfl (fun ls hl => ?_)
          refine lv_iload (pc := 111) hx hb dX1_clashingMinims_111 (lv_at hl 4 rfl) ?_
          refine lv_iload (pc := 113) hx hb dX1_clashingMinims_113 (lv_at hl 3 rfl) ?_
          refine lv_icmp_gt (tgt := 124) (pc := 115) hx hb dX1_clashingMinims_115 (by decide) (fun c5 => ?_) (fun c5 => ?_)
          · have c5 : bg σ w (j + 1) + d0 < bg σ v (i + 1) := (nI_ltI (a := bg σ w (j + 1) + d0) (b := bg σ v (i + 1)) (by omega) (by omega)).mp c5
            refine lv_iinc (v := nI (j + 1)) (lv' := [(6, .int (nI (j + 1))), (4, .int (x + ((nI (min (bg σ v (i + 1)) (bg σ w (j + 1) + d0))) - (nI (max (bg σ v i) (bg σ w j + d0)))))), (10, .int (nI (min (bg σ v (i + 1)) (bg σ w (j + 1) + d0)))), (9, .int (nI (max (bg σ v i) (bg σ w j + d0)))), (8, .int (nI (bg σ w (j + 1) + d0))), (7, .int (nI (bg σ v (i + 1)))), (5, .int (nI i)), (0, .ref (gV g v)), (1, .ref (gV g w)), (2, .int (nI d0)), (3, .int u0)]) (pc := 124) hx hb dX1_clashingMinims_124 hl (k := 5) rfl (nI_1 _) (by decide) rfl (fun ls hl => ?_)
            refine lv_goto (tgt := 9) (pc := 127) hx hb dX1_clashingMinims_127 (by decide) ?_
            exact ih_9 i (j + 1) (x + ((nI (min (bg σ v (i + 1)) (bg σ w (j + 1) + d0))) - (nI (max (bg σ v i) (bg σ w j + d0))))) ⟨⟨by omega, by omega⟩, by first | exact mx_iA hx0 hi hj (by omega) (by omega) | exact mx_iB hx0 hi hj (by omega) c4 | exact mx_iC hx0 hi hj (by omega) c4 (by omega) | exact mx_jA hx0 hi hj (by omega) (by omega) | exact mx_jB hx0 hi hj (by omega) c4 | exact mx_jC hx0 hi hj (by omega) c4 (by omega)⟩ (by omega) _ (lv_sub hl [0, 6, 1, 7, 8, 9, 10] rfl)
          · have c5 : ¬ (bg σ w (j + 1) + d0 < bg σ v (i + 1)) := fun z => c5 ((nI_ltI (a := bg σ w (j + 1) + d0) (b := bg σ v (i + 1)) (by omega) (by omega)).mpr z)
            refine lv_iinc (v := nI (i + 1)) (lv' := [(5, .int (nI (i + 1))), (4, .int (x + ((nI (min (bg σ v (i + 1)) (bg σ w (j + 1) + d0))) - (nI (max (bg σ v i) (bg σ w j + d0)))))), (10, .int (nI (min (bg σ v (i + 1)) (bg σ w (j + 1) + d0)))), (9, .int (nI (max (bg σ v i) (bg σ w j + d0)))), (8, .int (nI (bg σ w (j + 1) + d0))), (7, .int (nI (bg σ v (i + 1)))), (6, .int (nI j)), (0, .ref (gV g v)), (1, .ref (gV g w)), (2, .int (nI d0)), (3, .int u0)]) (pc := 118) hx hb dX1_clashingMinims_118 hl (k := 6) rfl (nI_1 _) (by decide) rfl (fun ls hl => ?_)
            refine lv_goto (tgt := 127) (pc := 121) hx hb dX1_clashingMinims_121 (by decide) ?_
            refine lv_goto (tgt := 9) (pc := 127) hx hb dX1_clashingMinims_127 (by decide) ?_
            exact ih_9 (i + 1) j (x + ((nI (min (bg σ v (i + 1)) (bg σ w (j + 1) + d0))) - (nI (max (bg σ v i) (bg σ w j + d0))))) ⟨⟨by omega, by omega⟩, by first | exact mx_iA hx0 hi hj (by omega) (by omega) | exact mx_iB hx0 hi hj (by omega) c4 | exact mx_iC hx0 hi hj (by omega) c4 (by omega) | exact mx_jA hx0 hi hj (by omega) (by omega) | exact mx_jB hx0 hi hj (by omega) c4 | exact mx_jC hx0 hi hj (by omega) c4 (by omega)⟩ (by omega) _ (lv_sub hl [6, 0, 1, 7, 8, 9, 10] rfl)
set_option maxHeartbeats 4000000 in
set_option maxRecDepth 100000 in
/-- the first minim in which two voices clash -/
theorem cX1_firstClashingMinim_m (l : Launch) (g : GA) (A : Nat → Prop) (σ : St) (rest : va_W) (v w : Nat) (u0 : Int32) (hv : v < 4) (hw : w < 4) (hI : Inv σ) : Met l yX1_firstClashingMinim wsX1_firstClashingMinim ({ frames := 2, cells := 0, slots := 0, locals := 46 }) (va_Pc [.ref (gV g v), .ref (gV g w), .int u0] (Cx g A (cw g σ ++ rest))) (vp_Si (fun r : Int32 => r = fst (clT σ v w 0 u0) (len σ v))) 0 0 (fun _ => False) := by
  refine Met.ofW (cc := cX1_firstClashingMinim) (maxL := 9) (ret := (some .int)) (by decide) rfl ?_
  intro p e s m args below meth c s₁ B hml hv0
  obtain ⟨rfl, hP, hD, hA, hK, hX⟩ := hv0
  have hx := B.exec
  have hb := B.bytes
  have hr := B.returns
  have hts := atoms_spec (ws := wsX1_firstClashingMinim) B.pre
  have hown : s.vm.findClass RX1 = some m.cls := findClass_of_methodNamed B.named
  have hlocks := B.notSynchronized
  have hS : va_S A s.heap s.heap [] := va_S.rf
  have hinX0 : ∀ w ∈ u_ws RX0 TX0 10, w ∈ wsX1_firstClashingMinim := by decide +kernel
  have hl := lv_entry ([.ref (gV g v), .ref (gV g w), .int u0]) (n := 9) (Nat.le_of_ble_eq_true rfl)
  rw [lg_entry_eq]
  generalize (lg_sl ([.ref (gV g v), .ref (gV g w), .int u0]) ++ List.replicate (9 - (lg_sl ([.ref (gV g v), .ref (gV g w), .int u0])).length) Slot.unset).toArray = ls at hl ⊢
  have hl : lv_has ls 9 [(0, .ref (gV g v)), (1, .ref (gV g w)), (2, .int u0)] := hl
  have hCv := hI.C v
  have hCw := hI.C w
  refine lv_iconst (v := 0) (pc := 0) hx hb dX1_firstClashingMinim_0 (by decide) ?_
  refine lv_istore_n (lv' := [(3, .int 0), (0, .ref (gV g v)), (1, .ref (gV g w)), (2, .int u0)]) (pc := 1) hx hb dX1_firstClashingMinim_1 rfl hl (by decide) rfl (fun ls hl => ?_)
  refine lv_iconst (v := 0) (pc := 2) hx hb dX1_firstClashingMinim_2 (by decide) ?_
  refine lv_istore (lv' := [(4, .int 0), (3, .int 0), (0, .ref (gV g v)), (1, .ref (gV g w)), (2, .int u0)]) (pc := 3) hx hb dX1_firstClashingMinim_3 hl (by decide) rfl (fun ls hl => ?_)
  refine k_loop2 (pc := 5) (nL := 9) (fun (i : Nat) (j : Nat) => (i ≤ sC σ v ∧ j ≤ sC σ w) ∧ mgN σ v w 0 u0 i j = 0) (fun (i : Nat) (j : Nat) => sC σ v + sC σ w - i - j) (fun (i : Nat) (j : Nat) => [(4, .int (nI j)), (3, .int (nI i)), (0, .ref (gV g v)), (1, .ref (gV g w)), (2, .int u0)]) (fun i j hI ih_5 ls hl => ?_) 0 0 ⟨⟨Nat.zero_le _, Nat.zero_le _⟩, mg_0⟩ (lv_sub hl [0, 1, 2, 3, 4] rfl)
  obtain ⟨⟨hi0, hj0⟩, h0⟩ := hI
  have hl : lv_has ls 9 [(4, .int (nI j)), (3, .int (nI i)), (0, .ref (gV g v)), (1, .ref (gV g w)), (2, .int u0)] := hl
  refine lv_iload_n (pc := 5) hx hb dX1_firstClashingMinim_5 rfl (lv_at hl 1 rfl) ?_
  refine lv_aload_n (pc := 6) hx hb dX1_firstClashingMinim_6 rfl (lv_at hl 2 rfl) ?_
  refine va_getN (v := .int (nI (sC σ v))) (pc := 7) (D := gD g) (ci := 0) (C := RX0) (T := TX0) (N := 10) hx hb hts hinX0 hown hK hP (2 + 6 * v) (cv0 g σ rest hv) rfl 4 (by decide) (va_Nw.use rfl (nf_64 hX)) (fun _ h9 => h9) rfl dX1_firstClashingMinim_7 ?_
  refine lv_icmp_ge (tgt := 111) (pc := 10) hx hb dX1_firstClashingMinim_10 (by decide) (fun c1 => ?_) (fun c1 => ?_)
  · have c1 : sC σ v ≤ i := (nI_leI (a := sC σ v) (b := i) (by omega) (by omega)).mp c1
    refine lv_iconst (v := (-1)) (pc := 111) hx hb dX1_firstClashingMinim_111 (by decide) ?_
    exact W.iret hx hb hr (fun t ht hW => ⟨_, rfl, (fs_no h0 (by omega)).symm, ht⟩) (fun q hq => absurd hq List.not_mem_nil) dX1_firstClashingMinim_112
  · have c1 : ¬ (sC σ v ≤ i) := fun z => c1 ((nI_leI (a := sC σ v) (b := i) (by omega) (by omega)).mpr z)
    refine lv_iload (pc := 13) hx hb dX1_firstClashingMinim_13 (lv_at hl 0 rfl) ?_
    refine lv_aload_n (pc := 15) hx hb dX1_firstClashingMinim_15 rfl (lv_at hl 3 rfl) ?_
    refine va_getN (v := .int (nI (sC σ w))) (pc := 16) (D := gD g) (ci := 0) (C := RX0) (T := TX0) (N := 10) hx hb hts hinX0 hown hK hP (2 + 6 * w) (cv0 g σ rest hw) rfl 4 (by decide) (va_Nw.use rfl (nf_64 hX)) (fun _ h9 => h9) rfl dX1_firstClashingMinim_16 ?_
    refine lv_icmp_ge (tgt := 111) (pc := 19) hx hb dX1_firstClashingMinim_19 (by decide) (fun c2 => ?_) (fun c2 => ?_)
    · have c2 : sC σ w ≤ j := (nI_leI (a := sC σ w) (b := j) (by omega) (by omega)).mp c2
      refine lv_iconst (v := (-1)) (pc := 111) hx hb dX1_firstClashingMinim_111 (by decide) ?_
      exact W.iret hx hb hr (fun t ht hW => ⟨_, rfl, (fs_no h0 (by omega)).symm, ht⟩) (fun q hq => absurd hq List.not_mem_nil) dX1_firstClashingMinim_112
    · have c2 : ¬ (sC σ w ≤ j) := fun z => c2 ((nI_leI (a := sC σ w) (b := j) (by omega) (by omega)).mpr z)
      have hi : i < sC σ v := by omega
      have hj : j < sC σ w := by omega
      have b1 := hI.bgC v (show i + 1 ≤ sC σ v by omega)
      have b2 := hI.bgC w (show j + 1 ≤ sC σ w by omega)
      have b3 := bg_mono σ v (show i ≤ i + 1 by omega)
      have b4 := bg_mono σ w (show j ≤ j + 1 by omega)
      refine lv_aload_n (pc := 22) hx hb dX1_firstClashingMinim_22 rfl (lv_at hl 2 rfl) ?_
      refine va_getN (v := .ref (gA g v 4)) (pc := 23) (D := gD g) (ci := 0) (C := RX0) (T := TX0) (N := 10) hx hb hts hinX0 hown hK hP (2 + 6 * v) (cv0 g σ rest hv) rfl 9 (by decide) (va_Nw.use rfl (nf_116 hX)) (fun _ h9 => h9) rfl dX1_firstClashingMinim_23 ?_
      refine lv_iload_n (pc := 26) hx hb dX1_firstClashingMinim_26 rfl (lv_at hl 1 rfl) ?_
      refine lv_iconst (v := 1) (pc := 27) hx hb dX1_firstClashingMinim_27 (by decide) ?_
      refine lv_iadd (pc := 28) hx hb dX1_firstClashingMinim_28 ?_
      refine k_cong (y := nI (i + 1)) (nI_1 i) ?_
      refine k_iald (pc := 29) (x := sB σ v (i + 1)) hx hb hK hP (7 + 6 * v) 0 (cv5 g σ rest hv) rfl (i + 1) rfl (by omega) (by decide) rfl dX1_firstClashingMinim_29 ?_
      refine k_cong (y := nI (bg σ v (i + 1))) (hI.B (by omega)) ?_
      refine lv_istore (lv' := [(5, .int (nI (bg σ v (i + 1)))), (4, .int (nI j)), (3, .int (nI i)), (0, .ref (gV g v)), (1, .ref (gV g w)), (2, .int u0)]) (pc := 30) hx hb dX1_firstClashingMinim_30 hl (by decide) rfl (fun ls hl => ?_)
      refine lv_aload_n (pc := 32) hx hb dX1_firstClashingMinim_32 rfl (lv_at hl 4 rfl) ?_
      refine va_getN (v := .ref (gA g w 4)) (pc := 33) (D := gD g) (ci := 0) (C := RX0) (T := TX0) (N := 10) hx hb hts hinX0 hown hK hP (2 + 6 * w) (cv0 g σ rest hw) rfl 9 (by decide) (va_Nw.use rfl (nf_116 hX)) (fun _ h9 => h9) rfl dX1_firstClashingMinim_33 ?_
      refine lv_iload (pc := 36) hx hb dX1_firstClashingMinim_36 (lv_at hl 1 rfl) ?_
      refine lv_iconst (v := 1) (pc := 38) hx hb dX1_firstClashingMinim_38 (by decide) ?_
      refine lv_iadd (pc := 39) hx hb dX1_firstClashingMinim_39 ?_
      refine k_cong (y := nI (j + 1)) (nI_1 j) ?_
      refine k_iald (pc := 40) (x := sB σ w (j + 1)) hx hb hK hP (7 + 6 * w) 0 (cv5 g σ rest hw) rfl (j + 1) rfl (by omega) (by decide) rfl dX1_firstClashingMinim_40 ?_
      refine k_cong (y := nI (bg σ w (j + 1))) (hI.B (by omega)) ?_
      refine lv_istore (lv' := [(6, .int (nI (bg σ w (j + 1)))), (5, .int (nI (bg σ v (i + 1)))), (4, .int (nI j)), (3, .int (nI i)), (0, .ref (gV g v)), (1, .ref (gV g w)), (2, .int u0)]) (pc := 41) hx hb dX1_firstClashingMinim_41 hl (by decide) rfl (fun ls hl => ?_)
      refine lv_aload_n (pc := 43) hx hb dX1_firstClashingMinim_43 rfl (lv_at hl 4 rfl) ?_
      refine va_getN (v := .ref (gA g v 4)) (pc := 44) (D := gD g) (ci := 0) (C := RX0) (T := TX0) (N := 10) hx hb hts hinX0 hown hK hP (2 + 6 * v) (cv0 g σ rest hv) rfl 9 (by decide) (va_Nw.use rfl (nf_116 hX)) (fun _ h9 => h9) rfl dX1_firstClashingMinim_44 ?_
      refine lv_iload_n (pc := 47) hx hb dX1_firstClashingMinim_47 rfl (lv_at hl 3 rfl) ?_
      refine k_iald (pc := 48) (x := sB σ v i) hx hb hK hP (7 + 6 * v) 0 (cv5 g σ rest hv) rfl i rfl (by omega) (by decide) rfl dX1_firstClashingMinim_48 ?_
      refine k_cong (y := nI (bg σ v i)) (hI.B (by omega)) ?_
      refine lv_aload_n (pc := 49) hx hb dX1_firstClashingMinim_49 rfl (lv_at hl 5 rfl) ?_
      refine va_getN (v := .ref (gA g w 4)) (pc := 50) (D := gD g) (ci := 0) (C := RX0) (T := TX0) (N := 10) hx hb hts hinX0 hown hK hP (2 + 6 * w) (cv0 g σ rest hw) rfl 9 (by decide) (va_Nw.use rfl (nf_116 hX)) (fun _ h9 => h9) rfl dX1_firstClashingMinim_50 ?_
      refine lv_iload (pc := 53) hx hb dX1_firstClashingMinim_53 (lv_at hl 2 rfl) ?_
      refine k_iald (pc := 55) (x := sB σ w j) hx hb hK hP (7 + 6 * w) 0 (cv5 g σ rest hw) rfl j rfl (by omega) (by decide) rfl dX1_firstClashingMinim_55 ?_
      refine k_cong (y := nI (bg σ w j)) (hI.B (by omega)) ?_
      refine va_mmax (pc := 56) hx hb (hml.trans hl.1.symm) hown (hts (.methodLink RX1 119 Lib.Math.max.name) (by decide +kernel)) (hts (.static Lib.Math.max.name) (by decide +kernel)) (hts (.initialized "java/lang/Math") (by decide +kernel)) (hts (.code Lib.Math.max.name Lib.Math.max.code 2 (some .int)) (by decide +kernel)) (Nat.le_of_ble_eq_true rfl) (Nat.le_of_ble_eq_true rfl) (Nat.le_of_ble_eq_true rfl) (Nat.le_of_ble_eq_true rfl) dX1_firstClashingMinim_56 ?_
      refine k_cong (y := nI (max (bg σ v i) (bg σ w j))) (mxI (by omega) (by omega)) ?_
      refine lv_istore (lv' := [(7, .int (nI (max (bg σ v i) (bg σ w j)))), (6, .int (nI (bg σ w (j + 1)))), (5, .int (nI (bg σ v (i + 1)))), (4, .int (nI j)), (3, .int (nI i)), (0, .ref (gV g v)), (1, .ref (gV g w)), (2, .int u0)]) (pc := 59) hx hb dX1_firstClashingMinim_59 hl (by decide) rfl (fun ls hl => ?_)
      refine lv_iload (pc := 61) hx hb dX1_firstClashingMinim_61 (lv_at hl 2 rfl) ?_
      refine lv_iload (pc := 63) hx hb dX1_firstClashingMinim_63 (lv_at hl 1 rfl) ?_
      refine va_mmin (pc := 65) hx hb (hml.trans hl.1.symm) hown (hts (.methodLink RX1 190 Lib.Math.min.name) (by decide +kernel)) (hts (.static Lib.Math.min.name) (by decide +kernel)) (hts (.initialized "java/lang/Math") (by decide +kernel)) (hts (.code Lib.Math.min.name Lib.Math.min.code 2 (some .int)) (by decide +kernel)) (Nat.le_of_ble_eq_true rfl) (Nat.le_of_ble_eq_true rfl) (Nat.le_of_ble_eq_true rfl) (Nat.le_of_ble_eq_true rfl) dX1_firstClashingMinim_65 ?_
      refine k_cong (y := nI (min (bg σ v (i + 1)) (bg σ w (j + 1)))) (mnI (by omega) (by omega)) ?_
      refine lv_istore (lv' := [(8, .int (nI (min (bg σ v (i + 1)) (bg σ w (j + 1))))), (7, .int (nI (max (bg σ v i) (bg σ w j)))), (6, .int (nI (bg σ w (j + 1)))), (5, .int (nI (bg σ v (i + 1)))), (4, .int (nI j)), (3, .int (nI i)), (0, .ref (gV g v)), (1, .ref (gV g w)), (2, .int u0)]) (pc := 68) hx hb dX1_firstClashingMinim_68 hl (by decide) rfl (fun ls hl => ?_)
      refine lv_iload (pc := 70) hx hb dX1_firstClashingMinim_70 (lv_at hl 1 rfl) ?_
      refine lv_iload (pc := 72) hx hb dX1_firstClashingMinim_72 (lv_at hl 0 rfl) ?_
      refine lv_icmp_ge (tgt := 92) (pc := 74) hx hb dX1_firstClashingMinim_74 (by decide) (fun c3 => ?_) (fun c3 => ?_)
      · have c3 : min (bg σ v (i + 1)) (bg σ w (j + 1)) ≤ max (bg σ v i) (bg σ w j) := (nI_leI (a := min (bg σ v (i + 1)) (bg σ w (j + 1))) (b := max (bg σ v i) (bg σ w j)) (by omega) (by omega)).mp c3
        refine lv_iload (pc := 92) hx hb dX1_firstClashingMinim_92 (lv_at hl 3 rfl) ?_
        refine lv_iload (pc := 94) hx hb dX1_firstClashingMinim_94 (lv_at hl 2 rfl) ?_
        refine lv_icmp_gt (tgt := 105) (pc := 96) hx hb dX1_firstClashingMinim_96 (by decide) (fun c5 => ?_) (fun c5 => ?_)
        · have c5 : bg σ w (j + 1) < bg σ v (i + 1) := (nI_ltI (a := bg σ w (j + 1)) (b := bg σ v (i + 1)) (by omega) (by omega)).mp c5
          refine lv_iinc (v := nI (j + 1)) (lv' := [(4, .int (nI (j + 1))), (8, .int (nI (min (bg σ v (i + 1)) (bg σ w (j + 1))))), (7, .int (nI (max (bg σ v i) (bg σ w j)))), (6, .int (nI (bg σ w (j + 1)))), (5, .int (nI (bg σ v (i + 1)))), (3, .int (nI i)), (0, .ref (gV g v)), (1, .ref (gV g w)), (2, .int u0)]) (pc := 105) hx hb dX1_firstClashingMinim_105 hl (k := 4) rfl (nI_1 _) (by decide) rfl (fun ls hl => ?_)
          refine lv_goto (tgt := 5) (pc := 108) hx hb dX1_firstClashingMinim_108 (by decide) ?_
          exact ih_5 i (j + 1) ⟨⟨by omega, by omega⟩, by first | exact f0_i h0 hi hj (by omega) (Or.inl (by omega)) | exact f0_i h0 hi hj (by omega) (Or.inr c4) | exact f0_j h0 hi hj (by omega) (Or.inl (by omega)) | exact f0_j h0 hi hj (by omega) (Or.inr c4)⟩ (by omega) _ (lv_sub hl [0, 5, 6, 7, 8] rfl)
        · have c5 : ¬ (bg σ w (j + 1) < bg σ v (i + 1)) := fun z => c5 ((nI_ltI (a := bg σ w (j + 1)) (b := bg σ v (i + 1)) (by omega) (by omega)).mpr z)
          refine lv_iinc (v := nI (i + 1)) (lv' := [(3, .int (nI (i + 1))), (8, .int (nI (min (bg σ v (i + 1)) (bg σ w (j + 1))))), (7, .int (nI (max (bg σ v i) (bg σ w j)))), (6, .int (nI (bg σ w (j + 1)))), (5, .int (nI (bg σ v (i + 1)))), (4, .int (nI j)), (0, .ref (gV g v)), (1, .ref (gV g w)), (2, .int u0)]) (pc := 99) hx hb dX1_firstClashingMinim_99 hl (k := 5) rfl (nI_1 _) (by decide) rfl (fun ls hl => ?_)
          refine lv_goto (tgt := 108) (pc := 102) hx hb dX1_firstClashingMinim_102 (by decide) ?_
          refine lv_goto (tgt := 5) (pc := 108) hx hb dX1_firstClashingMinim_108 (by decide) ?_
          exact ih_5 (i + 1) j ⟨⟨by omega, by omega⟩, by first | exact f0_i h0 hi hj (by omega) (Or.inl (by omega)) | exact f0_i h0 hi hj (by omega) (Or.inr c4) | exact f0_j h0 hi hj (by omega) (Or.inl (by omega)) | exact f0_j h0 hi hj (by omega) (Or.inr c4)⟩ (by omega) _ (lv_sub hl [5, 0, 6, 7, 8] rfl)
      · have c3 : ¬ (min (bg σ v (i + 1)) (bg σ w (j + 1)) ≤ max (bg σ v i) (bg σ w j)) := fun z => c3 ((nI_leI (a := min (bg σ v (i + 1)) (bg σ w (j + 1))) (b := max (bg σ v i) (bg σ w j)) (by omega) (by omega)).mpr z)
        refine lv_aload_n (pc := 77) hx hb dX1_firstClashingMinim_77 rfl (lv_at hl 6 rfl) ?_
        refine lv_iload_n (pc := 78) hx hb dX1_firstClashingMinim_78 rfl (lv_at hl 5 rfl) ?_
        refine lv_aload_n (pc := 79) hx hb dX1_firstClashingMinim_79 rfl (lv_at hl 7 rfl) ?_
        refine lv_iload (pc := 80) hx hb dX1_firstClashingMinim_80 (lv_at hl 4 rfl) ?_
        refine lv_iload_n (pc := 82) hx hb dX1_firstClashingMinim_82 rfl (lv_at hl 8 rfl) ?_
        refine k_ri (pc := 83) (va_runS (As := [.ref (gV g v), .int (nI i), .ref (gV g w), .int (nI j), .int u0]) (rest := []) ⟨hx, hb, hml, hown, hts⟩ (cX1_signsClash_m l g A σ rest v w i j u0 hv hw (by omega) (by omega)) (va_cwS 5 hts gX1_firstClashingMinim_X1_signsClash rfl rfl rfl (by decide +kernel) ⟨Nat.le_of_ble_eq_true rfl, Nat.le_of_ble_eq_true rfl⟩) (cx_S hP hD hA hK hX hS) rfl rfl hl.1 rfl (lv_room (Nat.le_of_ble_eq_true rfl)) dX1_firstClashingMinim_83 ⟨Nat.le_of_ble_eq_true rfl, Nat.le_of_ble_eq_true rfl⟩) (fun r_5 hr_5 => ?_)
        subst hr_5
        refine lv_if_eq (tgt := 92) (pc := 86) hx hb dX1_firstClashingMinim_86 (by decide) (fun c4 => ?_) (fun c4 => ?_)
        · have c4 := bI_0.mp c4
          refine lv_iload (pc := 92) hx hb dX1_firstClashingMinim_92 (lv_at hl 3 rfl) ?_
          refine lv_iload (pc := 94) hx hb dX1_firstClashingMinim_94 (lv_at hl 2 rfl) ?_
          refine lv_icmp_gt (tgt := 105) (pc := 96) hx hb dX1_firstClashingMinim_96 (by decide) (fun c5 => ?_) (fun c5 => ?_)
          · have c5 : bg σ w (j + 1) < bg σ v (i + 1) := (nI_ltI (a := bg σ w (j + 1)) (b := bg σ v (i + 1)) (by omega) (by omega)).mp c5
            refine lv_iinc (v := nI (j + 1)) (lv' := [(4, .int (nI (j + 1))), (8, .int (nI (min (bg σ v (i + 1)) (bg σ w (j + 1))))), (7, .int (nI (max (bg σ v i) (bg σ w j)))), (6, .int (nI (bg σ w (j + 1)))), (5, .int (nI (bg σ v (i + 1)))), (3, .int (nI i)), (0, .ref (gV g v)), (1, .ref (gV g w)), (2, .int u0)]) (pc := 105) hx hb dX1_firstClashingMinim_105 hl (k := 4) rfl (nI_1 _) (by decide) rfl (fun ls hl => ?_)
            refine lv_goto (tgt := 5) (pc := 108) hx hb dX1_firstClashingMinim_108 (by decide) ?_
            exact ih_5 i (j + 1) ⟨⟨by omega, by omega⟩, by first | exact f0_i h0 hi hj (by omega) (Or.inl (by omega)) | exact f0_i h0 hi hj (by omega) (Or.inr c4) | exact f0_j h0 hi hj (by omega) (Or.inl (by omega)) | exact f0_j h0 hi hj (by omega) (Or.inr c4)⟩ (by omega) _ (lv_sub hl [0, 5, 6, 7, 8] rfl)
          · have c5 : ¬ (bg σ w (j + 1) < bg σ v (i + 1)) := fun z => c5 ((nI_ltI (a := bg σ w (j + 1)) (b := bg σ v (i + 1)) (by omega) (by omega)).mpr z)
            refine lv_iinc (v := nI (i + 1)) (lv' := [(3, .int (nI (i + 1))), (8, .int (nI (min (bg σ v (i + 1)) (bg σ w (j + 1))))), (7, .int (nI (max (bg σ v i) (bg σ w j)))), (6, .int (nI (bg σ w (j + 1)))), (5, .int (nI (bg σ v (i + 1)))), (4, .int (nI j)), (0, .ref (gV g v)), (1, .ref (gV g w)), (2, .int u0)]) (pc := 99) hx hb dX1_firstClashingMinim_99 hl (k := 5) rfl (nI_1 _) (by decide) rfl (fun ls hl => ?_)
            refine lv_goto (tgt := 108) (pc := 102) hx hb dX1_firstClashingMinim_102 (by decide) ?_
            refine lv_goto (tgt := 5) (pc := 108) hx hb dX1_firstClashingMinim_108 (by decide) ?_
            exact ih_5 (i + 1) j ⟨⟨by omega, by omega⟩, by first | exact f0_i h0 hi hj (by omega) (Or.inl (by omega)) | exact f0_i h0 hi hj (by omega) (Or.inr c4) | exact f0_j h0 hi hj (by omega) (Or.inl (by omega)) | exact f0_j h0 hi hj (by omega) (Or.inr c4)⟩ (by omega) _ (lv_sub hl [5, 0, 6, 7, 8] rfl)
        · have c4 := bI_n0.mp c4
          refine lv_iload (pc := 89) hx hb dX1_firstClashingMinim_89 (lv_at hl 1 rfl) ?_
          exact W.iret hx hb hr (fun t ht hW => ⟨_, rfl, (fs_hit h0 hi hj c4 (by omega) (by omega)).symm, ht⟩) (fun q hq => absurd hq List.not_mem_nil) dX1_firstClashingMinim_91
