/-! THE CLASS: the best clef, the best delay, the checksum -/
set_option maxHeartbeats 4000000 in
set_option maxRecDepth 100000 in
/-- clashes with the others, if it had this clef -/
theorem cX1_clashesIfClef_m (l : Launch) (g : GA) (A : Nat → Prop) (σ : St) (rest : va_W) (v : Nat) (c0 : Int32) (hv : v < 4) (hI : Inv σ) : Met l yX1_clashesIfClef wsX1_clashesIfClef ({ frames := 3, cells := 0, slots := 0, locals := 76 }) (va_Pc [.ref (gX g), .ref (gV g v), .int c0] (Cx g A (cw g σ ++ rest))) (vp_Si (fun r : Int32 => r = nI (cwN σ v c0))) 0 0 (fun _ => False) := by
  refine Met.ofW (cc := cX1_clashesIfClef) (maxL := 6) (ret := (some .int)) (by decide) rfl ?_
  intro p e s m args below meth c s₁ B hml hv0
  obtain ⟨rfl, hP, hD, hA, hK, hX⟩ := hv0
  have hx := B.exec
  have hb := B.bytes
  have hr := B.returns
  have hts := atoms_spec (ws := wsX1_clashesIfClef) B.pre
  have hown : s.vm.findClass RX1 = some m.cls := findClass_of_methodNamed B.named
  have hlocks := B.notSynchronized
  have hS : va_S A s.heap s.heap [] := va_S.rf
  have hinX0 : ∀ w ∈ u_ws RX0 TX0 10, w ∈ wsX1_clashesIfClef := by decide +kernel
  have hinX1 : ∀ w ∈ u_ws RX1 TX1 2, w ∈ wsX1_clashesIfClef := by decide +kernel
  have hl := lv_entry ([.ref (gX g), .ref (gV g v), .int c0]) (n := 6) (Nat.le_of_ble_eq_true rfl)
  rw [lg_entry_eq]
  generalize (lg_sl ([.ref (gX g), .ref (gV g v), .int c0]) ++ List.replicate (6 - (lg_sl ([.ref (gX g), .ref (gV g v), .int c0])).length) Slot.unset).toArray = ls at hl ⊢
  have hl : lv_has ls 6 [(0, .ref (gX g)), (1, .ref (gV g v)), (2, .int c0)] := hl
  have hN := hI.N
  refine lv_iconst (v := 0) (pc := 0) hx hb dX1_clashesIfClef_0 (by decide) ?_
  refine lv_istore_n (lv' := [(3, .int 0), (0, .ref (gX g)), (1, .ref (gV g v)), (2, .int c0)]) (pc := 1) hx hb dX1_clashesIfClef_1 rfl hl (by decide) rfl (fun ls hl => ?_)
  refine lv_iconst (v := 0) (pc := 2) hx hb dX1_clashesIfClef_2 (by decide) ?_
  refine lv_istore (lv' := [(4, .int 0), (3, .int 0), (0, .ref (gX g)), (1, .ref (gV g v)), (2, .int c0)]) (pc := 3) hx hb dX1_clashesIfClef_3 hl (by decide) rfl (fun ls hl => ?_)
  refine k_loop2 (pc := 5) (nL := 6) (fun (i : Nat) (x : Int32) => i ≤ sN σ ∧ x = nI (sum (cwF σ v c0) i)) (fun (i : Nat) (x : Int32) => sN σ - i) (fun (i : Nat) (x : Int32) => [(4, .int (nI i)), (3, .int x), (0, .ref (gX g)), (1, .ref (gV g v)), (2, .int c0)]) (fun i x hJ ih_5 ls hl => ?_) 0 0 ⟨Nat.zero_le _, rfl⟩ (lv_sub hl [0, 1, 2, 3, 4] rfl)
  obtain ⟨hi, hx0⟩ := hJ
  have hl : lv_has ls 6 [(4, .int (nI i)), (3, .int x), (0, .ref (gX g)), (1, .ref (gV g v)), (2, .int c0)] := hl
  refine lv_iload (pc := 5) hx hb dX1_clashesIfClef_5 (lv_at hl 0 rfl) ?_
  refine lv_aload_n (pc := 7) hx hb dX1_clashesIfClef_7 rfl (lv_at hl 2 rfl) ?_
  refine va_get (v := .int (nI (sN σ))) (pc := 8) (D := gD g) (ci := 1) (C := RX1) (T := TX1) (N := 2) hx hb hts hinX1 hown hK hP 0 (cx0 g σ rest) rfl 1 (by decide) (hts (.fieldLink RX1 20 "ChoirNotes" "voiceCount" "I") (by decide +kernel)) (fun _ h9 => h9) rfl dX1_clashesIfClef_8 ?_
  refine lv_icmp_ge (tgt := 63) (pc := 11) hx hb dX1_clashesIfClef_11 (by decide) (fun c1 => ?_) (fun c1 => ?_)
  · have c1 : sN σ ≤ i := (nI_leI (a := sN σ) (b := i) (by omega) (by omega)).mp c1
    refine lv_iload_n (pc := 63) hx hb dX1_clashesIfClef_63 rfl (lv_at hl 1 rfl) ?_
    exact W.iret hx hb hr (fun t ht hW => ⟨_, rfl, (by rw [hx0, show i = sN σ by omega]; rfl), ht⟩) (fun q hq => absurd hq List.not_mem_nil) dX1_clashesIfClef_64
  · have c1 : ¬ (sN σ ≤ i) := fun z => c1 ((nI_leI (a := sN σ) (b := i) (by omega) (by omega)).mpr z)
    refine lv_aload_n (pc := 14) hx hb dX1_clashesIfClef_14 rfl (lv_at hl 2 rfl) ?_
    refine va_get (v := .ref (gK g)) (pc := 15) (D := gD g) (ci := 1) (C := RX1) (T := TX1) (N := 2) hx hb hts hinX1 hown hK hP 0 (cx0 g σ rest) rfl 0 (by decide) (hts (.fieldLink RX1 11 "ChoirNotes" "book" "[LChoirNotes$Voice;") (by decide +kernel)) (fun _ h9 => h9) rfl dX1_clashesIfClef_15 ?_
    refine lv_iload (pc := 18) hx hb dX1_clashesIfClef_18 (lv_at hl 0 rfl) ?_
    refine k_aald (pc := 20) (x := gV g i) hx hb hK hP 1 2 (cx1 g σ rest) rfl i rfl (show i < 4 by omega) (by decide) (if_pos (show i < 4 by omega)) dX1_clashesIfClef_20 ?_
    refine lv_astore (lv' := [(5, .ref (gV g i)), (4, .int (nI i)), (3, .int x), (0, .ref (gX g)), (1, .ref (gV g v)), (2, .int c0)]) (pc := 21) hx hb dX1_clashesIfClef_21 hl (by decide) rfl (fun ls hl => ?_)
    refine lv_aload (pc := 23) hx hb dX1_clashesIfClef_23 (lv_at hl 0 rfl) ?_
    refine lv_aload_n (pc := 25) hx hb dX1_clashesIfClef_25 rfl (lv_at hl 4 rfl) ?_
    refine lv_acmp_eq (pc := 26) (tgt := 57) (rx := some (gV g i)) (ry := some (gV g v)) hx hb dX1_clashesIfClef_26 (by decide) (fun c2 => ?_) (fun c2 => ?_)
    · have c2 : i = v := gV_inj hD (by omega) (by omega) (Option.some.inj c2)
      refine lv_iinc (v := nI (i + 1)) (lv' := [(4, .int (nI (i + 1))), (5, .ref (gV g i)), (3, .int x), (0, .ref (gX g)), (1, .ref (gV g v)), (2, .int c0)]) (pc := 57) hx hb dX1_clashesIfClef_57 hl (k := 1) rfl (nI_1 _) (by decide) rfl (fun ls hl => ?_)
      refine lv_goto (tgt := 5) (pc := 60) hx hb dX1_clashesIfClef_60 (by decide) ?_
      exact ih_5 (i + 1) x ⟨by omega, by first | exact sm_0 hx0 (cwF_v c2) | exact sm_0 hx0 (cwF_n c2 c3) | exact sm_p hx0 (cwF_c c2 c3)⟩ (by omega) _ (lv_sub hl [0, 2, 3, 4, 5] rfl)
    · have c2 : ¬ i = v := fun q => c2 (by rw [q])
      refine lv_aload (pc := 29) hx hb dX1_clashesIfClef_29 (lv_at hl 0 rfl) ?_
      refine va_getN (v := .int (sL σ i)) (pc := 31) (D := gD g) (ci := 0) (C := RX0) (T := TX0) (N := 10) hx hb hts hinX0 hown hK hP (2 + 6 * i) (cv0 g σ rest (show i < 4 by omega)) rfl 3 (by decide) (va_Nw.use rfl (nf_86 hX)) (fun _ h9 => h9) rfl dX1_clashesIfClef_31 ?_
      refine lv_iconst (v := (-1)) (pc := 34) hx hb dX1_clashesIfClef_34 (by decide) ?_
      refine lv_icmp_eq (tgt := 57) (pc := 35) hx hb dX1_clashesIfClef_35 (by decide) (fun c3 => ?_) (fun c3 => ?_)
      · refine lv_iinc (v := nI (i + 1)) (lv' := [(4, .int (nI (i + 1))), (5, .ref (gV g i)), (3, .int x), (0, .ref (gX g)), (1, .ref (gV g v)), (2, .int c0)]) (pc := 57) hx hb dX1_clashesIfClef_57 hl (k := 1) rfl (nI_1 _) (by decide) rfl (fun ls hl => ?_)
        refine lv_goto (tgt := 5) (pc := 60) hx hb dX1_clashesIfClef_60 (by decide) ?_
        exact ih_5 (i + 1) x ⟨by omega, by first | exact sm_0 hx0 (cwF_v c2) | exact sm_0 hx0 (cwF_n c2 c3) | exact sm_p hx0 (cwF_c c2 c3)⟩ (by omega) _ (lv_sub hl [0, 2, 3, 4, 5] rfl)
      · refine lv_iload_n (pc := 38) hx hb dX1_clashesIfClef_38 rfl (lv_at hl 2 rfl) ?_
        refine lv_aload_n (pc := 39) hx hb dX1_clashesIfClef_39 rfl (lv_at hl 4 rfl) ?_
        refine lv_aload (pc := 40) hx hb dX1_clashesIfClef_40 (lv_at hl 0 rfl) ?_
        refine lv_iconst (v := 0) (pc := 42) hx hb dX1_clashesIfClef_42 (by decide) ?_
        refine lv_iconst (v := 2) (pc := 43) hx hb dX1_clashesIfClef_43 (by decide) ?_
        refine lv_aload (pc := 44) hx hb dX1_clashesIfClef_44 (lv_at hl 0 rfl) ?_
        refine va_getN (v := .int (sL σ i)) (pc := 46) (D := gD g) (ci := 0) (C := RX0) (T := TX0) (N := 10) hx hb hts hinX0 hown hK hP (2 + 6 * i) (cv0 g σ rest (show i < 4 by omega)) rfl 3 (by decide) (va_Nw.use rfl (nf_86 hX)) (fun _ h9 => h9) rfl dX1_clashesIfClef_46 ?_
        refine lv_iload_n (pc := 49) hx hb dX1_clashesIfClef_49 rfl (lv_at hl 5 rfl) ?_
        refine lv_isub (pc := 50) hx hb dX1_clashesIfClef_50 ?_
        refine lv_imul (pc := 51) hx hb dX1_clashesIfClef_51 ?_
        refine k_ri (pc := 52) (va_runS (As := [.ref (gV g v), .ref (gV g i), .int 0, .int (2 * ((sL σ i) - c0))]) (rest := [.int x]) ⟨hx, hb, hml, hown, hts⟩ (cX1_clashingMinims_m l g A σ rest v i 0 (2 * ((sL σ i) - c0)) hv (show i < 4 by omega) hI (by omega)) (va_cwS 4 hts gX1_clashesIfClef_X1_clashingMinims rfl rfl rfl (by decide +kernel) ⟨Nat.le_of_ble_eq_true rfl, Nat.le_of_ble_eq_true rfl⟩) (cx_S hP hD hA hK hX hS) rfl rfl hl.1 rfl (lv_room (Nat.le_of_ble_eq_true rfl)) dX1_clashesIfClef_52 ⟨Nat.le_of_ble_eq_true rfl, Nat.le_of_ble_eq_true rfl⟩) (fun r_3 hr_3 => ?_)
        subst hr_3
        refine lv_iadd (pc := 55) hx hb dX1_clashesIfClef_55 ?_
        refine lv_istore_n (lv' := [(3, .int (x + (nI (clN σ v i 0 (2 * ((sL σ i) - c0)))))), (5, .ref (gV g i)), (4, .int (nI i)), (0, .ref (gX g)), (1, .ref (gV g v)), (2, .int c0)]) (pc := 56) hx hb dX1_clashesIfClef_56 rfl hl (by decide) rfl (fun ls hl => ?_)
        refine lv_iinc (v := nI (i + 1)) (lv' := [(4, .int (nI (i + 1))), (3, .int (x + (nI (clN σ v i 0 (2 * ((sL σ i) - c0)))))), (5, .ref (gV g i)), (0, .ref (gX g)), (1, .ref (gV g v)), (2, .int c0)]) (pc := 57) hx hb dX1_clashesIfClef_57 hl (k := 2) rfl (nI_1 _) (by decide) rfl (fun ls hl => ?_)
        refine lv_goto (tgt := 5) (pc := 60) hx hb dX1_clashesIfClef_60 (by decide) ?_
        exact ih_5 (i + 1) (x + (nI (clN σ v i 0 (2 * ((sL σ i) - c0))))) ⟨by omega, by first | exact sm_0 hx0 (cwF_v c2) | exact sm_0 hx0 (cwF_n c2 c3) | exact sm_p hx0 (cwF_c c2 c3)⟩ (by omega) _ (lv_sub hl [0, 1, 3, 4, 5] rfl)
set_option maxHeartbeats 4000000 in
set_option maxRecDepth 100000 in
/-- the clef with the fewest clashes -/
theorem cX1_clefWithFewestClashes_m (l : Launch) (g : GA) (A : Nat → Prop) (σ : St) (rest : va_W) (v : Nat) (hv : v < 4) (hI : Inv σ) : Met l yX1_clefWithFewestClashes wsX1_clefWithFewestClashes ({ frames := 4, cells := 0, slots := 0, locals := 101 }) (va_Pc [.ref (gX g), .ref (gV g v)] (Cx g A (cw g σ ++ rest))) (vp_Si (fun r : Int32 => r = bcl σ v)) 0 0 (fun _ => False) := by
  refine Met.ofW (cc := cX1_clefWithFewestClashes) (maxL := 6) (ret := (some .int)) (by decide) rfl ?_
  intro p e s m args below meth c s₁ B hml hv0
  obtain ⟨rfl, hP, hD, hA, hK, hX⟩ := hv0
  have hx := B.exec
  have hb := B.bytes
  have hr := B.returns
  have hts := atoms_spec (ws := wsX1_clefWithFewestClashes) B.pre
  have hown : s.vm.findClass RX1 = some m.cls := findClass_of_methodNamed B.named
  have hlocks := B.notSynchronized
  have hS : va_S A s.heap s.heap [] := va_S.rf
  have hl := lv_entry ([.ref (gX g), .ref (gV g v)]) (n := 6) (Nat.le_of_ble_eq_true rfl)
  rw [lg_entry_eq]
  generalize (lg_sl ([.ref (gX g), .ref (gV g v)]) ++ List.replicate (6 - (lg_sl ([.ref (gX g), .ref (gV g v)])).length) Slot.unset).toArray = ls at hl ⊢
  have hl : lv_has ls 6 [(0, .ref (gX g)), (1, .ref (gV g v))] := hl
  refine lv_iconst (v := (-1)) (pc := 0) hx hb dX1_clefWithFewestClashes_0 (by decide) ?_
  refine lv_istore_n (lv' := [(2, .int ((-1))), (0, .ref (gX g)), (1, .ref (gV g v))]) (pc := 1) hx hb dX1_clefWithFewestClashes_1 rfl hl (by decide) rfl (fun ls hl => ?_)
  refine lv_ldc (pc := 2) (v := 2147483647) hx hb hown (hts (.constant RX1 126 2147483647) (by decide +kernel)) dX1_clefWithFewestClashes_2 ?_
  refine lv_istore_n (lv' := [(3, .int 2147483647), (2, .int ((-1))), (0, .ref (gX g)), (1, .ref (gV g v))]) (pc := 4) hx hb dX1_clefWithFewestClashes_4 rfl hl (by decide) rfl (fun ls hl => ?_)
  refine lv_iconst (v := 0) (pc := 5) hx hb dX1_clefWithFewestClashes_5 (by decide) ?_
  refine lv_istore (lv' := [(4, .int 0), (3, .int 2147483647), (2, .int ((-1))), (0, .ref (gX g)), (1, .ref (gV g v))]) (pc := 6) hx hb dX1_clefWithFewestClashes_6 hl (by decide) rfl (fun ls hl => ?_)
  refine k_loop3 (pc := 8) (nL := 6) (fun (i : Nat) (b0 : Int32) (m0 : Int32) => i ≤ 6 ∧ bsR (bst (fun c => ft σ v (nI c)) (fun c => cwN σ v (nI c)) i) b0 m0) (fun (i : Nat) (b0 : Int32) (m0 : Int32) => 6 - i) (fun (i : Nat) (b0 : Int32) (m0 : Int32) => [(4, .int (nI i)), (3, .int m0), (2, .int b0), (0, .ref (gX g)), (1, .ref (gV g v))]) (fun i b0 m0 hJ ih_8 ls hl => ?_) 0 ((-1)) 2147483647 ⟨Nat.zero_le _, ⟨rfl, rfl⟩⟩ (lv_sub hl [0, 1, 2, 3, 4] rfl)
  obtain ⟨hi, hbs⟩ := hJ
  have hl : lv_has ls 6 [(4, .int (nI i)), (3, .int m0), (2, .int b0), (0, .ref (gX g)), (1, .ref (gV g v))] := hl
  refine lv_iload (pc := 8) hx hb dX1_clefWithFewestClashes_8 (lv_at hl 0 rfl) ?_
  refine lv_iconst (v := 5) (pc := 10) hx hb dX1_clefWithFewestClashes_10 (by decide) ?_
  refine lv_icmp_gt (tgt := 50) (pc := 11) hx hb dX1_clefWithFewestClashes_11 (by decide) (fun c1 => ?_) (fun c1 => ?_)
  · have c1 : 5 < i := (nI_ltI (a := 5) (b := i) (by omega) (by omega)).mp c1
    refine lv_iload_n (pc := 50) hx hb dX1_clefWithFewestClashes_50 rfl (lv_at hl 2 rfl) ?_
    exact W.iret hx hb hr (fun t ht hW => ⟨_, rfl, (by rw [bsR_I hbs, show i = 6 by omega]; rfl), ht⟩) (fun q hq => absurd hq List.not_mem_nil) dX1_clefWithFewestClashes_51
  · have c1 : ¬ (5 < i) := fun z => c1 ((nI_ltI (a := 5) (b := i) (by omega) (by omega)).mpr z)
    refine lv_aload_n (pc := 14) hx hb dX1_clefWithFewestClashes_14 rfl (lv_at hl 4 rfl) ?_
    refine lv_iload (pc := 15) hx hb dX1_clefWithFewestClashes_15 (lv_at hl 0 rfl) ?_
    refine k_ri (pc := 17) (va_runVN (As := [.int (nI i)]) (rest := []) ⟨hx, hb, hml, hown, hts⟩ (cX0_wouldFit_m l g A σ rest v (nI i) hv hI) ⟨va_cnB 1 hts gX1_clefWithFewestClashes_X0_wouldFit_n134 rfl rfl rfl (nm_134 hX) (hts (.initialized RX0) (by decide +kernel)) (by decide +kernel) ⟨Nat.le_of_ble_eq_true rfl, Nat.le_of_ble_eq_true rfl⟩, hts (.instanceMethod yX0_wouldFit) (by decide +kernel), hts (.selects RX0 yX0_wouldFit yX0_wouldFit) (by decide +kernel)⟩ (cx_V (q0 := (2 + 6 * v)) (ci := 0) (r := (RX0, TX0, 10)) rfl (cv0 g σ rest hv) hP hD hA hK hX hS) rfl rfl hl.1 rfl (lv_room (Nat.le_of_ble_eq_true rfl)) dX1_clefWithFewestClashes_17 ⟨Nat.le_of_ble_eq_true rfl, Nat.le_of_ble_eq_true rfl⟩) (fun r_2 hr_2 => ?_)
    subst hr_2
    refine lv_if_eq (tgt := 44) (pc := 20) hx hb dX1_clefWithFewestClashes_20 (by decide) (fun c2 => ?_) (fun c2 => ?_)
    · have c2 := bI_0.mp c2
      refine lv_iinc (v := nI (i + 1)) (lv' := [(4, .int (nI (i + 1))), (3, .int m0), (2, .int b0), (0, .ref (gX g)), (1, .ref (gV g v))]) (pc := 44) hx hb dX1_clefWithFewestClashes_44 hl (k := 0) rfl (nI_1 _) (by decide) rfl (fun ls hl => ?_)
      refine lv_goto (tgt := 8) (pc := 47) hx hb dX1_clefWithFewestClashes_47 (by decide) ?_
      exact ih_8 (i + 1) b0 m0 ⟨by omega, by first | exact bs_skip hbs c2 | exact bs_keep hbs (by have := cwN_le hI v (nI i); omega) c3 | exact bs_take hbs c2 (by have := cwN_le hI v (nI i); omega) c3⟩ (by omega) _ (lv_sub hl [0, 1, 2, 3, 4] rfl)
    · have c2 := bI_n0.mp c2
      refine lv_aload_n (pc := 23) hx hb dX1_clefWithFewestClashes_23 rfl (lv_at hl 3 rfl) ?_
      refine lv_aload_n (pc := 24) hx hb dX1_clefWithFewestClashes_24 rfl (lv_at hl 4 rfl) ?_
      refine lv_iload (pc := 25) hx hb dX1_clefWithFewestClashes_25 (lv_at hl 0 rfl) ?_
      refine k_ri (pc := 27) (va_runV (As := [.ref (gV g v), .int (nI i)]) (rest := []) ⟨hx, hb, hml, hown, hts⟩ (cX1_clashesIfClef_m l g A σ rest v (nI i) hv hI) (cwV 2 hts gX1_clefWithFewestClashes_X1_clashesIfClef rfl rfl rfl (by decide +kernel) ⟨Nat.le_of_ble_eq_true rfl, Nat.le_of_ble_eq_true rfl⟩) (cx_V (q0 := 0) (ci := 1) (r := (RX1, TX1, 2)) rfl (cx0 g σ rest) hP hD hA hK hX hS) rfl rfl hl.1 rfl (lv_room (Nat.le_of_ble_eq_true rfl)) dX1_clefWithFewestClashes_27 ⟨Nat.le_of_ble_eq_true rfl, Nat.le_of_ble_eq_true rfl⟩) (fun r_4 hr_4 => ?_)
      subst hr_4
      refine lv_istore (lv' := [(5, .int (nI (cwN σ v (nI i)))), (4, .int (nI i)), (3, .int m0), (2, .int b0), (0, .ref (gX g)), (1, .ref (gV g v))]) (pc := 30) hx hb dX1_clefWithFewestClashes_30 hl (by decide) rfl (fun ls hl => ?_)
      refine lv_iload (pc := 32) hx hb dX1_clefWithFewestClashes_32 (lv_at hl 0 rfl) ?_
      refine lv_iload_n (pc := 34) hx hb dX1_clefWithFewestClashes_34 rfl (lv_at hl 2 rfl) ?_
      refine lv_icmp_ge (tgt := 44) (pc := 35) hx hb dX1_clefWithFewestClashes_35 (by decide) (fun c3 => ?_) (fun c3 => ?_)
      · refine lv_iinc (v := nI (i + 1)) (lv' := [(4, .int (nI (i + 1))), (5, .int (nI (cwN σ v (nI i)))), (3, .int m0), (2, .int b0), (0, .ref (gX g)), (1, .ref (gV g v))]) (pc := 44) hx hb dX1_clefWithFewestClashes_44 hl (k := 1) rfl (nI_1 _) (by decide) rfl (fun ls hl => ?_)
        refine lv_goto (tgt := 8) (pc := 47) hx hb dX1_clefWithFewestClashes_47 (by decide) ?_
        exact ih_8 (i + 1) b0 m0 ⟨by omega, by first | exact bs_skip hbs c2 | exact bs_keep hbs (by have := cwN_le hI v (nI i); omega) c3 | exact bs_take hbs c2 (by have := cwN_le hI v (nI i); omega) c3⟩ (by omega) _ (lv_sub hl [0, 2, 3, 4, 5] rfl)
      · refine lv_iload (pc := 38) hx hb dX1_clefWithFewestClashes_38 (lv_at hl 1 rfl) ?_
        refine lv_istore_n (lv' := [(2, .int (nI i)), (5, .int (nI (cwN σ v (nI i)))), (4, .int (nI i)), (3, .int m0), (0, .ref (gX g)), (1, .ref (gV g v))]) (pc := 40) hx hb dX1_clefWithFewestClashes_40 rfl hl (by decide) rfl (fun ls hl => ?_)
        refine lv_iload (pc := 41) hx hb dX1_clefWithFewestClashes_41 (lv_at hl 1 rfl) ?_
        refine lv_istore_n (lv' := [(3, .int (nI (cwN σ v (nI i)))), (2, .int (nI i)), (5, .int (nI (cwN σ v (nI i)))), (4, .int (nI i)), (0, .ref (gX g)), (1, .ref (gV g v))]) (pc := 43) hx hb dX1_clefWithFewestClashes_43 rfl hl (by decide) rfl (fun ls hl => ?_)
        refine lv_iinc (v := nI (i + 1)) (lv' := [(4, .int (nI (i + 1))), (3, .int (nI (cwN σ v (nI i)))), (2, .int (nI i)), (5, .int (nI (cwN σ v (nI i)))), (0, .ref (gX g)), (1, .ref (gV g v))]) (pc := 44) hx hb dX1_clefWithFewestClashes_44 hl (k := 3) rfl (nI_1 _) (by decide) rfl (fun ls hl => ?_)
        refine lv_goto (tgt := 8) (pc := 47) hx hb dX1_clefWithFewestClashes_47 (by decide) ?_
        exact ih_8 (i + 1) (nI i) (nI (cwN σ v (nI i))) ⟨by omega, by first | exact bs_skip hbs c2 | exact bs_keep hbs (by have := cwN_le hI v (nI i); omega) c3 | exact bs_take hbs c2 (by have := cwN_le hI v (nI i); omega) c3⟩ (by omega) _ (lv_sub hl [0, 1, 2, 4, 5] rfl)
set_option maxHeartbeats 4000000 in
set_option maxRecDepth 100000 in
/-- the delay with the fewest clashes -/
theorem cX1_delayWithFewestClashes_m (l : Launch) (g : GA) (A : Nat → Prop) (σ : St) (rest : va_W) (v : Nat) (u0 : Int32) (hv : v < 4) (hI : Inv σ) : Met l yX1_delayWithFewestClashes wsX1_delayWithFewestClashes ({ frames := 3, cells := 0, slots := 0, locals := 76 }) (va_Pc [.ref (gV g v), .int u0] (Cx g A (cw g σ ++ rest))) (vp_Si (fun r : Int32 => r = bdl σ v u0)) 0 0 (fun _ => False) := by
  refine Met.ofW (cc := cX1_delayWithFewestClashes) (maxL := 6) (ret := (some .int)) (by decide) rfl ?_
  intro p e s m args below meth c s₁ B hml hv0
  obtain ⟨rfl, hP, hD, hA, hK, hX⟩ := hv0
  have hx := B.exec
  have hb := B.bytes
  have hr := B.returns
  have hts := atoms_spec (ws := wsX1_delayWithFewestClashes) B.pre
  have hown : s.vm.findClass RX1 = some m.cls := findClass_of_methodNamed B.named
  have hlocks := B.notSynchronized
  have hS : va_S A s.heap s.heap [] := va_S.rf
  have hl := lv_entry ([.ref (gV g v), .int u0]) (n := 6) (Nat.le_of_ble_eq_true rfl)
  rw [lg_entry_eq]
  generalize (lg_sl ([.ref (gV g v), .int u0]) ++ List.replicate (6 - (lg_sl ([.ref (gV g v), .int u0])).length) Slot.unset).toArray = ls at hl ⊢
  have hl : lv_has ls 6 [(0, .ref (gV g v)), (1, .int u0)] := hl
  refine lv_iconst (v := (-1)) (pc := 0) hx hb dX1_delayWithFewestClashes_0 (by decide) ?_
  refine lv_istore_n (lv' := [(2, .int ((-1))), (0, .ref (gV g v)), (1, .int u0)]) (pc := 1) hx hb dX1_delayWithFewestClashes_1 rfl hl (by decide) rfl (fun ls hl => ?_)
  refine lv_ldc (pc := 2) (v := 2147483647) hx hb hown (hts (.constant RX1 126 2147483647) (by decide +kernel)) dX1_delayWithFewestClashes_2 ?_
  refine lv_istore_n (lv' := [(3, .int 2147483647), (2, .int ((-1))), (0, .ref (gV g v)), (1, .int u0)]) (pc := 4) hx hb dX1_delayWithFewestClashes_4 rfl hl (by decide) rfl (fun ls hl => ?_)
  refine lv_iconst (v := 1) (pc := 5) hx hb dX1_delayWithFewestClashes_5 (by decide) ?_
  refine lv_istore (lv' := [(4, .int 1), (3, .int 2147483647), (2, .int ((-1))), (0, .ref (gV g v)), (1, .int u0)]) (pc := 6) hx hb dX1_delayWithFewestClashes_6 hl (by decide) rfl (fun ls hl => ?_)
  refine k_loop3 (pc := 8) (nL := 6) (fun (i : Nat) (b0 : Int32) (m0 : Int32) => (1 ≤ i ∧ i ≤ 49) ∧ bsR (bst (fun d => decide (1 ≤ d)) (fun d => clN σ v v d u0) i) b0 m0) (fun (i : Nat) (b0 : Int32) (m0 : Int32) => 49 - i) (fun (i : Nat) (b0 : Int32) (m0 : Int32) => [(4, .int (nI i)), (3, .int m0), (2, .int b0), (0, .ref (gV g v)), (1, .int u0)]) (fun i b0 m0 hJ ih_8 ls hl => ?_) 1 ((-1)) 2147483647 ⟨⟨Nat.le_refl _, by omega⟩, ⟨rfl, rfl⟩⟩ (lv_sub hl [0, 1, 2, 3, 4] rfl)
  obtain ⟨⟨hi1, hi⟩, hbs⟩ := hJ
  have hl : lv_has ls 6 [(4, .int (nI i)), (3, .int m0), (2, .int b0), (0, .ref (gV g v)), (1, .int u0)] := hl
  refine lv_iload (pc := 8) hx hb dX1_delayWithFewestClashes_8 (lv_at hl 0 rfl) ?_
  refine lv_bipush (v := 48) (pc := 10) hx hb dX1_delayWithFewestClashes_10 (by decide) ?_
  refine lv_icmp_gt (tgt := 43) (pc := 12) hx hb dX1_delayWithFewestClashes_12 (by decide) (fun c1 => ?_) (fun c1 => ?_)
  · have c1 : 48 < i := (nI_ltI (a := 48) (b := i) (by omega) (by omega)).mp c1
    refine lv_iload_n (pc := 43) hx hb dX1_delayWithFewestClashes_43 rfl (lv_at hl 2 rfl) ?_
    exact W.iret hx hb hr (fun t ht hW => ⟨_, rfl, (by rw [bsR_I hbs, show i = 49 by omega]; rfl), ht⟩) (fun q hq => absurd hq List.not_mem_nil) dX1_delayWithFewestClashes_44
  · have c1 : ¬ (48 < i) := fun z => c1 ((nI_ltI (a := 48) (b := i) (by omega) (by omega)).mpr z)
    refine lv_aload_n (pc := 15) hx hb dX1_delayWithFewestClashes_15 rfl (lv_at hl 3 rfl) ?_
    refine lv_aload_n (pc := 16) hx hb dX1_delayWithFewestClashes_16 rfl (lv_at hl 3 rfl) ?_
    refine lv_iload (pc := 17) hx hb dX1_delayWithFewestClashes_17 (lv_at hl 0 rfl) ?_
    refine lv_iload_n (pc := 19) hx hb dX1_delayWithFewestClashes_19 rfl (lv_at hl 4 rfl) ?_
    refine k_ri (pc := 20) (va_runS (As := [.ref (gV g v), .ref (gV g v), .int (nI i), .int u0]) (rest := []) ⟨hx, hb, hml, hown, hts⟩ (cX1_clashingMinims_m l g A σ rest v v i u0 hv hv hI (by omega)) (va_cwS 4 hts gX1_delayWithFewestClashes_X1_clashingMinims rfl rfl rfl (by decide +kernel) ⟨Nat.le_of_ble_eq_true rfl, Nat.le_of_ble_eq_true rfl⟩) (cx_S hP hD hA hK hX hS) rfl rfl hl.1 rfl (lv_room (Nat.le_of_ble_eq_true rfl)) dX1_delayWithFewestClashes_20 ⟨Nat.le_of_ble_eq_true rfl, Nat.le_of_ble_eq_true rfl⟩) (fun r_2 hr_2 => ?_)
    subst hr_2
    refine lv_istore (lv' := [(5, .int (nI (clN σ v v i u0))), (4, .int (nI i)), (3, .int m0), (2, .int b0), (0, .ref (gV g v)), (1, .int u0)]) (pc := 23) hx hb dX1_delayWithFewestClashes_23 hl (by decide) rfl (fun ls hl => ?_)
    refine lv_iload (pc := 25) hx hb dX1_delayWithFewestClashes_25 (lv_at hl 0 rfl) ?_
    refine lv_iload_n (pc := 27) hx hb dX1_delayWithFewestClashes_27 rfl (lv_at hl 2 rfl) ?_
    refine lv_icmp_ge (tgt := 37) (pc := 28) hx hb dX1_delayWithFewestClashes_28 (by decide) (fun c3 => ?_) (fun c3 => ?_)
    · refine lv_iinc (v := nI (i + 1)) (lv' := [(4, .int (nI (i + 1))), (5, .int (nI (clN σ v v i u0))), (3, .int m0), (2, .int b0), (0, .ref (gV g v)), (1, .int u0)]) (pc := 37) hx hb dX1_delayWithFewestClashes_37 hl (k := 1) rfl (nI_1 _) (by decide) rfl (fun ls hl => ?_)
      refine lv_goto (tgt := 8) (pc := 40) hx hb dX1_delayWithFewestClashes_40 (by decide) ?_
      exact ih_8 (i + 1) b0 m0 ⟨⟨by omega, by omega⟩, by first | exact bs_keep hbs (by have := clN_le hI v v i u0; omega) c3 | exact bs_take hbs (decide_eq_true hi1) (by have := clN_le hI v v i u0; omega) c3⟩ (by omega) _ (lv_sub hl [0, 2, 3, 4, 5] rfl)
    · refine lv_iload (pc := 31) hx hb dX1_delayWithFewestClashes_31 (lv_at hl 1 rfl) ?_
      refine lv_istore_n (lv' := [(2, .int (nI i)), (5, .int (nI (clN σ v v i u0))), (4, .int (nI i)), (3, .int m0), (0, .ref (gV g v)), (1, .int u0)]) (pc := 33) hx hb dX1_delayWithFewestClashes_33 rfl hl (by decide) rfl (fun ls hl => ?_)
      refine lv_iload (pc := 34) hx hb dX1_delayWithFewestClashes_34 (lv_at hl 1 rfl) ?_
      refine lv_istore_n (lv' := [(3, .int (nI (clN σ v v i u0))), (2, .int (nI i)), (5, .int (nI (clN σ v v i u0))), (4, .int (nI i)), (0, .ref (gV g v)), (1, .int u0)]) (pc := 36) hx hb dX1_delayWithFewestClashes_36 rfl hl (by decide) rfl (fun ls hl => ?_)
      refine lv_iinc (v := nI (i + 1)) (lv' := [(4, .int (nI (i + 1))), (3, .int (nI (clN σ v v i u0))), (2, .int (nI i)), (5, .int (nI (clN σ v v i u0))), (0, .ref (gV g v)), (1, .int u0)]) (pc := 37) hx hb dX1_delayWithFewestClashes_37 hl (k := 3) rfl (nI_1 _) (by decide) rfl (fun ls hl => ?_)
      refine lv_goto (tgt := 8) (pc := 40) hx hb dX1_delayWithFewestClashes_40 (by decide) ?_
      exact ih_8 (i + 1) (nI i) (nI (clN σ v v i u0)) ⟨⟨by omega, by omega⟩, by first | exact bs_keep hbs (by have := clN_le hI v v i u0; omega) c3 | exact bs_take hbs (decide_eq_true hi1) (by have := clN_le hI v v i u0; omega) c3⟩ (by omega) _ (lv_sub hl [0, 1, 2, 4, 5] rfl)
set_option maxHeartbeats 4000000 in
set_option maxRecDepth 100000 in
/-- a number into the checksum -/
theorem cX1_mix_m (l : Launch) (g : GA) (A : Nat → Prop) (σ : St) (rest : va_W) (d0 : Int64) (x0 : Int32) : Met l yX1_mix wsX1_mix ({ frames := 0, cells := 0, slots := 0, locals := 0 }) (va_Pc [.long d0, .int x0] (Cx g A (cw g σ ++ rest))) (vp_Sl (fun r : Int64 => r = mx d0 x0)) 0 0 (fun _ => False) := by
  refine Met.ofW (cc := cX1_mix) (maxL := 3) (ret := (some .long)) (by decide) rfl ?_
  intro p e s m args below meth c s₁ B hml hv0
  obtain ⟨rfl, hP, hD, hA, hK, hX⟩ := hv0
  have hx := B.exec
  have hb := B.bytes
  have hr := B.returns
  have hts := atoms_spec (ws := wsX1_mix) B.pre
  have hown : s.vm.findClass RX1 = some m.cls := findClass_of_methodNamed B.named
  have hlocks := B.notSynchronized
  have hS : va_S A s.heap s.heap [] := va_S.rf
  have hl := lv_entry ([.long d0, .int x0]) (n := 3) (Nat.le_of_ble_eq_true rfl)
  rw [lg_entry_eq]
  generalize (lg_sl ([.long d0, .int x0]) ++ List.replicate (3 - (lg_sl ([.long d0, .int x0])).length) Slot.unset).toArray = ls at hl ⊢
  have hl : lv_has ls 3 [(0, .long d0), (2, .int x0)] := hl
  refine lv_lload_n (pc := 0) hx hb dX1_mix_0 rfl (lv_at hl 0 rfl) ?_
  refine lv_ldc2 (pc := 1) (v := 31) hx hb hown (hts (.constantLong RX1 200 31) (by decide +kernel)) dX1_mix_1 ?_
  refine lv_lmul (pc := 4) hx hb dX1_mix_4 ?_
  refine lv_iload_n (pc := 5) hx hb dX1_mix_5 rfl (lv_at hl 1 rfl) ?_
  refine lv_i2l (pc := 6) hx hb dX1_mix_6 rfl ?_
  refine lv_ladd (pc := 7) hx hb dX1_mix_7 ?_
  exact W.lret hx hb hr (fun t ht hW => ⟨_, rfl, rfl, ht⟩) (fun q hq => absurd hq List.not_mem_nil) dX1_mix_8
set_option maxHeartbeats 4000000 in
set_option maxRecDepth 100000 in
/-- a sign into the checksum -/
theorem cX1_mixSign_m (l : Launch) (g : GA) (A : Nat → Prop) (σ : St) (rest : va_W) (v s0 : Nat) (d0 : Int64) (hv : v < 4) (hI : Inv σ) (hs : s0 < sC σ v) : Met l yX1_mixSign wsX1_mixSign ({ frames := 1, cells := 0, slots := 0, locals := 22 }) (va_Pc [.long d0, .ref (gV g v), .int (nI s0)] (Cx g A (cw g σ ++ rest))) (vp_Sl (fun r : Int64 => r = mxl d0 (dgS σ v s0))) 0 0 (fun _ => False) := by
  refine Met.ofW (cc := cX1_mixSign) (maxL := 6) (ret := (some .long)) (by decide) rfl ?_
  intro p e s m args below meth c s₁ B hml hv0
  obtain ⟨rfl, hP, hD, hA, hK, hX⟩ := hv0
  have hx := B.exec
  have hb := B.bytes
  have hr := B.returns
  have hts := atoms_spec (ws := wsX1_mixSign) B.pre
  have hown : s.vm.findClass RX1 = some m.cls := findClass_of_methodNamed B.named
  have hlocks := B.notSynchronized
  have hS : va_S A s.heap s.heap [] := va_S.rf
  have hinX0 : ∀ w ∈ u_ws RX0 TX0 10, w ∈ wsX1_mixSign := by decide +kernel
  have hl := lv_entry ([.long d0, .ref (gV g v), .int (nI s0)]) (n := 6) (Nat.le_of_ble_eq_true rfl)
  rw [lg_entry_eq]
  generalize (lg_sl ([.long d0, .ref (gV g v), .int (nI s0)]) ++ List.replicate (6 - (lg_sl ([.long d0, .ref (gV g v), .int (nI s0)])).length) Slot.unset).toArray = ls at hl ⊢
  have hl : lv_has ls 6 [(0, .long d0), (2, .ref (gV g v)), (3, .int (nI s0))] := hl
  have hC := hI.C v
  refine lv_lload_n (pc := 0) hx hb dX1_mixSign_0 rfl (lv_at hl 0 rfl) ?_
  refine lv_aload_n (pc := 1) hx hb dX1_mixSign_1 rfl (lv_at hl 1 rfl) ?_
  refine va_getN (v := .ref (gA g v 0)) (pc := 2) (D := gD g) (ci := 0) (C := RX0) (T := TX0) (N := 10) hx hb hts hinX0 hown hK hP (2 + 6 * v) (cv0 g σ rest hv) rfl 5 (by decide) (va_Nw.use rfl (nf_98 hX)) (fun _ h9 => h9) rfl dX1_mixSign_2 ?_
  refine lv_iload_n (pc := 5) hx hb dX1_mixSign_5 rfl (lv_at hl 2 rfl) ?_
  refine k_iald (pc := 6) (x := nI (sK σ v s0)) hx hb hK hP (3 + 6 * v) 0 (cv1 g σ rest hv) rfl s0 rfl (by omega) (by decide) rfl dX1_mixSign_6 ?_
  refine k_rl (pc := 7) (va_runS (As := [.long d0, .int (nI (sK σ v s0))]) (rest := []) ⟨hx, hb, hml, hown, hts⟩ (cX1_mix_m l g A σ rest d0 (nI (sK σ v s0))) (va_cwS 2 hts gX1_mixSign_X1_mix rfl rfl rfl (by decide +kernel) ⟨Nat.le_of_ble_eq_true rfl, Nat.le_of_ble_eq_true rfl⟩) (cx_S hP hD hA hK hX hS) rfl rfl hl.1 rfl (lv_room (Nat.le_of_ble_eq_true rfl)) dX1_mixSign_7 ⟨Nat.le_of_ble_eq_true rfl, Nat.le_of_ble_eq_true rfl⟩) (fun r_1 hr_1 => ?_)
  subst hr_1
  refine lv_lstore (lv' := [(4, .long (mx d0 (nI (sK σ v s0)))), (0, .long d0), (2, .ref (gV g v)), (3, .int (nI s0))]) (pc := 10) hx hb dX1_mixSign_10 hl (by decide) rfl (fun ls hl => ?_)
  refine lv_lload (pc := 12) hx hb dX1_mixSign_12 (lv_at hl 0 rfl) ?_
  refine lv_aload_n (pc := 14) hx hb dX1_mixSign_14 rfl (lv_at hl 2 rfl) ?_
  refine va_getN (v := .ref (gA g v 1)) (pc := 15) (D := gD g) (ci := 0) (C := RX0) (T := TX0) (N := 10) hx hb hts hinX0 hown hK hP (2 + 6 * v) (cv0 g σ rest hv) rfl 6 (by decide) (va_Nw.use rfl (nf_102 hX)) (fun _ h9 => h9) rfl dX1_mixSign_15 ?_
  refine lv_iload_n (pc := 18) hx hb dX1_mixSign_18 rfl (lv_at hl 3 rfl) ?_
  refine k_iald (pc := 19) (x := sP σ v s0) hx hb hK hP (4 + 6 * v) 0 (cv2 g σ rest hv) rfl s0 rfl (by omega) (by decide) rfl dX1_mixSign_19 ?_
  refine k_rl (pc := 20) (va_runS (As := [.long (mx d0 (nI (sK σ v s0))), .int (sP σ v s0)]) (rest := []) ⟨hx, hb, hml, hown, hts⟩ (cX1_mix_m l g A σ rest (mx d0 (nI (sK σ v s0))) (sP σ v s0)) (va_cwS 2 hts gX1_mixSign_X1_mix rfl rfl rfl (by decide +kernel) ⟨Nat.le_of_ble_eq_true rfl, Nat.le_of_ble_eq_true rfl⟩) (cx_S hP hD hA hK hX hS) rfl rfl hl.1 rfl (lv_room (Nat.le_of_ble_eq_true rfl)) dX1_mixSign_20 ⟨Nat.le_of_ble_eq_true rfl, Nat.le_of_ble_eq_true rfl⟩) (fun r_2 hr_2 => ?_)
  subst hr_2
  refine lv_lstore (lv' := [(4, .long (mx (mx d0 (nI (sK σ v s0))) (sP σ v s0))), (0, .long d0), (2, .ref (gV g v)), (3, .int (nI s0))]) (pc := 23) hx hb dX1_mixSign_23 hl (by decide) rfl (fun ls hl => ?_)
  refine lv_lload (pc := 25) hx hb dX1_mixSign_25 (lv_at hl 0 rfl) ?_
  refine lv_aload_n (pc := 27) hx hb dX1_mixSign_27 rfl (lv_at hl 2 rfl) ?_
  refine va_getN (v := .ref (gA g v 3)) (pc := 28) (D := gD g) (ci := 0) (C := RX0) (T := TX0) (N := 10) hx hb hts hinX0 hown hK hP (2 + 6 * v) (cv0 g σ rest hv) rfl 8 (by decide) (va_Nw.use rfl (nf_109 hX)) (fun _ h9 => h9) rfl dX1_mixSign_28 ?_
  refine lv_iload_n (pc := 31) hx hb dX1_mixSign_31 rfl (lv_at hl 3 rfl) ?_
  refine k_iald (pc := 32) (x := sT σ v s0) hx hb hK hP (6 + 6 * v) 0 (cv4 g σ rest hv) rfl s0 rfl (by omega) (by decide) rfl dX1_mixSign_32 ?_
  refine k_rl (pc := 33) (va_runS (As := [.long (mx (mx d0 (nI (sK σ v s0))) (sP σ v s0)), .int (sT σ v s0)]) (rest := []) ⟨hx, hb, hml, hown, hts⟩ (cX1_mix_m l g A σ rest (mx (mx d0 (nI (sK σ v s0))) (sP σ v s0)) (sT σ v s0)) (va_cwS 2 hts gX1_mixSign_X1_mix rfl rfl rfl (by decide +kernel) ⟨Nat.le_of_ble_eq_true rfl, Nat.le_of_ble_eq_true rfl⟩) (cx_S hP hD hA hK hX hS) rfl rfl hl.1 rfl (lv_room (Nat.le_of_ble_eq_true rfl)) dX1_mixSign_33 ⟨Nat.le_of_ble_eq_true rfl, Nat.le_of_ble_eq_true rfl⟩) (fun r_3 hr_3 => ?_)
  subst hr_3
  refine lv_lstore (lv' := [(4, .long (mx (mx (mx d0 (nI (sK σ v s0))) (sP σ v s0)) (sT σ v s0))), (0, .long d0), (2, .ref (gV g v)), (3, .int (nI s0))]) (pc := 36) hx hb dX1_mixSign_36 hl (by decide) rfl (fun ls hl => ?_)
  refine lv_lload (pc := 38) hx hb dX1_mixSign_38 (lv_at hl 0 rfl) ?_
  refine lv_aload_n (pc := 40) hx hb dX1_mixSign_40 rfl (lv_at hl 2 rfl) ?_
  refine lv_iload_n (pc := 41) hx hb dX1_mixSign_41 rfl (lv_at hl 3 rfl) ?_
  refine k_ri (pc := 42) (va_runVN (As := [.int (nI s0)]) (rest := [.long (mx (mx (mx d0 (nI (sK σ v s0))) (sP σ v s0)) (sT σ v s0))]) ⟨hx, hb, hml, hown, hts⟩ (cX0_minimsOf_m l g A σ rest v s0 hv hI (by omega)) ⟨va_cnB 1 hts gX1_mixSign_X0_minimsOf_n112 rfl rfl rfl (nm_112 hX) (hts (.initialized RX0) (by decide +kernel)) (by decide +kernel) ⟨Nat.le_of_ble_eq_true rfl, Nat.le_of_ble_eq_true rfl⟩, hts (.instanceMethod yX0_minimsOf) (by decide +kernel), hts (.selects RX0 yX0_minimsOf yX0_minimsOf) (by decide +kernel)⟩ (cx_V (q0 := (2 + 6 * v)) (ci := 0) (r := (RX0, TX0, 10)) rfl (cv0 g σ rest hv) hP hD hA hK hX hS) rfl rfl hl.1 rfl (lv_room (Nat.le_of_ble_eq_true rfl)) dX1_mixSign_42 ⟨Nat.le_of_ble_eq_true rfl, Nat.le_of_ble_eq_true rfl⟩) (fun r_4 hr_4 => ?_)
  subst hr_4
  refine k_rl (pc := 45) (va_runS (As := [.long (mx (mx (mx d0 (nI (sK σ v s0))) (sP σ v s0)) (sT σ v s0)), .int (nI (lg σ v s0))]) (rest := []) ⟨hx, hb, hml, hown, hts⟩ (cX1_mix_m l g A σ rest (mx (mx (mx d0 (nI (sK σ v s0))) (sP σ v s0)) (sT σ v s0)) (nI (lg σ v s0))) (va_cwS 2 hts gX1_mixSign_X1_mix rfl rfl rfl (by decide +kernel) ⟨Nat.le_of_ble_eq_true rfl, Nat.le_of_ble_eq_true rfl⟩) (cx_S hP hD hA hK hX hS) rfl rfl hl.1 rfl (lv_room (Nat.le_of_ble_eq_true rfl)) dX1_mixSign_45 ⟨Nat.le_of_ble_eq_true rfl, Nat.le_of_ble_eq_true rfl⟩) (fun r_5 hr_5 => ?_)
  subst hr_5
  refine lv_lstore (lv' := [(4, .long (mx (mx (mx (mx d0 (nI (sK σ v s0))) (sP σ v s0)) (sT σ v s0)) (nI (lg σ v s0)))), (0, .long d0), (2, .ref (gV g v)), (3, .int (nI s0))]) (pc := 48) hx hb dX1_mixSign_48 hl (by decide) rfl (fun ls hl => ?_)
  refine lv_lload (pc := 50) hx hb dX1_mixSign_50 (lv_at hl 0 rfl) ?_
  refine lv_aload_n (pc := 52) hx hb dX1_mixSign_52 rfl (lv_at hl 2 rfl) ?_
  refine va_getN (v := .ref (gA g v 4)) (pc := 53) (D := gD g) (ci := 0) (C := RX0) (T := TX0) (N := 10) hx hb hts hinX0 hown hK hP (2 + 6 * v) (cv0 g σ rest hv) rfl 9 (by decide) (va_Nw.use rfl (nf_116 hX)) (fun _ h9 => h9) rfl dX1_mixSign_53 ?_
  refine lv_iload_n (pc := 56) hx hb dX1_mixSign_56 rfl (lv_at hl 3 rfl) ?_
  refine k_iald (pc := 57) (x := sB σ v s0) hx hb hK hP (7 + 6 * v) 0 (cv5 g σ rest hv) rfl s0 rfl (by omega) (by decide) rfl dX1_mixSign_57 ?_
  refine k_cong (y := nI (bg σ v s0)) (hI.B (by omega)) ?_
  refine k_rl (pc := 58) (va_runS (As := [.long (mx (mx (mx (mx d0 (nI (sK σ v s0))) (sP σ v s0)) (sT σ v s0)) (nI (lg σ v s0))), .int (nI (bg σ v s0))]) (rest := []) ⟨hx, hb, hml, hown, hts⟩ (cX1_mix_m l g A σ rest (mx (mx (mx (mx d0 (nI (sK σ v s0))) (sP σ v s0)) (sT σ v s0)) (nI (lg σ v s0))) (nI (bg σ v s0))) (va_cwS 2 hts gX1_mixSign_X1_mix rfl rfl rfl (by decide +kernel) ⟨Nat.le_of_ble_eq_true rfl, Nat.le_of_ble_eq_true rfl⟩) (cx_S hP hD hA hK hX hS) rfl rfl hl.1 rfl (lv_room (Nat.le_of_ble_eq_true rfl)) dX1_mixSign_58 ⟨Nat.le_of_ble_eq_true rfl, Nat.le_of_ble_eq_true rfl⟩) (fun r_6 hr_6 => ?_)
  subst hr_6
  exact W.lret hx hb hr (fun t ht hW => ⟨_, rfl, rfl, ht⟩) (fun q hq => absurd hq List.not_mem_nil) dX1_mixSign_61
set_option maxHeartbeats 4000000 in
set_option maxRecDepth 100000 in
/-- a voice into the checksum -/
theorem cX1_mixVoice_m (l : Launch) (g : GA) (A : Nat → Prop) (σ : St) (rest : va_W) (v : Nat) (d0 : Int64) (hv : v < 4) (hI : Inv σ) : Met l yX1_mixVoice wsX1_mixVoice ({ frames := 5, cells := 0, slots := 0, locals := 126 }) (va_Pc [.ref (gX g), .long d0, .ref (gV g v)] (Cx g A (cw g σ ++ rest))) (vp_Sl (fun r : Int64 => r = dgSs σ v (mxl d0 (dgV σ v)) (sC σ v))) 0 0 (fun _ => False) := by
  refine Met.ofW (cc := cX1_mixVoice) (maxL := 7) (ret := (some .long)) (by decide) rfl ?_
  intro p e s m args below meth c s₁ B hml hv0
  obtain ⟨rfl, hP, hD, hA, hK, hX⟩ := hv0
  have hx := B.exec
  have hb := B.bytes
  have hr := B.returns
  have hts := atoms_spec (ws := wsX1_mixVoice) B.pre
  have hown : s.vm.findClass RX1 = some m.cls := findClass_of_methodNamed B.named
  have hlocks := B.notSynchronized
  have hS : va_S A s.heap s.heap [] := va_S.rf
  have hinX0 : ∀ w ∈ u_ws RX0 TX0 10, w ∈ wsX1_mixVoice := by decide +kernel
  have hl := lv_entry ([.ref (gX g), .long d0, .ref (gV g v)]) (n := 7) (Nat.le_of_ble_eq_true rfl)
  rw [lg_entry_eq]
  generalize (lg_sl ([.ref (gX g), .long d0, .ref (gV g v)]) ++ List.replicate (7 - (lg_sl ([.ref (gX g), .long d0, .ref (gV g v)])).length) Slot.unset).toArray = ls at hl ⊢
  have hl : lv_has ls 7 [(0, .ref (gX g)), (1, .long d0), (3, .ref (gV g v))] := hl
  have hC := hI.C v
  refine lv_lload_n (pc := 0) hx hb dX1_mixVoice_0 rfl (lv_at hl 1 rfl) ?_
  refine lv_aload_n (pc := 1) hx hb dX1_mixVoice_1 rfl (lv_at hl 2 rfl) ?_
  refine va_getN (v := .int (nI (sC σ v))) (pc := 2) (D := gD g) (ci := 0) (C := RX0) (T := TX0) (N := 10) hx hb hts hinX0 hown hK hP (2 + 6 * v) (cv0 g σ rest hv) rfl 4 (by decide) (va_Nw.use rfl (nf_64 hX)) (fun _ h9 => h9) rfl dX1_mixVoice_2 ?_
  refine k_rl (pc := 5) (va_runS (As := [.long d0, .int (nI (sC σ v))]) (rest := []) ⟨hx, hb, hml, hown, hts⟩ (cX1_mix_m l g A σ rest d0 (nI (sC σ v))) (va_cwS 2 hts gX1_mixVoice_X1_mix rfl rfl rfl (by decide +kernel) ⟨Nat.le_of_ble_eq_true rfl, Nat.le_of_ble_eq_true rfl⟩) (cx_S hP hD hA hK hX hS) rfl rfl hl.1 rfl (lv_room (Nat.le_of_ble_eq_true rfl)) dX1_mixVoice_5 ⟨Nat.le_of_ble_eq_true rfl, Nat.le_of_ble_eq_true rfl⟩) (fun r_1 hr_1 => ?_)
  subst hr_1
  refine lv_lstore (lv' := [(4, .long (mx d0 (nI (sC σ v)))), (0, .ref (gX g)), (1, .long d0), (3, .ref (gV g v))]) (pc := 8) hx hb dX1_mixVoice_8 hl (by decide) rfl (fun ls hl => ?_)
  refine lv_lload (pc := 10) hx hb dX1_mixVoice_10 (lv_at hl 0 rfl) ?_
  refine lv_aload_n (pc := 12) hx hb dX1_mixVoice_12 rfl (lv_at hl 3 rfl) ?_
  refine k_ri (pc := 13) (va_runVN (As := []) (rest := [.long (mx d0 (nI (sC σ v)))]) ⟨hx, hb, hml, hown, hts⟩ (cX0_countNotes_m l g A σ rest v hv hI) ⟨va_cnB 0 hts gX1_mixVoice_X0_countNotes_n92 rfl rfl rfl (nm_92 hX) (hts (.initialized RX0) (by decide +kernel)) (by decide +kernel) ⟨Nat.le_of_ble_eq_true rfl, Nat.le_of_ble_eq_true rfl⟩, hts (.instanceMethod yX0_countNotes) (by decide +kernel), hts (.selects RX0 yX0_countNotes yX0_countNotes) (by decide +kernel)⟩ (cx_V (q0 := (2 + 6 * v)) (ci := 0) (r := (RX0, TX0, 10)) rfl (cv0 g σ rest hv) hP hD hA hK hX hS) rfl rfl hl.1 rfl (lv_room (Nat.le_of_ble_eq_true rfl)) dX1_mixVoice_13 ⟨Nat.le_of_ble_eq_true rfl, Nat.le_of_ble_eq_true rfl⟩) (fun r_2 hr_2 => ?_)
  subst hr_2
  refine k_rl (pc := 16) (va_runS (As := [.long (mx d0 (nI (sC σ v))), .int (nI (cnt (isNt σ v) (sC σ v)))]) (rest := []) ⟨hx, hb, hml, hown, hts⟩ (cX1_mix_m l g A σ rest (mx d0 (nI (sC σ v))) (nI (cnt (isNt σ v) (sC σ v)))) (va_cwS 2 hts gX1_mixVoice_X1_mix rfl rfl rfl (by decide +kernel) ⟨Nat.le_of_ble_eq_true rfl, Nat.le_of_ble_eq_true rfl⟩) (cx_S hP hD hA hK hX hS) rfl rfl hl.1 rfl (lv_room (Nat.le_of_ble_eq_true rfl)) dX1_mixVoice_16 ⟨Nat.le_of_ble_eq_true rfl, Nat.le_of_ble_eq_true rfl⟩) (fun r_3 hr_3 => ?_)
  subst hr_3
  refine lv_lstore (lv' := [(4, .long (mx (mx d0 (nI (sC σ v))) (nI (cnt (isNt σ v) (sC σ v))))), (0, .ref (gX g)), (1, .long d0), (3, .ref (gV g v))]) (pc := 19) hx hb dX1_mixVoice_19 hl (by decide) rfl (fun ls hl => ?_)
  refine lv_lload (pc := 21) hx hb dX1_mixVoice_21 (lv_at hl 0 rfl) ?_
  refine lv_aload_n (pc := 23) hx hb dX1_mixVoice_23 rfl (lv_at hl 3 rfl) ?_
  refine k_ri (pc := 24) (va_runVN (As := []) (rest := [.long (mx (mx d0 (nI (sC σ v))) (nI (cnt (isNt σ v) (sC σ v))))]) ⟨hx, hb, hml, hown, hts⟩ (cX0_countLigatures_m l g A σ rest v hv hI) ⟨va_cnB 0 hts gX1_mixVoice_X0_countLigatures_n95 rfl rfl rfl (nm_95 hX) (hts (.initialized RX0) (by decide +kernel)) (by decide +kernel) ⟨Nat.le_of_ble_eq_true rfl, Nat.le_of_ble_eq_true rfl⟩, hts (.instanceMethod yX0_countLigatures) (by decide +kernel), hts (.selects RX0 yX0_countLigatures yX0_countLigatures) (by decide +kernel)⟩ (cx_V (q0 := (2 + 6 * v)) (ci := 0) (r := (RX0, TX0, 10)) rfl (cv0 g σ rest hv) hP hD hA hK hX hS) rfl rfl hl.1 rfl (lv_room (Nat.le_of_ble_eq_true rfl)) dX1_mixVoice_24 ⟨Nat.le_of_ble_eq_true rfl, Nat.le_of_ble_eq_true rfl⟩) (fun r_4 hr_4 => ?_)
  subst hr_4
  refine k_rl (pc := 27) (va_runS (As := [.long (mx (mx d0 (nI (sC σ v))) (nI (cnt (isNt σ v) (sC σ v)))), .int (nI (cnt (isLg σ v) (sC σ v)))]) (rest := []) ⟨hx, hb, hml, hown, hts⟩ (cX1_mix_m l g A σ rest (mx (mx d0 (nI (sC σ v))) (nI (cnt (isNt σ v) (sC σ v)))) (nI (cnt (isLg σ v) (sC σ v)))) (va_cwS 2 hts gX1_mixVoice_X1_mix rfl rfl rfl (by decide +kernel) ⟨Nat.le_of_ble_eq_true rfl, Nat.le_of_ble_eq_true rfl⟩) (cx_S hP hD hA hK hX hS) rfl rfl hl.1 rfl (lv_room (Nat.le_of_ble_eq_true rfl)) dX1_mixVoice_27 ⟨Nat.le_of_ble_eq_true rfl, Nat.le_of_ble_eq_true rfl⟩) (fun r_5 hr_5 => ?_)
  subst hr_5
  refine lv_lstore (lv' := [(4, .long (mx (mx (mx d0 (nI (sC σ v))) (nI (cnt (isNt σ v) (sC σ v)))) (nI (cnt (isLg σ v) (sC σ v))))), (0, .ref (gX g)), (1, .long d0), (3, .ref (gV g v))]) (pc := 30) hx hb dX1_mixVoice_30 hl (by decide) rfl (fun ls hl => ?_)
  refine lv_lload (pc := 32) hx hb dX1_mixVoice_32 (lv_at hl 0 rfl) ?_
  refine lv_aload_n (pc := 34) hx hb dX1_mixVoice_34 rfl (lv_at hl 3 rfl) ?_
  refine k_ri (pc := 35) (va_runVN (As := []) (rest := [.long (mx (mx (mx d0 (nI (sC σ v))) (nI (cnt (isNt σ v) (sC σ v)))) (nI (cnt (isLg σ v) (sC σ v))))]) ⟨hx, hb, hml, hown, hts⟩ (cX0_end_m l g A σ rest v hv hI) ⟨va_cnB 0 hts gX1_mixVoice_X0_end_n89 rfl rfl rfl (nm_89 hX) (hts (.initialized RX0) (by decide +kernel)) (by decide +kernel) ⟨Nat.le_of_ble_eq_true rfl, Nat.le_of_ble_eq_true rfl⟩, hts (.instanceMethod yX0_end) (by decide +kernel), hts (.selects RX0 yX0_end yX0_end) (by decide +kernel)⟩ (cx_V (q0 := (2 + 6 * v)) (ci := 0) (r := (RX0, TX0, 10)) rfl (cv0 g σ rest hv) hP hD hA hK hX hS) rfl rfl hl.1 rfl (lv_room (Nat.le_of_ble_eq_true rfl)) dX1_mixVoice_35 ⟨Nat.le_of_ble_eq_true rfl, Nat.le_of_ble_eq_true rfl⟩) (fun r_6 hr_6 => ?_)
  subst hr_6
  refine k_rl (pc := 38) (va_runS (As := [.long (mx (mx (mx d0 (nI (sC σ v))) (nI (cnt (isNt σ v) (sC σ v)))) (nI (cnt (isLg σ v) (sC σ v)))), .int (nI (len σ v))]) (rest := []) ⟨hx, hb, hml, hown, hts⟩ (cX1_mix_m l g A σ rest (mx (mx (mx d0 (nI (sC σ v))) (nI (cnt (isNt σ v) (sC σ v)))) (nI (cnt (isLg σ v) (sC σ v)))) (nI (len σ v))) (va_cwS 2 hts gX1_mixVoice_X1_mix rfl rfl rfl (by decide +kernel) ⟨Nat.le_of_ble_eq_true rfl, Nat.le_of_ble_eq_true rfl⟩) (cx_S hP hD hA hK hX hS) rfl rfl hl.1 rfl (lv_room (Nat.le_of_ble_eq_true rfl)) dX1_mixVoice_38 ⟨Nat.le_of_ble_eq_true rfl, Nat.le_of_ble_eq_true rfl⟩) (fun r_7 hr_7 => ?_)
  subst hr_7
  refine lv_lstore (lv' := [(4, .long (mx (mx (mx (mx d0 (nI (sC σ v))) (nI (cnt (isNt σ v) (sC σ v)))) (nI (cnt (isLg σ v) (sC σ v)))) (nI (len σ v)))), (0, .ref (gX g)), (1, .long d0), (3, .ref (gV g v))]) (pc := 41) hx hb dX1_mixVoice_41 hl (by decide) rfl (fun ls hl => ?_)
  refine lv_lload (pc := 43) hx hb dX1_mixVoice_43 (lv_at hl 0 rfl) ?_
  refine lv_aload_n (pc := 45) hx hb dX1_mixVoice_45 rfl (lv_at hl 3 rfl) ?_
  refine va_getN (v := .int (sL σ v)) (pc := 46) (D := gD g) (ci := 0) (C := RX0) (T := TX0) (N := 10) hx hb hts hinX0 hown hK hP (2 + 6 * v) (cv0 g σ rest hv) rfl 3 (by decide) (va_Nw.use rfl (nf_86 hX)) (fun _ h9 => h9) rfl dX1_mixVoice_46 ?_
  refine k_rl (pc := 49) (va_runS (As := [.long (mx (mx (mx (mx d0 (nI (sC σ v))) (nI (cnt (isNt σ v) (sC σ v)))) (nI (cnt (isLg σ v) (sC σ v)))) (nI (len σ v))), .int (sL σ v)]) (rest := []) ⟨hx, hb, hml, hown, hts⟩ (cX1_mix_m l g A σ rest (mx (mx (mx (mx d0 (nI (sC σ v))) (nI (cnt (isNt σ v) (sC σ v)))) (nI (cnt (isLg σ v) (sC σ v)))) (nI (len σ v))) (sL σ v)) (va_cwS 2 hts gX1_mixVoice_X1_mix rfl rfl rfl (by decide +kernel) ⟨Nat.le_of_ble_eq_true rfl, Nat.le_of_ble_eq_true rfl⟩) (cx_S hP hD hA hK hX hS) rfl rfl hl.1 rfl (lv_room (Nat.le_of_ble_eq_true rfl)) dX1_mixVoice_49 ⟨Nat.le_of_ble_eq_true rfl, Nat.le_of_ble_eq_true rfl⟩) (fun r_8 hr_8 => ?_)
  subst hr_8
  refine lv_lstore (lv' := [(4, .long (mx (mx (mx (mx (mx d0 (nI (sC σ v))) (nI (cnt (isNt σ v) (sC σ v)))) (nI (cnt (isLg σ v) (sC σ v)))) (nI (len σ v))) (sL σ v))), (0, .ref (gX g)), (1, .long d0), (3, .ref (gV g v))]) (pc := 52) hx hb dX1_mixVoice_52 hl (by decide) rfl (fun ls hl => ?_)
  refine lv_lload (pc := 54) hx hb dX1_mixVoice_54 (lv_at hl 0 rfl) ?_
  refine lv_aload_n (pc := 56) hx hb dX1_mixVoice_56 rfl (lv_at hl 3 rfl) ?_
  refine k_ri (pc := 57) (va_runVN (As := []) (rest := [.long (mx (mx (mx (mx (mx d0 (nI (sC σ v))) (nI (cnt (isNt σ v) (sC σ v)))) (nI (cnt (isLg σ v) (sC σ v)))) (nI (len σ v))) (sL σ v))]) ⟨hx, hb, hml, hown, hts⟩ (cX0_countFittingClefs_m l g A σ rest v hv hI) ⟨va_cnB 0 hts gX1_mixVoice_X0_countFittingClefs_n137 rfl rfl rfl (nm_137 hX) (hts (.initialized RX0) (by decide +kernel)) (by decide +kernel) ⟨Nat.le_of_ble_eq_true rfl, Nat.le_of_ble_eq_true rfl⟩, hts (.instanceMethod yX0_countFittingClefs) (by decide +kernel), hts (.selects RX0 yX0_countFittingClefs yX0_countFittingClefs) (by decide +kernel)⟩ (cx_V (q0 := (2 + 6 * v)) (ci := 0) (r := (RX0, TX0, 10)) rfl (cv0 g σ rest hv) hP hD hA hK hX hS) rfl rfl hl.1 rfl (lv_room (Nat.le_of_ble_eq_true rfl)) dX1_mixVoice_57 ⟨Nat.le_of_ble_eq_true rfl, Nat.le_of_ble_eq_true rfl⟩) (fun r_9 hr_9 => ?_)
  subst hr_9
  refine k_rl (pc := 60) (va_runS (As := [.long (mx (mx (mx (mx (mx d0 (nI (sC σ v))) (nI (cnt (isNt σ v) (sC σ v)))) (nI (cnt (isLg σ v) (sC σ v)))) (nI (len σ v))) (sL σ v)), .int (nI (fct σ v))]) (rest := []) ⟨hx, hb, hml, hown, hts⟩ (cX1_mix_m l g A σ rest (mx (mx (mx (mx (mx d0 (nI (sC σ v))) (nI (cnt (isNt σ v) (sC σ v)))) (nI (cnt (isLg σ v) (sC σ v)))) (nI (len σ v))) (sL σ v)) (nI (fct σ v))) (va_cwS 2 hts gX1_mixVoice_X1_mix rfl rfl rfl (by decide +kernel) ⟨Nat.le_of_ble_eq_true rfl, Nat.le_of_ble_eq_true rfl⟩) (cx_S hP hD hA hK hX hS) rfl rfl hl.1 rfl (lv_room (Nat.le_of_ble_eq_true rfl)) dX1_mixVoice_60 ⟨Nat.le_of_ble_eq_true rfl, Nat.le_of_ble_eq_true rfl⟩) (fun r_10 hr_10 => ?_)
  subst hr_10
  refine lv_lstore (lv' := [(4, .long (mx (mx (mx (mx (mx (mx d0 (nI (sC σ v))) (nI (cnt (isNt σ v) (sC σ v)))) (nI (cnt (isLg σ v) (sC σ v)))) (nI (len σ v))) (sL σ v)) (nI (fct σ v)))), (0, .ref (gX g)), (1, .long d0), (3, .ref (gV g v))]) (pc := 63) hx hb dX1_mixVoice_63 hl (by decide) rfl (fun ls hl => ?_)
  refine lv_lload (pc := 65) hx hb dX1_mixVoice_65 (lv_at hl 0 rfl) ?_
  refine lv_aload_n (pc := 67) hx hb dX1_mixVoice_67 rfl (lv_at hl 1 rfl) ?_
  refine lv_aload_n (pc := 68) hx hb dX1_mixVoice_68 rfl (lv_at hl 3 rfl) ?_
  refine k_ri (pc := 69) (va_runV (As := [.ref (gV g v)]) (rest := [.long (mx (mx (mx (mx (mx (mx d0 (nI (sC σ v))) (nI (cnt (isNt σ v) (sC σ v)))) (nI (cnt (isLg σ v) (sC σ v)))) (nI (len σ v))) (sL σ v)) (nI (fct σ v)))]) ⟨hx, hb, hml, hown, hts⟩ (cX1_clefWithFewestClashes_m l g A σ rest v hv hI) (cwV 1 hts gX1_mixVoice_X1_clefWithFewestClashes rfl rfl rfl (by decide +kernel) ⟨Nat.le_of_ble_eq_true rfl, Nat.le_of_ble_eq_true rfl⟩) (cx_V (q0 := 0) (ci := 1) (r := (RX1, TX1, 2)) rfl (cx0 g σ rest) hP hD hA hK hX hS) rfl rfl hl.1 rfl (lv_room (Nat.le_of_ble_eq_true rfl)) dX1_mixVoice_69 ⟨Nat.le_of_ble_eq_true rfl, Nat.le_of_ble_eq_true rfl⟩) (fun r_11 hr_11 => ?_)
  subst hr_11
  refine k_rl (pc := 72) (va_runS (As := [.long (mx (mx (mx (mx (mx (mx d0 (nI (sC σ v))) (nI (cnt (isNt σ v) (sC σ v)))) (nI (cnt (isLg σ v) (sC σ v)))) (nI (len σ v))) (sL σ v)) (nI (fct σ v))), .int (bcl σ v)]) (rest := []) ⟨hx, hb, hml, hown, hts⟩ (cX1_mix_m l g A σ rest (mx (mx (mx (mx (mx (mx d0 (nI (sC σ v))) (nI (cnt (isNt σ v) (sC σ v)))) (nI (cnt (isLg σ v) (sC σ v)))) (nI (len σ v))) (sL σ v)) (nI (fct σ v))) (bcl σ v)) (va_cwS 2 hts gX1_mixVoice_X1_mix rfl rfl rfl (by decide +kernel) ⟨Nat.le_of_ble_eq_true rfl, Nat.le_of_ble_eq_true rfl⟩) (cx_S hP hD hA hK hX hS) rfl rfl hl.1 rfl (lv_room (Nat.le_of_ble_eq_true rfl)) dX1_mixVoice_72 ⟨Nat.le_of_ble_eq_true rfl, Nat.le_of_ble_eq_true rfl⟩) (fun r_12 hr_12 => ?_)
  subst hr_12
  refine lv_lstore (lv' := [(4, .long (mx (mx (mx (mx (mx (mx (mx d0 (nI (sC σ v))) (nI (cnt (isNt σ v) (sC σ v)))) (nI (cnt (isLg σ v) (sC σ v)))) (nI (len σ v))) (sL σ v)) (nI (fct σ v))) (bcl σ v))), (0, .ref (gX g)), (1, .long d0), (3, .ref (gV g v))]) (pc := 75) hx hb dX1_mixVoice_75 hl (by decide) rfl (fun ls hl => ?_)
  refine lv_lload (pc := 77) hx hb dX1_mixVoice_77 (lv_at hl 0 rfl) ?_
  refine lv_aload_n (pc := 79) hx hb dX1_mixVoice_79 rfl (lv_at hl 3 rfl) ?_
  refine lv_aload_n (pc := 80) hx hb dX1_mixVoice_80 rfl (lv_at hl 3 rfl) ?_
  refine lv_iconst (v := 4) (pc := 81) hx hb dX1_mixVoice_81 (by decide) ?_
  refine lv_iconst (v := 0) (pc := 82) hx hb dX1_mixVoice_82 (by decide) ?_
  refine k_ri (pc := 83) (va_runS (As := [.ref (gV g v), .ref (gV g v), .int 4, .int 0]) (rest := [.long (mx (mx (mx (mx (mx (mx (mx d0 (nI (sC σ v))) (nI (cnt (isNt σ v) (sC σ v)))) (nI (cnt (isLg σ v) (sC σ v)))) (nI (len σ v))) (sL σ v)) (nI (fct σ v))) (bcl σ v))]) ⟨hx, hb, hml, hown, hts⟩ (cX1_clashingMinims_m l g A σ rest v v 4 0 hv hv hI (by omega)) (va_cwS 4 hts gX1_mixVoice_X1_clashingMinims rfl rfl rfl (by decide +kernel) ⟨Nat.le_of_ble_eq_true rfl, Nat.le_of_ble_eq_true rfl⟩) (cx_S hP hD hA hK hX hS) rfl rfl hl.1 rfl (lv_room (Nat.le_of_ble_eq_true rfl)) dX1_mixVoice_83 ⟨Nat.le_of_ble_eq_true rfl, Nat.le_of_ble_eq_true rfl⟩) (fun r_13 hr_13 => ?_)
  subst hr_13
  refine k_rl (pc := 86) (va_runS (As := [.long (mx (mx (mx (mx (mx (mx (mx d0 (nI (sC σ v))) (nI (cnt (isNt σ v) (sC σ v)))) (nI (cnt (isLg σ v) (sC σ v)))) (nI (len σ v))) (sL σ v)) (nI (fct σ v))) (bcl σ v)), .int (nI (clN σ v v 4 0))]) (rest := []) ⟨hx, hb, hml, hown, hts⟩ (cX1_mix_m l g A σ rest (mx (mx (mx (mx (mx (mx (mx d0 (nI (sC σ v))) (nI (cnt (isNt σ v) (sC σ v)))) (nI (cnt (isLg σ v) (sC σ v)))) (nI (len σ v))) (sL σ v)) (nI (fct σ v))) (bcl σ v)) (nI (clN σ v v 4 0))) (va_cwS 2 hts gX1_mixVoice_X1_mix rfl rfl rfl (by decide +kernel) ⟨Nat.le_of_ble_eq_true rfl, Nat.le_of_ble_eq_true rfl⟩) (cx_S hP hD hA hK hX hS) rfl rfl hl.1 rfl (lv_room (Nat.le_of_ble_eq_true rfl)) dX1_mixVoice_86 ⟨Nat.le_of_ble_eq_true rfl, Nat.le_of_ble_eq_true rfl⟩) (fun r_14 hr_14 => ?_)
  subst hr_14
  refine lv_lstore (lv' := [(4, .long (mx (mx (mx (mx (mx (mx (mx (mx d0 (nI (sC σ v))) (nI (cnt (isNt σ v) (sC σ v)))) (nI (cnt (isLg σ v) (sC σ v)))) (nI (len σ v))) (sL σ v)) (nI (fct σ v))) (bcl σ v)) (nI (clN σ v v 4 0)))), (0, .ref (gX g)), (1, .long d0), (3, .ref (gV g v))]) (pc := 89) hx hb dX1_mixVoice_89 hl (by decide) rfl (fun ls hl => ?_)
  refine lv_lload (pc := 91) hx hb dX1_mixVoice_91 (lv_at hl 0 rfl) ?_
  refine lv_aload_n (pc := 93) hx hb dX1_mixVoice_93 rfl (lv_at hl 3 rfl) ?_
  refine lv_iconst (v := 4) (pc := 94) hx hb dX1_mixVoice_94 (by decide) ?_
  refine k_ri (pc := 95) (va_runS (As := [.ref (gV g v), .int 4]) (rest := [.long (mx (mx (mx (mx (mx (mx (mx (mx d0 (nI (sC σ v))) (nI (cnt (isNt σ v) (sC σ v)))) (nI (cnt (isLg σ v) (sC σ v)))) (nI (len σ v))) (sL σ v)) (nI (fct σ v))) (bcl σ v)) (nI (clN σ v v 4 0)))]) ⟨hx, hb, hml, hown, hts⟩ (cX1_delayWithFewestClashes_m l g A σ rest v 4 hv hI) (va_cwS 2 hts gX1_mixVoice_X1_delayWithFewestClashes rfl rfl rfl (by decide +kernel) ⟨Nat.le_of_ble_eq_true rfl, Nat.le_of_ble_eq_true rfl⟩) (cx_S hP hD hA hK hX hS) rfl rfl hl.1 rfl (lv_room (Nat.le_of_ble_eq_true rfl)) dX1_mixVoice_95 ⟨Nat.le_of_ble_eq_true rfl, Nat.le_of_ble_eq_true rfl⟩) (fun r_15 hr_15 => ?_)
  subst hr_15
  refine k_rl (pc := 98) (va_runS (As := [.long (mx (mx (mx (mx (mx (mx (mx (mx d0 (nI (sC σ v))) (nI (cnt (isNt σ v) (sC σ v)))) (nI (cnt (isLg σ v) (sC σ v)))) (nI (len σ v))) (sL σ v)) (nI (fct σ v))) (bcl σ v)) (nI (clN σ v v 4 0))), .int (bdl σ v 4)]) (rest := []) ⟨hx, hb, hml, hown, hts⟩ (cX1_mix_m l g A σ rest (mx (mx (mx (mx (mx (mx (mx (mx d0 (nI (sC σ v))) (nI (cnt (isNt σ v) (sC σ v)))) (nI (cnt (isLg σ v) (sC σ v)))) (nI (len σ v))) (sL σ v)) (nI (fct σ v))) (bcl σ v)) (nI (clN σ v v 4 0))) (bdl σ v 4)) (va_cwS 2 hts gX1_mixVoice_X1_mix rfl rfl rfl (by decide +kernel) ⟨Nat.le_of_ble_eq_true rfl, Nat.le_of_ble_eq_true rfl⟩) (cx_S hP hD hA hK hX hS) rfl rfl hl.1 rfl (lv_room (Nat.le_of_ble_eq_true rfl)) dX1_mixVoice_98 ⟨Nat.le_of_ble_eq_true rfl, Nat.le_of_ble_eq_true rfl⟩) (fun r_16 hr_16 => ?_)
  subst hr_16
  refine lv_lstore (lv' := [(4, .long (mx (mx (mx (mx (mx (mx (mx (mx (mx d0 (nI (sC σ v))) (nI (cnt (isNt σ v) (sC σ v)))) (nI (cnt (isLg σ v) (sC σ v)))) (nI (len σ v))) (sL σ v)) (nI (fct σ v))) (bcl σ v)) (nI (clN σ v v 4 0))) (bdl σ v 4))), (0, .ref (gX g)), (1, .long d0), (3, .ref (gV g v))]) (pc := 101) hx hb dX1_mixVoice_101 hl (by decide) rfl (fun ls hl => ?_)
  refine lv_iconst (v := 0) (pc := 103) hx hb dX1_mixVoice_103 (by decide) ?_
  refine lv_istore (lv' := [(6, .int 0), (4, .long (mx (mx (mx (mx (mx (mx (mx (mx (mx d0 (nI (sC σ v))) (nI (cnt (isNt σ v) (sC σ v)))) (nI (cnt (isLg σ v) (sC σ v)))) (nI (len σ v))) (sL σ v)) (nI (fct σ v))) (bcl σ v)) (nI (clN σ v v 4 0))) (bdl σ v 4))), (0, .ref (gX g)), (1, .long d0), (3, .ref (gV g v))]) (pc := 104) hx hb dX1_mixVoice_104 hl (by decide) rfl (fun ls hl => ?_)
  refine k_loop2 (pc := 106) (nL := 7) (fun (i : Nat) (y : Int64) => i ≤ sC σ v ∧ y = dgSs σ v (mxl d0 (dgV σ v)) i) (fun (i : Nat) (y : Int64) => sC σ v - i) (fun (i : Nat) (y : Int64) => [(6, .int (nI i)), (4, .long y), (0, .ref (gX g)), (3, .ref (gV g v))]) (fun i y hJ ih_106 ls hl => ?_) 0 (mx (mx (mx (mx (mx (mx (mx (mx (mx d0 (nI (sC σ v))) (nI (cnt (isNt σ v) (sC σ v)))) (nI (cnt (isLg σ v) (sC σ v)))) (nI (len σ v))) (sL σ v)) (nI (fct σ v))) (bcl σ v)) (nI (clN σ v v 4 0))) (bdl σ v 4)) ⟨Nat.zero_le _, rfl⟩ (lv_sub hl [0, 1, 2, 4] rfl)
  obtain ⟨hi, hy⟩ := hJ
  have hl : lv_has ls 7 [(6, .int (nI i)), (4, .long y), (0, .ref (gX g)), (3, .ref (gV g v))] := hl
  refine lv_iload (pc := 106) hx hb dX1_mixVoice_106 (lv_at hl 0 rfl) ?_
  refine lv_aload_n (pc := 108) hx hb dX1_mixVoice_108 rfl (lv_at hl 3 rfl) ?_
  refine va_getN (v := .int (nI (sC σ v))) (pc := 109) (D := gD g) (ci := 0) (C := RX0) (T := TX0) (N := 10) hx hb hts hinX0 hown hK hP (2 + 6 * v) (cv0 g σ rest hv) rfl 4 (by decide) (va_Nw.use rfl (nf_64 hX)) (fun _ h9 => h9) rfl dX1_mixVoice_109 ?_
  refine lv_icmp_ge (tgt := 131) (pc := 112) hx hb dX1_mixVoice_112 (by decide) (fun c1 => ?_) (fun c1 => ?_)
  · have c1 : sC σ v ≤ i := (nI_leI (a := sC σ v) (b := i) (by omega) (by omega)).mp c1
    refine lv_lload (pc := 131) hx hb dX1_mixVoice_131 (lv_at hl 1 rfl) ?_
    exact W.lret hx hb hr (fun t ht hW => ⟨_, rfl, (by rw [hy, show i = sC σ v by omega]), ht⟩) (fun q hq => absurd hq List.not_mem_nil) dX1_mixVoice_133
  · have c1 : ¬ (sC σ v ≤ i) := fun z => c1 ((nI_leI (a := sC σ v) (b := i) (by omega) (by omega)).mpr z)
    refine lv_lload (pc := 115) hx hb dX1_mixVoice_115 (lv_at hl 1 rfl) ?_
    refine lv_aload_n (pc := 117) hx hb dX1_mixVoice_117 rfl (lv_at hl 3 rfl) ?_
    refine lv_iload (pc := 118) hx hb dX1_mixVoice_118 (lv_at hl 0 rfl) ?_
    refine k_rl (pc := 120) (va_runS (As := [.long y, .ref (gV g v), .int (nI i)]) (rest := []) ⟨hx, hb, hml, hown, hts⟩ (cX1_mixSign_m l g A σ rest v i y hv hI (by omega)) (va_cwS 3 hts gX1_mixVoice_X1_mixSign rfl rfl rfl (by decide +kernel) ⟨Nat.le_of_ble_eq_true rfl, Nat.le_of_ble_eq_true rfl⟩) (cx_S hP hD hA hK hX hS) rfl rfl hl.1 rfl (lv_room (Nat.le_of_ble_eq_true rfl)) dX1_mixVoice_120 ⟨Nat.le_of_ble_eq_true rfl, Nat.le_of_ble_eq_true rfl⟩) (fun r_18 hr_18 => ?_)
    subst hr_18
    refine lv_lstore (lv' := [(4, .long (mxl y (dgS σ v i))), (6, .int (nI i)), (0, .ref (gX g)), (3, .ref (gV g v))]) (pc := 123) hx hb dX1_mixVoice_123 hl (by decide) rfl (fun ls hl => ?_)
    refine lv_iinc (v := nI (i + 1)) (lv' := [(6, .int (nI (i + 1))), (4, .long (mxl y (dgS σ v i))), (0, .ref (gX g)), (3, .ref (gV g v))]) (pc := 125) hx hb dX1_mixVoice_125 hl (k := 1) rfl (nI_1 _) (by decide) rfl (fun ls hl => ?_)
    refine lv_goto (tgt := 106) (pc := 128) hx hb dX1_mixVoice_128 (by decide) ?_
    exact ih_106 (i + 1) (mxl y (dgS σ v i)) ⟨by omega, by rw [hy]; rfl⟩ (by omega) _ (lv_sub hl [0, 1, 2, 3] rfl)
set_option maxHeartbeats 4000000 in
set_option maxRecDepth 100000 in
/-- how long the longest voice is -/
theorem cX1_longest_m (l : Launch) (g : GA) (A : Nat → Prop) (σ : St) (rest : va_W) (hI : Inv σ) : Met l yX1_longest wsX1_longest ({ frames := 1, cells := 0, slots := 0, locals := 21 }) (va_Pc [.ref (gX g)] (Cx g A (cw g σ ++ rest))) (vp_Si (fun r : Int32 => r = nI (lngst σ))) 0 0 (fun _ => False) := by
  refine Met.ofW (cc := cX1_longest) (maxL := 3) (ret := (some .int)) (by decide) rfl ?_
  intro p e s m args below meth c s₁ B hml hv0
  obtain ⟨rfl, hP, hD, hA, hK, hX⟩ := hv0
  have hx := B.exec
  have hb := B.bytes
  have hr := B.returns
  have hts := atoms_spec (ws := wsX1_longest) B.pre
  have hown : s.vm.findClass RX1 = some m.cls := findClass_of_methodNamed B.named
  have hlocks := B.notSynchronized
  have hS : va_S A s.heap s.heap [] := va_S.rf
  have hinX1 : ∀ w ∈ u_ws RX1 TX1 2, w ∈ wsX1_longest := by decide +kernel
  have hl := lv_entry ([.ref (gX g)]) (n := 3) (Nat.le_of_ble_eq_true rfl)
  rw [lg_entry_eq]
  generalize (lg_sl ([.ref (gX g)]) ++ List.replicate (3 - (lg_sl ([.ref (gX g)])).length) Slot.unset).toArray = ls at hl ⊢
  have hl : lv_has ls 3 [(0, .ref (gX g))] := hl
  have hN := hI.N
  refine lv_iconst (v := 0) (pc := 0) hx hb dX1_longest_0 (by decide) ?_
  refine lv_istore_n (lv' := [(1, .int 0), (0, .ref (gX g))]) (pc := 1) hx hb dX1_longest_1 rfl hl (by decide) rfl (fun ls hl => ?_)
  refine lv_iconst (v := 0) (pc := 2) hx hb dX1_longest_2 (by decide) ?_
  refine lv_istore_n (lv' := [(2, .int 0), (1, .int 0), (0, .ref (gX g))]) (pc := 3) hx hb dX1_longest_3 rfl hl (by decide) rfl (fun ls hl => ?_)
  refine k_loop1 (pc := 4) (nL := 3) (fun (i : Nat) => i ≤ sN σ) (fun (i : Nat) => sN σ - i) (fun (i : Nat) => [(2, .int (nI i)), (1, .int (nI (lngF σ i))), (0, .ref (gX g))]) (fun i hJ ih_4 ls hl => ?_) 0 (Nat.zero_le _) (lv_sub hl [0, 1, 2] rfl)
  have hi := hJ
  have hl : lv_has ls 3 [(2, .int (nI i)), (1, .int (nI (lngF σ i))), (0, .ref (gX g))] := hl
  refine lv_iload_n (pc := 4) hx hb dX1_longest_4 rfl (lv_at hl 0 rfl) ?_
  refine lv_aload_n (pc := 5) hx hb dX1_longest_5 rfl (lv_at hl 2 rfl) ?_
  refine va_get (v := .int (nI (sN σ))) (pc := 6) (D := gD g) (ci := 1) (C := RX1) (T := TX1) (N := 2) hx hb hts hinX1 hown hK hP 0 (cx0 g σ rest) rfl 1 (by decide) (hts (.fieldLink RX1 20 "ChoirNotes" "voiceCount" "I") (by decide +kernel)) (fun _ h9 => h9) rfl dX1_longest_6 ?_
  refine lv_icmp_ge (tgt := 32) (pc := 9) hx hb dX1_longest_9 (by decide) (fun c1 => ?_) (fun c1 => ?_)
  · have c1 : sN σ ≤ i := (nI_leI (a := sN σ) (b := i) (by omega) (by omega)).mp c1
    refine lv_iload_n (pc := 32) hx hb dX1_longest_32 rfl (lv_at hl 1 rfl) ?_
    exact W.iret hx hb hr (fun t ht hW => ⟨_, rfl, (by rw [show i = sN σ by omega]; rfl), ht⟩) (fun q hq => absurd hq List.not_mem_nil) dX1_longest_33
  · have c1 : ¬ (sN σ ≤ i) := fun z => c1 ((nI_leI (a := sN σ) (b := i) (by omega) (by omega)).mpr z)
    refine lv_iload_n (pc := 12) hx hb dX1_longest_12 rfl (lv_at hl 1 rfl) ?_
    refine lv_aload_n (pc := 13) hx hb dX1_longest_13 rfl (lv_at hl 2 rfl) ?_
    refine va_get (v := .ref (gK g)) (pc := 14) (D := gD g) (ci := 1) (C := RX1) (T := TX1) (N := 2) hx hb hts hinX1 hown hK hP 0 (cx0 g σ rest) rfl 0 (by decide) (hts (.fieldLink RX1 11 "ChoirNotes" "book" "[LChoirNotes$Voice;") (by decide +kernel)) (fun _ h9 => h9) rfl dX1_longest_14 ?_
    refine lv_iload_n (pc := 17) hx hb dX1_longest_17 rfl (lv_at hl 0 rfl) ?_
    refine k_aald (pc := 18) (x := gV g i) hx hb hK hP 1 2 (cx1 g σ rest) rfl i rfl (show i < 4 by omega) (by decide) (if_pos (show i < 4 by omega)) dX1_longest_18 ?_
    refine k_ri (pc := 19) (va_runVN (As := []) (rest := [.int (nI (lngF σ i))]) ⟨hx, hb, hml, hown, hts⟩ (cX0_end_m l g A σ rest i (show i < 4 by omega) hI) ⟨va_cnB 0 hts gX1_longest_X0_end_n89 rfl rfl rfl (nm_89 hX) (hts (.initialized RX0) (by decide +kernel)) (by decide +kernel) ⟨Nat.le_of_ble_eq_true rfl, Nat.le_of_ble_eq_true rfl⟩, hts (.instanceMethod yX0_end) (by decide +kernel), hts (.selects RX0 yX0_end yX0_end) (by decide +kernel)⟩ (cx_V (q0 := (2 + 6 * i)) (ci := 0) (r := (RX0, TX0, 10)) rfl (cv0 g σ rest (show i < 4 by omega)) hP hD hA hK hX hS) rfl rfl hl.1 rfl (lv_room (Nat.le_of_ble_eq_true rfl)) dX1_longest_19 ⟨Nat.le_of_ble_eq_true rfl, Nat.le_of_ble_eq_true rfl⟩) (fun r_2 hr_2 => ?_)
    subst hr_2
    refine va_mmax (pc := 22) hx hb (hml.trans hl.1.symm) hown (hts (.methodLink RX1 119 Lib.Math.max.name) (by decide +kernel)) (hts (.static Lib.Math.max.name) (by decide +kernel)) (hts (.initialized "java/lang/Math") (by decide +kernel)) (hts (.code Lib.Math.max.name Lib.Math.max.code 2 (some .int)) (by decide +kernel)) (Nat.le_of_ble_eq_true rfl) (Nat.le_of_ble_eq_true rfl) (Nat.le_of_ble_eq_true rfl) (Nat.le_of_ble_eq_true rfl) dX1_longest_22 ?_
    refine k_cong (y := nI (lngF σ (i + 1))) (lng_mx hI i) ?_
    refine lv_istore_n (lv' := [(1, .int (nI (lngF σ (i + 1)))), (2, .int (nI i)), (0, .ref (gX g))]) (pc := 25) hx hb dX1_longest_25 rfl hl (by decide) rfl (fun ls hl => ?_)
    refine lv_iinc (v := nI (i + 1)) (lv' := [(2, .int (nI (i + 1))), (1, .int (nI (lngF σ (i + 1)))), (0, .ref (gX g))]) (pc := 26) hx hb dX1_longest_26 hl (k := 1) rfl (nI_1 _) (by decide) rfl (fun ls hl => ?_)
    refine lv_goto (tgt := 4) (pc := 29) hx hb dX1_longest_29 (by decide) ?_
    exact ih_4 (i + 1) (by omega) (by omega) _ (lv_sub hl [0, 1, 2] rfl)
set_option maxHeartbeats 4000000 in
set_option maxRecDepth 100000 in
/-- the checksum -/
theorem cX1_digest_m (l : Launch) (g : GA) (A : Nat → Prop) (σ : St) (rest : va_W) (hI : Inv σ) : Met l yX1_digest wsX1_digest ({ frames := 6, cells := 0, slots := 0, locals := 152 }) (va_Pc [.ref (gX g)] (Cx g A (cw g σ ++ rest))) (vp_Sl (fun r : Int64 => r = dig σ)) 0 0 (fun _ => False) := by
  refine Met.ofW (cc := cX1_digest) (maxL := 4) (ret := (some .long)) (by decide) rfl ?_
  intro p e s m args below meth c s₁ B hml hv0
  obtain ⟨rfl, hP, hD, hA, hK, hX⟩ := hv0
  have hx := B.exec
  have hb := B.bytes
  have hr := B.returns
  have hts := atoms_spec (ws := wsX1_digest) B.pre
  have hown : s.vm.findClass RX1 = some m.cls := findClass_of_methodNamed B.named
  have hlocks := B.notSynchronized
  have hS : va_S A s.heap s.heap [] := va_S.rf
  have hinX1 : ∀ w ∈ u_ws RX1 TX1 2, w ∈ wsX1_digest := by decide +kernel
  have hl := lv_entry ([.ref (gX g)]) (n := 4) (Nat.le_of_ble_eq_true rfl)
  rw [lg_entry_eq]
  generalize (lg_sl ([.ref (gX g)]) ++ List.replicate (4 - (lg_sl ([.ref (gX g)])).length) Slot.unset).toArray = ls at hl ⊢
  have hl : lv_has ls 4 [(0, .ref (gX g))] := hl
  have hN := hI.N
  refine lv_ldc2 (pc := 0) (v := 2311) hx hb hown (hts (.constantLong RX1 159 2311) (by decide +kernel)) dX1_digest_0 ?_
  refine lv_aload_n (pc := 3) hx hb dX1_digest_3 rfl (lv_at hl 0 rfl) ?_
  refine va_get (v := .int (nI (sN σ))) (pc := 4) (D := gD g) (ci := 1) (C := RX1) (T := TX1) (N := 2) hx hb hts hinX1 hown hK hP 0 (cx0 g σ rest) rfl 1 (by decide) (hts (.fieldLink RX1 20 "ChoirNotes" "voiceCount" "I") (by decide +kernel)) (fun _ h9 => h9) rfl dX1_digest_4 ?_
  refine k_rl (pc := 7) (va_runS (As := [.long 2311, .int (nI (sN σ))]) (rest := []) ⟨hx, hb, hml, hown, hts⟩ (cX1_mix_m l g A σ rest 2311 (nI (sN σ))) (va_cwS 2 hts gX1_digest_X1_mix rfl rfl rfl (by decide +kernel) ⟨Nat.le_of_ble_eq_true rfl, Nat.le_of_ble_eq_true rfl⟩) (cx_S hP hD hA hK hX hS) rfl rfl hl.1 rfl (lv_room (Nat.le_of_ble_eq_true rfl)) dX1_digest_7 ⟨Nat.le_of_ble_eq_true rfl, Nat.le_of_ble_eq_true rfl⟩) (fun r_1 hr_1 => ?_)
  subst hr_1
  refine lv_lstore_n (lv' := [(1, .long (mx 2311 (nI (sN σ)))), (0, .ref (gX g))]) (pc := 10) hx hb dX1_digest_10 rfl hl (by decide) rfl (fun ls hl => ?_)
  refine lv_lload_n (pc := 11) hx hb dX1_digest_11 rfl (lv_at hl 0 rfl) ?_
  refine lv_aload_n (pc := 12) hx hb dX1_digest_12 rfl (lv_at hl 1 rfl) ?_
  refine k_ri (pc := 13) (va_runV (As := []) (rest := [.long (mx 2311 (nI (sN σ)))]) ⟨hx, hb, hml, hown, hts⟩ (cX1_longest_m l g A σ rest hI) (cwV 0 hts gX1_digest_X1_longest rfl rfl rfl (by decide +kernel) ⟨Nat.le_of_ble_eq_true rfl, Nat.le_of_ble_eq_true rfl⟩) (cx_V (q0 := 0) (ci := 1) (r := (RX1, TX1, 2)) rfl (cx0 g σ rest) hP hD hA hK hX hS) rfl rfl hl.1 rfl (lv_room (Nat.le_of_ble_eq_true rfl)) dX1_digest_13 ⟨Nat.le_of_ble_eq_true rfl, Nat.le_of_ble_eq_true rfl⟩) (fun r_2 hr_2 => ?_)
  subst hr_2
  refine k_rl (pc := 16) (va_runS (As := [.long (mx 2311 (nI (sN σ))), .int (nI (lngst σ))]) (rest := []) ⟨hx, hb, hml, hown, hts⟩ (cX1_mix_m l g A σ rest (mx 2311 (nI (sN σ))) (nI (lngst σ))) (va_cwS 2 hts gX1_digest_X1_mix rfl rfl rfl (by decide +kernel) ⟨Nat.le_of_ble_eq_true rfl, Nat.le_of_ble_eq_true rfl⟩) (cx_S hP hD hA hK hX hS) rfl rfl hl.1 rfl (lv_room (Nat.le_of_ble_eq_true rfl)) dX1_digest_16 ⟨Nat.le_of_ble_eq_true rfl, Nat.le_of_ble_eq_true rfl⟩) (fun r_3 hr_3 => ?_)
  subst hr_3
  refine lv_lstore_n (lv' := [(1, .long (mx (mx 2311 (nI (sN σ))) (nI (lngst σ)))), (0, .ref (gX g))]) (pc := 19) hx hb dX1_digest_19 rfl hl (by decide) rfl (fun ls hl => ?_)
  refine lv_iconst (v := 0) (pc := 20) hx hb dX1_digest_20 (by decide) ?_
  refine lv_istore_n (lv' := [(3, .int 0), (1, .long (mx (mx 2311 (nI (sN σ))) (nI (lngst σ)))), (0, .ref (gX g))]) (pc := 21) hx hb dX1_digest_21 rfl hl (by decide) rfl (fun ls hl => ?_)
  refine k_loop2 (pc := 22) (nL := 4) (fun (i : Nat) (y : Int64) => i ≤ sN σ ∧ y = dgVs σ (mxl 2311 [nI (sN σ), nI (lngst σ)]) i) (fun (i : Nat) (y : Int64) => sN σ - i) (fun (i : Nat) (y : Int64) => [(3, .int (nI i)), (1, .long y), (0, .ref (gX g))]) (fun i y hJ ih_22 ls hl => ?_) 0 (mx (mx 2311 (nI (sN σ))) (nI (lngst σ))) ⟨Nat.zero_le _, rfl⟩ (lv_sub hl [0, 1, 2] rfl)
  obtain ⟨hi, hy⟩ := hJ
  have hl : lv_has ls 4 [(3, .int (nI i)), (1, .long y), (0, .ref (gX g))] := hl
  refine lv_iload_n (pc := 22) hx hb dX1_digest_22 rfl (lv_at hl 0 rfl) ?_
  refine lv_aload_n (pc := 23) hx hb dX1_digest_23 rfl (lv_at hl 2 rfl) ?_
  refine va_get (v := .int (nI (sN σ))) (pc := 24) (D := gD g) (ci := 1) (C := RX1) (T := TX1) (N := 2) hx hb hts hinX1 hown hK hP 0 (cx0 g σ rest) rfl 1 (by decide) (hts (.fieldLink RX1 20 "ChoirNotes" "voiceCount" "I") (by decide +kernel)) (fun _ h9 => h9) rfl dX1_digest_24 ?_
  refine lv_icmp_ge (tgt := 48) (pc := 27) hx hb dX1_digest_27 (by decide) (fun c1 => ?_) (fun c1 => ?_)
  · have c1 : sN σ ≤ i := (nI_leI (a := sN σ) (b := i) (by omega) (by omega)).mp c1
    refine lv_lload_n (pc := 48) hx hb dX1_digest_48 rfl (lv_at hl 1 rfl) ?_
    exact W.lret hx hb hr (fun t ht hW => ⟨_, rfl, (by rw [hy, show i = sN σ by omega]; rfl), ht⟩) (fun q hq => absurd hq List.not_mem_nil) dX1_digest_49
  · have c1 : ¬ (sN σ ≤ i) := fun z => c1 ((nI_leI (a := sN σ) (b := i) (by omega) (by omega)).mpr z)
    refine lv_aload_n (pc := 30) hx hb dX1_digest_30 rfl (lv_at hl 2 rfl) ?_
    refine lv_lload_n (pc := 31) hx hb dX1_digest_31 rfl (lv_at hl 1 rfl) ?_
    refine lv_aload_n (pc := 32) hx hb dX1_digest_32 rfl (lv_at hl 2 rfl) ?_
    refine va_get (v := .ref (gK g)) (pc := 33) (D := gD g) (ci := 1) (C := RX1) (T := TX1) (N := 2) hx hb hts hinX1 hown hK hP 0 (cx0 g σ rest) rfl 0 (by decide) (hts (.fieldLink RX1 11 "ChoirNotes" "book" "[LChoirNotes$Voice;") (by decide +kernel)) (fun _ h9 => h9) rfl dX1_digest_33 ?_
    refine lv_iload_n (pc := 36) hx hb dX1_digest_36 rfl (lv_at hl 0 rfl) ?_
    refine k_aald (pc := 37) (x := gV g i) hx hb hK hP 1 2 (cx1 g σ rest) rfl i rfl (show i < 4 by omega) (by decide) (if_pos (show i < 4 by omega)) dX1_digest_37 ?_
    refine k_rl (pc := 38) (va_runV (As := [.long y, .ref (gV g i)]) (rest := []) ⟨hx, hb, hml, hown, hts⟩ (cX1_mixVoice_m l g A σ rest i y (show i < 4 by omega) hI) (cwV 2 hts gX1_digest_X1_mixVoice rfl rfl rfl (by decide +kernel) ⟨Nat.le_of_ble_eq_true rfl, Nat.le_of_ble_eq_true rfl⟩) (cx_V (q0 := 0) (ci := 1) (r := (RX1, TX1, 2)) rfl (cx0 g σ rest) hP hD hA hK hX hS) rfl rfl hl.1 rfl (lv_room (Nat.le_of_ble_eq_true rfl)) dX1_digest_38 ⟨Nat.le_of_ble_eq_true rfl, Nat.le_of_ble_eq_true rfl⟩) (fun r_5 hr_5 => ?_)
    subst hr_5
    refine lv_lstore_n (lv' := [(1, .long (dgSs σ i (mxl y (dgV σ i)) (sC σ i))), (3, .int (nI i)), (0, .ref (gX g))]) (pc := 41) hx hb dX1_digest_41 rfl hl (by decide) rfl (fun ls hl => ?_)
    refine lv_iinc (v := nI (i + 1)) (lv' := [(3, .int (nI (i + 1))), (1, .long (dgSs σ i (mxl y (dgV σ i)) (sC σ i))), (0, .ref (gX g))]) (pc := 42) hx hb dX1_digest_42 hl (k := 1) rfl (nI_1 _) (by decide) rfl (fun ls hl => ?_)
    refine lv_goto (tgt := 22) (pc := 45) hx hb dX1_digest_45 (by decide) ?_
    exact ih_22 (i + 1) (dgSs σ i (mxl y (dgV σ i)) (sC σ i)) ⟨by omega, by rw [hy]; rfl⟩ (by omega) _ (lv_sub hl [0, 1, 2] rfl)
