/-! THE REFERENCE: best clef, best delay; calls that write nothing -/
theorem bm_n1 {σ : St} {v i : Nat} {u b m : Int32} (hi : 2 ≤ i) (h : bsM (bst (fun d => decide (1 ≤ d)) (fun d => clN σ v v d u) i) b m) : ¬ b = -1 := by
  have key : ∀ n, 2 ≤ n → ∃ q k, bst (fun d => decide (1 ≤ d)) (fun d => clN σ v v d u) n = some (q, k) := by
    intro n
    induction n with
    | zero => intro h; omega
    | succ n ih =>
      intro h
      show ∃ q k, (match bst (fun d => decide (1 ≤ d)) (fun d => clN σ v v d u) n with
        | none => if decide (1 ≤ n) then some (n, clN σ v v n u) else none
        | some (b, m) => if decide (1 ≤ n) && decide (clN σ v v n u < m) then some (n, clN σ v v n u) else some (b, m)) = some (q, k)
      cases e : bst (fun d => decide (1 ≤ d)) (fun d => clN σ v v d u) n with
      | none => exact ⟨n, _, by rw [if_pos (decide_eq_true (by omega))]⟩
      | some x =>
        obtain ⟨q, k⟩ := x
        by_cases z : (decide (1 ≤ n) && decide (clN σ v v n u < k)) = true
        · exact ⟨n, _, by simp only [z]; rfl⟩
        · exact ⟨q, k, by simp only [z]; rfl⟩
  obtain ⟨q, k, e⟩ := key i hi
  rw [e] at h
  obtain ⟨h1, -, h3, -⟩ := h
  rw [h1]
  exact nI_m1 (by omega)
set_option maxHeartbeats 4000000 in
set_option maxRecDepth 100000 in
/-- clashes with the others, if it had this clef -/
theorem cX2_withAll_m (l : Launch) (g : GA) (A : Nat → Prop) (σ : St) (rest : va_W) (th : Int32) (mi ti : Nat → Int32) (v : Nat) (c0 : Int32) (hv : v < 4) (hI : Inv σ) : Met l yX2_withAll wsX2_withAll ({ frames := 3, cells := 0, slots := 0, locals := 78 }) (va_Pc [.ref (gM g), .int (nI v), .int c0] (Cx g A (mw g σ th mi ti ++ rest))) (va_Qi (fun (r : Int32) (u : (Nat → Int32) × (Nat → Int32)) => r = nI (cwN σ v c0)) (fun u t => kB g A (mw g σ th u.1 u.2 ++ rest) t) A) 0 0 A := by
  refine Met.ofW (cc := cX2_withAll) (maxL := 5) (ret := (some .int)) (by decide) rfl ?_
  intro p e s m args below meth c s₁ B hml hv0
  obtain ⟨rfl, hP, hD, hA, hK, hX⟩ := hv0
  have hx := B.exec
  have hb := B.bytes
  have hr := B.returns
  have hts := atoms_spec (ws := wsX2_withAll) B.pre
  have hown : s.vm.findClass RX2 = some m.cls := findClass_of_methodNamed B.named
  have hlocks := B.notSynchronized
  have hS : va_S A s.heap s.heap [] := va_S.rf
  have hinX2 : ∀ w ∈ u_ws RX2 TX2 11, w ∈ wsX2_withAll := by decide +kernel
  have hl := lv_entry ([.ref (gM g), .int (nI v), .int c0]) (n := 5) (Nat.le_of_ble_eq_true rfl)
  rw [lg_entry_eq]
  generalize (lg_sl ([.ref (gM g), .int (nI v), .int c0]) ++ List.replicate (5 - (lg_sl ([.ref (gM g), .int (nI v), .int c0])).length) Slot.unset).toArray = ls at hl ⊢
  have hl : lv_has ls 5 [(0, .ref (gM g)), (1, .int (nI v)), (2, .int c0)] := hl
  have hN := hI.N
  refine lv_iconst (v := 0) (pc := 0) hx hb dX2_withAll_0 (by decide) ?_
  refine lv_istore_n (lv' := [(3, .int 0), (0, .ref (gM g)), (1, .int (nI v)), (2, .int c0)]) (pc := 1) hx hb dX2_withAll_1 rfl hl (by decide) rfl (fun ls hl => ?_)
  refine lv_iconst (v := 0) (pc := 2) hx hb dX2_withAll_2 (by decide) ?_
  refine lv_istore (lv' := [(4, .int 0), (3, .int 0), (0, .ref (gM g)), (1, .int (nI v)), (2, .int c0)]) (pc := 3) hx hb dX2_withAll_3 hl (by decide) rfl (fun ls hl => ?_)
  refine k_loopW4 (pc := 5) (nL := 5) (fun (i : Nat) (x : Int32) (fm : Nat → Int32) (ft0 : Nat → Int32) => i ≤ sN σ ∧ x = nI (sum (cwF σ v c0) i)) (fun (i : Nat) (x : Int32) (fm : Nat → Int32) (ft0 : Nat → Int32) => sN σ - i) (fun (i : Nat) (x : Int32) (fm : Nat → Int32) (ft0 : Nat → Int32) => [(4, .int (nI i)), (3, .int x), (0, .ref (gM g)), (1, .int (nI v)), (2, .int c0)]) (fun (i : Nat) (x : Int32) (fm : Nat → Int32) (ft0 : Nat → Int32) => mw g σ th fm ft0 ++ rest) (fun i x fm ft0 hJ ih_5 H_5 locs_5 ls hP hD hS hl => ?_) 0 0 mi ti ⟨Nat.zero_le _, rfl⟩ hP hD hS (lv_sub hl [0, 1, 2, 3, 4] rfl)
  obtain ⟨hi, hx0⟩ := hJ
  have hP : va_P (gD g) vwCl (mw g σ th fm ft0 ++ rest) H_5 := hP
  have hD : va_D A (mw g σ th fm ft0 ++ rest) := hD
  have hl : lv_has ls 5 [(4, .int (nI i)), (3, .int x), (0, .ref (gM g)), (1, .int (nI v)), (2, .int c0)] := hl
  refine lv_iload (pc := 5) hx hb dX2_withAll_5 (lv_at hl 0 rfl) ?_
  refine lv_aload_n (pc := 7) hx hb dX2_withAll_7 rfl (lv_at hl 2 rfl) ?_
  refine va_get (v := .int (nI (sN σ))) (pc := 8) (D := gD g) (ci := 2) (C := RX2) (T := TX2) (N := 11) hx hb hts hinX2 hown hK hP 0 (ma0 g σ th fm ft0 rest) rfl 1 (by decide) (hts (.fieldLink RX2 42 "ChoirNotesModel" "voices" "I") (by decide +kernel)) (fun _ h9 => h9) rfl dX2_withAll_8 ?_
  refine lv_icmp_ge (tgt := 56) (pc := 11) hx hb dX2_withAll_11 (by decide) (fun k1 => ?_) (fun k1 => ?_)
  · have k1 : sN σ ≤ i := (nI_leI (a := sN σ) (b := i) (by omega) (by omega)).mp k1
    refine lv_iload_n (pc := 56) hx hb dX2_withAll_56 rfl (lv_at hl 1 rfl) ?_
    exact W.iret hx hb hr (fun t ht hW => ⟨⟨_, (fm, ft0), rfl, (by rw [hx0, show i = sN σ by omega]; rfl), by rw [ht]; exact hP, hD⟩, hS.F ht⟩) hS.2.2 dX2_withAll_57
  · have k1 : ¬ (sN σ ≤ i) := fun z => k1 ((nI_leI (a := sN σ) (b := i) (by omega) (by omega)).mpr z)
    have hvn_i : i < sN σ := by omega
    refine lv_iload (pc := 14) hx hb dX2_withAll_14 (lv_at hl 0 rfl) ?_
    refine lv_iload_n (pc := 16) hx hb dX2_withAll_16 rfl (lv_at hl 3 rfl) ?_
    refine lv_icmp_eq (tgt := 50) (pc := 17) hx hb dX2_withAll_17 (by decide) (fun k2 => ?_) (fun k2 => ?_)
    · have k2 : i = v := (nI_eq (a := i) (b := v) (by omega) (by omega)).mp k2
      refine lv_iinc (v := nI (i + 1)) (lv' := [(4, .int (nI (i + 1))), (3, .int x), (0, .ref (gM g)), (1, .int (nI v)), (2, .int c0)]) (pc := 50) hx hb dX2_withAll_50 hl (k := 0) rfl (nI_1 _) (by decide) rfl (fun ls hl => ?_)
      refine lv_goto (tgt := 5) (pc := 53) hx hb dX2_withAll_53 (by decide) ?_
      exact ih_5 (i + 1) x fm ft0 ⟨by omega, by first | exact sm_0 hx0 (cwF_v k2) | exact sm_0 hx0 (cwF_n k2 k3) | exact sm_p hx0 (cwF_c k2 k3)⟩ (by omega) _ _ _ hP hD hS (lv_sub hl [0, 1, 2, 3, 4] rfl)
    · have k2 : ¬ (i = v) := fun z => k2 ((nI_eq (a := i) (b := v) (by omega) (by omega)).mpr z)
      refine lv_aload_n (pc := 20) hx hb dX2_withAll_20 rfl (lv_at hl 2 rfl) ?_
      refine va_get (v := .ref (gB g 1)) (pc := 21) (D := gD g) (ci := 2) (C := RX2) (T := TX2) (N := 11) hx hb hts hinX2 hown hK hP 0 (ma0 g σ th fm ft0 rest) rfl 3 (by decide) (hts (.fieldLink RX2 13 "ChoirNotesModel" "clef" "[I") (by decide +kernel)) (fun _ h9 => h9) rfl dX2_withAll_21 ?_
      refine lv_iload (pc := 24) hx hb dX2_withAll_24 (lv_at hl 0 rfl) ?_
      refine k_iald (pc := 26) (x := sL σ i) hx hb hK hP 2 0 (ma2 g σ th fm ft0 rest) rfl i rfl (by omega) (by decide) (if_pos hvn_i) dX2_withAll_26 ?_
      refine lv_iconst (v := (-1)) (pc := 27) hx hb dX2_withAll_27 (by decide) ?_
      refine lv_icmp_eq (tgt := 50) (pc := 28) hx hb dX2_withAll_28 (by decide) (fun k3 => ?_) (fun k3 => ?_)
      · refine lv_iinc (v := nI (i + 1)) (lv' := [(4, .int (nI (i + 1))), (3, .int x), (0, .ref (gM g)), (1, .int (nI v)), (2, .int c0)]) (pc := 50) hx hb dX2_withAll_50 hl (k := 0) rfl (nI_1 _) (by decide) rfl (fun ls hl => ?_)
        refine lv_goto (tgt := 5) (pc := 53) hx hb dX2_withAll_53 (by decide) ?_
        exact ih_5 (i + 1) x fm ft0 ⟨by omega, by first | exact sm_0 hx0 (cwF_v k2) | exact sm_0 hx0 (cwF_n k2 k3) | exact sm_p hx0 (cwF_c k2 k3)⟩ (by omega) _ _ _ hP hD hS (lv_sub hl [0, 1, 2, 3, 4] rfl)
      · refine lv_iload_n (pc := 31) hx hb dX2_withAll_31 rfl (lv_at hl 1 rfl) ?_
        refine lv_aload_n (pc := 32) hx hb dX2_withAll_32 rfl (lv_at hl 2 rfl) ?_
        refine lv_iload_n (pc := 33) hx hb dX2_withAll_33 rfl (lv_at hl 3 rfl) ?_
        refine lv_iload_n (pc := 34) hx hb dX2_withAll_34 rfl (lv_at hl 4 rfl) ?_
        refine lv_iload (pc := 35) hx hb dX2_withAll_35 (lv_at hl 0 rfl) ?_
        refine lv_aload_n (pc := 37) hx hb dX2_withAll_37 rfl (lv_at hl 2 rfl) ?_
        refine va_get (v := .ref (gB g 1)) (pc := 38) (D := gD g) (ci := 2) (C := RX2) (T := TX2) (N := 11) hx hb hts hinX2 hown hK hP 0 (ma0 g σ th fm ft0 rest) rfl 3 (by decide) (hts (.fieldLink RX2 13 "ChoirNotesModel" "clef" "[I") (by decide +kernel)) (fun _ h9 => h9) rfl dX2_withAll_38 ?_
        refine lv_iload (pc := 41) hx hb dX2_withAll_41 (lv_at hl 0 rfl) ?_
        refine k_iald (pc := 43) (x := sL σ i) hx hb hK hP 2 0 (ma2 g σ th fm ft0 rest) rfl i rfl (by omega) (by decide) (if_pos hvn_i) dX2_withAll_43 ?_
        refine lv_iconst (v := 0) (pc := 44) hx hb dX2_withAll_44 (by decide) ?_
        refine va_calli (pc := 45) (va_runV (As := [.int (nI v), .int c0, .int (nI i), .int (sL σ i), .int 0]) (rest := [.int x]) ⟨hx, hb, hml, hown, hts⟩ (cX2_clash_m l g A σ rest th fm ft0 v c0 i (sL σ i) false hv (by omega) hI) (cwV 5 hts gX2_withAll_X2_clash rfl rfl rfl (by decide +kernel) ⟨Nat.le_of_ble_eq_true rfl, Nat.le_of_ble_eq_true rfl⟩) (cx_V (q0 := 0) (ci := 2) (r := (RX2, TX2, 11)) rfl (ma0 g σ th fm ft0 rest) hP hD hA hK hX hS) rfl rfl hl.1 rfl (lv_room (Nat.le_of_ble_eq_true rfl)) dX2_withAll_45 ⟨Nat.le_of_ble_eq_true rfl, Nat.le_of_ble_eq_true rfl⟩) hS (fun _ _ h => h) (fun _ h => h) (fun r_4 u5 t5 H5 locs5 ht5 hvm5 hw5 hB5 hz5 hk5 hS => ?_)
        obtain ⟨hP, hD⟩ := hB5
        rw [ht5] at hP
        subst hw5
        refine lv_iadd (pc := 48) hx hb dX2_withAll_48 ?_
        refine lv_istore_n (lv' := [(3, .int (x + (nI (clN σ v i 0 (2 * ((sL σ i) - c0)))))), (4, .int (nI i)), (0, .ref (gM g)), (1, .int (nI v)), (2, .int c0)]) (pc := 49) hx hb dX2_withAll_49 rfl hl (by decide) rfl (fun ls hl => ?_)
        refine lv_iinc (v := nI (i + 1)) (lv' := [(4, .int (nI (i + 1))), (3, .int (x + (nI (clN σ v i 0 (2 * ((sL σ i) - c0)))))), (0, .ref (gM g)), (1, .int (nI v)), (2, .int c0)]) (pc := 50) hx hb dX2_withAll_50 hl (k := 1) rfl (nI_1 _) (by decide) rfl (fun ls hl => ?_)
        refine lv_goto (tgt := 5) (pc := 53) hx hb dX2_withAll_53 (by decide) ?_
        exact ih_5 (i + 1) (x + (nI (clN σ v i 0 (2 * ((sL σ i) - c0))))) (u5.1) (u5.2) ⟨by omega, by first | exact sm_0 hx0 (cwF_v k2) | exact sm_0 hx0 (cwF_n k2 k3) | exact sm_p hx0 (cwF_c k2 k3)⟩ (by omega) _ _ _ hP hD hS (lv_sub hl [0, 1, 2, 3, 4] rfl)
set_option maxHeartbeats 4000000 in
set_option maxRecDepth 100000 in
/-- the clef with the fewest clashes -/
theorem cX2_best_m (l : Launch) (g : GA) (A : Nat → Prop) (σ : St) (rest : va_W) (th : Int32) (mi ti : Nat → Int32) (v : Nat) (hv : v < 4) (hI : Inv σ) : Met l yX2_best wsX2_best ({ frames := 4, cells := 0, slots := 0, locals := 102 }) (va_Pc [.ref (gM g), .int (nI v)] (Cx g A (mw g σ th mi ti ++ rest))) (va_Qi (fun (r : Int32) (u : (Nat → Int32) × (Nat → Int32)) => r = bcl σ v) (fun u t => kB g A (mw g σ th u.1 u.2 ++ rest) t) A) 0 0 A := by
  refine Met.ofW (cc := cX2_best) (maxL := 6) (ret := (some .int)) (by decide) rfl ?_
  intro p e s m args below meth c s₁ B hml hv0
  obtain ⟨rfl, hP, hD, hA, hK, hX⟩ := hv0
  have hx := B.exec
  have hb := B.bytes
  have hr := B.returns
  have hts := atoms_spec (ws := wsX2_best) B.pre
  have hown : s.vm.findClass RX2 = some m.cls := findClass_of_methodNamed B.named
  have hlocks := B.notSynchronized
  have hS : va_S A s.heap s.heap [] := va_S.rf
  have hl := lv_entry ([.ref (gM g), .int (nI v)]) (n := 6) (Nat.le_of_ble_eq_true rfl)
  rw [lg_entry_eq]
  generalize (lg_sl ([.ref (gM g), .int (nI v)]) ++ List.replicate (6 - (lg_sl ([.ref (gM g), .int (nI v)])).length) Slot.unset).toArray = ls at hl ⊢
  have hl : lv_has ls 6 [(0, .ref (gM g)), (1, .int (nI v))] := hl
  refine lv_iconst (v := (-1)) (pc := 0) hx hb dX2_best_0 (by decide) ?_
  refine lv_istore_n (lv' := [(2, .int ((-1))), (0, .ref (gM g)), (1, .int (nI v))]) (pc := 1) hx hb dX2_best_1 rfl hl (by decide) rfl (fun ls hl => ?_)
  refine lv_iconst (v := 0) (pc := 2) hx hb dX2_best_2 (by decide) ?_
  refine lv_istore_n (lv' := [(3, .int 0), (2, .int ((-1))), (0, .ref (gM g)), (1, .int (nI v))]) (pc := 3) hx hb dX2_best_3 rfl hl (by decide) rfl (fun ls hl => ?_)
  refine lv_iconst (v := 0) (pc := 4) hx hb dX2_best_4 (by decide) ?_
  refine lv_istore (lv' := [(4, .int 0), (3, .int 0), (2, .int ((-1))), (0, .ref (gM g)), (1, .int (nI v))]) (pc := 5) hx hb dX2_best_5 hl (by decide) rfl (fun ls hl => ?_)
  refine k_loopW5 (pc := 7) (nL := 6) (fun (i : Nat) (b0 : Int32) (m0 : Int32) (fm : Nat → Int32) (ft0 : Nat → Int32) => i ≤ 6 ∧ bsM (bst (fun c => ft σ v (nI c)) (fun c => cwN σ v (nI c)) i) b0 m0) (fun (i : Nat) (b0 : Int32) (m0 : Int32) (fm : Nat → Int32) (ft0 : Nat → Int32) => 6 - i) (fun (i : Nat) (b0 : Int32) (m0 : Int32) (fm : Nat → Int32) (ft0 : Nat → Int32) => [(4, .int (nI i)), (3, .int m0), (2, .int b0), (0, .ref (gM g)), (1, .int (nI v))]) (fun (i : Nat) (b0 : Int32) (m0 : Int32) (fm : Nat → Int32) (ft0 : Nat → Int32) => mw g σ th fm ft0 ++ rest) (fun i b0 m0 fm ft0 hJ ih_7 H_7 locs_7 ls hP hD hS hl => ?_) 0 ((-1)) 0 mi ti ⟨Nat.zero_le _, rfl⟩ hP hD hS (lv_sub hl [0, 1, 2, 3, 4] rfl)
  obtain ⟨hi, hbs⟩ := hJ
  have hP : va_P (gD g) vwCl (mw g σ th fm ft0 ++ rest) H_7 := hP
  have hD : va_D A (mw g σ th fm ft0 ++ rest) := hD
  have hl : lv_has ls 6 [(4, .int (nI i)), (3, .int m0), (2, .int b0), (0, .ref (gM g)), (1, .int (nI v))] := hl
  refine lv_iload (pc := 7) hx hb dX2_best_7 (lv_at hl 0 rfl) ?_
  refine lv_bipush (v := 6) (pc := 9) hx hb dX2_best_9 (by decide) ?_
  refine lv_icmp_ge (tgt := 62) (pc := 11) hx hb dX2_best_11 (by decide) (fun k1 => ?_) (fun k1 => ?_)
  · have k1 : 6 ≤ i := (nI_leI (a := 6) (b := i) (by omega) (by omega)).mp k1
    refine lv_iload_n (pc := 62) hx hb dX2_best_62 rfl (lv_at hl 2 rfl) ?_
    exact W.iret hx hb hr (fun t ht hW => ⟨⟨_, (fm, ft0), rfl, (by rw [bsM_I hbs, show i = 6 by omega]; rfl), by rw [ht]; exact hP, hD⟩, hS.F ht⟩) hS.2.2 dX2_best_63
  · have k1 : ¬ (6 ≤ i) := fun z => k1 ((nI_leI (a := 6) (b := i) (by omega) (by omega)).mpr z)
    refine lv_aload_n (pc := 14) hx hb dX2_best_14 rfl (lv_at hl 3 rfl) ?_
    refine lv_iload_n (pc := 15) hx hb dX2_best_15 rfl (lv_at hl 4 rfl) ?_
    refine lv_iload (pc := 16) hx hb dX2_best_16 (lv_at hl 0 rfl) ?_
    refine k_ri (pc := 18) (va_runV (As := [.int (nI v), .int (nI i)]) (rest := []) ⟨hx, hb, hml, hown, hts⟩ (cX2_fit_m l g A σ rest th fm ft0 v (nI i) hv hI) (cwV 2 hts gX2_best_X2_fit rfl rfl rfl (by decide +kernel) ⟨Nat.le_of_ble_eq_true rfl, Nat.le_of_ble_eq_true rfl⟩) (cx_V (q0 := 0) (ci := 2) (r := (RX2, TX2, 11)) rfl (ma0 g σ th fm ft0 rest) hP hD hA hK hX hS) rfl rfl hl.1 rfl (lv_room (Nat.le_of_ble_eq_true rfl)) dX2_best_18 ⟨Nat.le_of_ble_eq_true rfl, Nat.le_of_ble_eq_true rfl⟩) (fun r_2 hr_2 => ?_)
    subst hr_2
    refine lv_if_ne (tgt := 27) (pc := 21) hx hb dX2_best_21 (by decide) (fun k2 => ?_) (fun k2 => ?_)
    · have k2 := bI_n0.mp k2
      refine lv_aload_n (pc := 27) hx hb dX2_best_27 rfl (lv_at hl 3 rfl) ?_
      refine lv_iload_n (pc := 28) hx hb dX2_best_28 rfl (lv_at hl 4 rfl) ?_
      refine lv_iload (pc := 29) hx hb dX2_best_29 (lv_at hl 0 rfl) ?_
      refine va_calli (pc := 31) (va_runV (As := [.int (nI v), .int (nI i)]) (rest := []) ⟨hx, hb, hml, hown, hts⟩ (cX2_withAll_m l g A σ rest th fm ft0 v (nI i) hv hI) (cwV 2 hts gX2_best_X2_withAll rfl rfl rfl (by decide +kernel) ⟨Nat.le_of_ble_eq_true rfl, Nat.le_of_ble_eq_true rfl⟩) (cx_V (q0 := 0) (ci := 2) (r := (RX2, TX2, 11)) rfl (ma0 g σ th fm ft0 rest) hP hD hA hK hX hS) rfl rfl hl.1 rfl (lv_room (Nat.le_of_ble_eq_true rfl)) dX2_best_31 ⟨Nat.le_of_ble_eq_true rfl, Nat.le_of_ble_eq_true rfl⟩) hS (fun _ _ h => h) (fun _ h => h) (fun r_4 u5 t5 H5 locs5 ht5 hvm5 hw5 hB5 hz5 hk5 hS => ?_)
      obtain ⟨hP, hD⟩ := hB5
      rw [ht5] at hP
      subst hw5
      refine lv_istore (lv' := [(5, .int (nI (cwN σ v (nI i)))), (4, .int (nI i)), (3, .int m0), (2, .int b0), (0, .ref (gM g)), (1, .int (nI v))]) (pc := 34) hx hb dX2_best_34 hl (by decide) rfl (fun ls hl => ?_)
      refine lv_iload_n (pc := 36) hx hb dX2_best_36 rfl (lv_at hl 3 rfl) ?_
      refine lv_iconst (v := (-1)) (pc := 37) hx hb dX2_best_37 (by decide) ?_
      refine lv_icmp_eq (tgt := 50) (pc := 38) hx hb dX2_best_38 (by decide) (fun k3 => ?_) (fun k3 => ?_)
      · refine lv_iload (pc := 50) hx hb dX2_best_50 (lv_at hl 1 rfl) ?_
        refine lv_istore_n (lv' := [(2, .int (nI i)), (5, .int (nI (cwN σ v (nI i)))), (4, .int (nI i)), (3, .int m0), (0, .ref (gM g)), (1, .int (nI v))]) (pc := 52) hx hb dX2_best_52 rfl hl (by decide) rfl (fun ls hl => ?_)
        refine lv_iload (pc := 53) hx hb dX2_best_53 (lv_at hl 1 rfl) ?_
        refine lv_istore_n (lv' := [(3, .int (nI (cwN σ v (nI i)))), (2, .int (nI i)), (5, .int (nI (cwN σ v (nI i)))), (4, .int (nI i)), (0, .ref (gM g)), (1, .int (nI v))]) (pc := 55) hx hb dX2_best_55 rfl hl (by decide) rfl (fun ls hl => ?_)
        refine lv_iinc (v := nI (i + 1)) (lv' := [(4, .int (nI (i + 1))), (3, .int (nI (cwN σ v (nI i)))), (2, .int (nI i)), (5, .int (nI (cwN σ v (nI i)))), (0, .ref (gM g)), (1, .int (nI v))]) (pc := 56) hx hb dX2_best_56 hl (k := 3) rfl (nI_1 _) (by decide) rfl (fun ls hl => ?_)
        refine lv_goto (tgt := 7) (pc := 59) hx hb dX2_best_59 (by decide) ?_
        exact ih_7 (i + 1) (nI i) (nI (cwN σ v (nI i))) (u5.1) (u5.2) ⟨by omega, by first | exact bm_skip hbs k2 | exact bm_keep hbs (by have := cwN_le hI v (nI i); omega) k3 k4 | exact bm_take hbs k2 (by omega) (by have := cwN_le hI v (nI i); omega) (Or.inl k3) | exact bm_take hbs k2 (by omega) (by have := cwN_le hI v (nI i); omega) (Or.inr k4)⟩ (by omega) _ _ _ hP hD hS (lv_sub hl [0, 1, 2, 4, 5] rfl)
      · refine lv_iload (pc := 41) hx hb dX2_best_41 (lv_at hl 0 rfl) ?_
        refine lv_iload_n (pc := 43) hx hb dX2_best_43 rfl (lv_at hl 2 rfl) ?_
        refine lv_icmp_lt (tgt := 50) (pc := 44) hx hb dX2_best_44 (by decide) (fun k4 => ?_) (fun k4 => ?_)
        · refine lv_iload (pc := 50) hx hb dX2_best_50 (lv_at hl 1 rfl) ?_
          refine lv_istore_n (lv' := [(2, .int (nI i)), (5, .int (nI (cwN σ v (nI i)))), (4, .int (nI i)), (3, .int m0), (0, .ref (gM g)), (1, .int (nI v))]) (pc := 52) hx hb dX2_best_52 rfl hl (by decide) rfl (fun ls hl => ?_)
          refine lv_iload (pc := 53) hx hb dX2_best_53 (lv_at hl 1 rfl) ?_
          refine lv_istore_n (lv' := [(3, .int (nI (cwN σ v (nI i)))), (2, .int (nI i)), (5, .int (nI (cwN σ v (nI i)))), (4, .int (nI i)), (0, .ref (gM g)), (1, .int (nI v))]) (pc := 55) hx hb dX2_best_55 rfl hl (by decide) rfl (fun ls hl => ?_)
          refine lv_iinc (v := nI (i + 1)) (lv' := [(4, .int (nI (i + 1))), (3, .int (nI (cwN σ v (nI i)))), (2, .int (nI i)), (5, .int (nI (cwN σ v (nI i)))), (0, .ref (gM g)), (1, .int (nI v))]) (pc := 56) hx hb dX2_best_56 hl (k := 3) rfl (nI_1 _) (by decide) rfl (fun ls hl => ?_)
          refine lv_goto (tgt := 7) (pc := 59) hx hb dX2_best_59 (by decide) ?_
          exact ih_7 (i + 1) (nI i) (nI (cwN σ v (nI i))) (u5.1) (u5.2) ⟨by omega, by first | exact bm_skip hbs k2 | exact bm_keep hbs (by have := cwN_le hI v (nI i); omega) k3 k4 | exact bm_take hbs k2 (by omega) (by have := cwN_le hI v (nI i); omega) (Or.inl k3) | exact bm_take hbs k2 (by omega) (by have := cwN_le hI v (nI i); omega) (Or.inr k4)⟩ (by omega) _ _ _ hP hD hS (lv_sub hl [0, 1, 2, 4, 5] rfl)
        · refine lv_goto (tgt := 56) (pc := 47) hx hb dX2_best_47 (by decide) ?_
          refine lv_iinc (v := nI (i + 1)) (lv' := [(4, .int (nI (i + 1))), (5, .int (nI (cwN σ v (nI i)))), (3, .int m0), (2, .int b0), (0, .ref (gM g)), (1, .int (nI v))]) (pc := 56) hx hb dX2_best_56 hl (k := 1) rfl (nI_1 _) (by decide) rfl (fun ls hl => ?_)
          refine lv_goto (tgt := 7) (pc := 59) hx hb dX2_best_59 (by decide) ?_
          exact ih_7 (i + 1) b0 m0 (u5.1) (u5.2) ⟨by omega, by first | exact bm_skip hbs k2 | exact bm_keep hbs (by have := cwN_le hI v (nI i); omega) k3 k4 | exact bm_take hbs k2 (by omega) (by have := cwN_le hI v (nI i); omega) (Or.inl k3) | exact bm_take hbs k2 (by omega) (by have := cwN_le hI v (nI i); omega) (Or.inr k4)⟩ (by omega) _ _ _ hP hD hS (lv_sub hl [0, 2, 3, 4, 5] rfl)
    · have k2 := bI_0.mp k2
      refine lv_goto (tgt := 56) (pc := 24) hx hb dX2_best_24 (by decide) ?_
      refine lv_iinc (v := nI (i + 1)) (lv' := [(4, .int (nI (i + 1))), (3, .int m0), (2, .int b0), (0, .ref (gM g)), (1, .int (nI v))]) (pc := 56) hx hb dX2_best_56 hl (k := 0) rfl (nI_1 _) (by decide) rfl (fun ls hl => ?_)
      refine lv_goto (tgt := 7) (pc := 59) hx hb dX2_best_59 (by decide) ?_
      exact ih_7 (i + 1) b0 m0 fm ft0 ⟨by omega, by first | exact bm_skip hbs k2 | exact bm_keep hbs (by have := cwN_le hI v (nI i); omega) k3 k4 | exact bm_take hbs k2 (by omega) (by have := cwN_le hI v (nI i); omega) (Or.inl k3) | exact bm_take hbs k2 (by omega) (by have := cwN_le hI v (nI i); omega) (Or.inr k4)⟩ (by omega) _ _ _ hP hD hS (lv_sub hl [0, 1, 2, 3, 4] rfl)
set_option maxHeartbeats 4000000 in
set_option maxRecDepth 100000 in
/-- the delay with the fewest clashes -/
theorem cX2_delay_m (l : Launch) (g : GA) (A : Nat → Prop) (σ : St) (rest : va_W) (th : Int32) (mi ti : Nat → Int32) (v : Nat) (u0 : Int32) (hv : v < 4) (hI : Inv σ) : Met l yX2_delay wsX2_delay ({ frames := 3, cells := 0, slots := 0, locals := 67 }) (va_Pc [.ref (gM g), .int (nI v), .int u0] (Cx g A (mw g σ th mi ti ++ rest))) (va_Qi (fun (r : Int32) (u : (Nat → Int32) × (Nat → Int32)) => r = bdl σ v u0) (fun u t => kB g A (mw g σ th u.1 u.2 ++ rest) t) A) 0 0 A := by
  refine Met.ofW (cc := cX2_delay) (maxL := 8) (ret := (some .int)) (by decide) rfl ?_
  intro p e s m args below meth c s₁ B hml hv0
  obtain ⟨rfl, hP, hD, hA, hK, hX⟩ := hv0
  have hx := B.exec
  have hb := B.bytes
  have hr := B.returns
  have hts := atoms_spec (ws := wsX2_delay) B.pre
  have hown : s.vm.findClass RX2 = some m.cls := findClass_of_methodNamed B.named
  have hlocks := B.notSynchronized
  have hS : va_S A s.heap s.heap [] := va_S.rf
  have hinX2 : ∀ w ∈ u_ws RX2 TX2 11, w ∈ wsX2_delay := by decide +kernel
  have hl := lv_entry ([.ref (gM g), .int (nI v), .int u0]) (n := 8) (Nat.le_of_ble_eq_true rfl)
  rw [lg_entry_eq]
  generalize (lg_sl ([.ref (gM g), .int (nI v), .int u0]) ++ List.replicate (8 - (lg_sl ([.ref (gM g), .int (nI v), .int u0])).length) Slot.unset).toArray = ls at hl ⊢
  have hl : lv_has ls 8 [(0, .ref (gM g)), (1, .int (nI v)), (2, .int u0)] := hl
  refine lv_aload_n (pc := 0) hx hb dX2_delay_0 rfl (lv_at hl 0 rfl) ?_
  refine lv_iload_n (pc := 1) hx hb dX2_delay_1 rfl (lv_at hl 1 rfl) ?_
  refine lv_aload_n (pc := 2) hx hb dX2_delay_2 rfl (lv_at hl 0 rfl) ?_
  refine va_get (v := .ref (gB g 7)) (pc := 3) (D := gD g) (ci := 2) (C := RX2) (T := TX2) (N := 11) hx hb hts hinX2 hown hK hP 0 (ma0 g σ th mi ti rest) rfl 9 (by decide) (hts (.fieldLink RX2 32 "ChoirNotesModel" "mine" "[I") (by decide +kernel)) (fun _ h9 => h9) rfl dX2_delay_3 ?_
  refine va_calli (pc := 6) (va_runV (As := [.int (nI v), .ref (gB g 7)]) (rest := []) ⟨hx, hb, hml, hown, hts⟩ (cX2_layM_m l g A σ rest th mi ti v hv hI) (cwV 2 hts gX2_delay_X2_lay rfl rfl rfl (by decide +kernel) ⟨Nat.le_of_ble_eq_true rfl, Nat.le_of_ble_eq_true rfl⟩) (cx_V (q0 := 0) (ci := 2) (r := (RX2, TX2, 11)) rfl (ma0 g σ th mi ti rest) hP hD hA hK hX hS) rfl rfl hl.1 rfl (lv_room (Nat.le_of_ble_eq_true rfl)) dX2_delay_6 ⟨Nat.le_of_ble_eq_true rfl, Nat.le_of_ble_eq_true rfl⟩) hS (fun _ _ h => h) (fun _ h => h) (fun r_1 u2 t2 H2 locs2 ht2 hvm2 hw2 hB2 hz2 hk2 hS => ?_)
  obtain ⟨hP, hD⟩ := hB2
  rw [ht2] at hP
  obtain ⟨rfl, hw2⟩ := hw2
  refine lv_istore_n (lv' := [(3, .int (nI (len σ v))), (0, .ref (gM g)), (1, .int (nI v)), (2, .int u0)]) (pc := 9) hx hb dX2_delay_9 rfl hl (by decide) rfl (fun ls hl => ?_)
  refine lv_iconst (v := 1) (pc := 10) hx hb dX2_delay_10 (by decide) ?_
  refine lv_istore (lv' := [(4, .int 1), (3, .int (nI (len σ v))), (0, .ref (gM g)), (1, .int (nI v)), (2, .int u0)]) (pc := 11) hx hb dX2_delay_11 hl (by decide) rfl (fun ls hl => ?_)
  refine lv_aload_n (pc := 13) hx hb dX2_delay_13 rfl (lv_at hl 2 rfl) ?_
  refine lv_iload_n (pc := 14) hx hb dX2_delay_14 rfl (lv_at hl 1 rfl) ?_
  refine lv_iconst (v := 1) (pc := 15) hx hb dX2_delay_15 (by decide) ?_
  refine lv_iload_n (pc := 16) hx hb dX2_delay_16 rfl (lv_at hl 4 rfl) ?_
  refine k_ri (pc := 17) (va_runV (As := [.int (nI (len σ v)), .int 1, .int u0]) (rest := []) ⟨hx, hb, hml, hown, hts⟩ (cX2_canon_m l g A σ rest th u2 ti v 1 u0 hv hI (by omega) hw2) (cwV 3 hts gX2_delay_X2_canon rfl rfl rfl (by decide +kernel) ⟨Nat.le_of_ble_eq_true rfl, Nat.le_of_ble_eq_true rfl⟩) (cx_V (q0 := 0) (ci := 2) (r := (RX2, TX2, 11)) rfl (ma0 g σ th u2 ti rest) hP hD hA hK hX hS) rfl rfl hl.1 rfl (lv_room (Nat.le_of_ble_eq_true rfl)) dX2_delay_17 ⟨Nat.le_of_ble_eq_true rfl, Nat.le_of_ble_eq_true rfl⟩) (fun r_3 hr_3 => ?_)
  subst hr_3
  refine lv_istore (lv' := [(5, .int (nI (clN σ v v 1 u0))), (4, .int 1), (3, .int (nI (len σ v))), (0, .ref (gM g)), (1, .int (nI v)), (2, .int u0)]) (pc := 20) hx hb dX2_delay_20 hl (by decide) rfl (fun ls hl => ?_)
  refine lv_iconst (v := 2) (pc := 22) hx hb dX2_delay_22 (by decide) ?_
  refine lv_istore (lv' := [(6, .int 2), (5, .int (nI (clN σ v v 1 u0))), (4, .int 1), (3, .int (nI (len σ v))), (0, .ref (gM g)), (1, .int (nI v)), (2, .int u0)]) (pc := 23) hx hb dX2_delay_23 hl (by decide) rfl (fun ls hl => ?_)
  refine k_loop3 (pc := 25) (nL := 8) (fun (i : Nat) (b0 : Int32) (m0 : Int32) => (2 ≤ i ∧ i ≤ 49) ∧ bsM (bst (fun d => decide (1 ≤ d)) (fun d => clN σ v v d u0) i) b0 m0) (fun (i : Nat) (b0 : Int32) (m0 : Int32) => 49 - i) (fun (i : Nat) (b0 : Int32) (m0 : Int32) => [(6, .int (nI i)), (5, .int m0), (4, .int b0), (3, .int (nI (len σ v))), (0, .ref (gM g)), (2, .int u0)]) (fun i b0 m0 hJ ih_25 ls hl => ?_) 2 1 (nI (clN σ v v 1 u0)) ⟨⟨Nat.le_refl _, by omega⟩, bm_2 rfl rfl (by have := clN_le hI v v 1 u0; omega)⟩ (lv_sub hl [0, 1, 2, 3, 4, 6] rfl)
  obtain ⟨⟨hi1, hi⟩, hbs⟩ := hJ
  have hl : lv_has ls 8 [(6, .int (nI i)), (5, .int m0), (4, .int b0), (3, .int (nI (len σ v))), (0, .ref (gM g)), (2, .int u0)] := hl
  refine lv_iload (pc := 25) hx hb dX2_delay_25 (lv_at hl 0 rfl) ?_
  refine lv_bipush (v := 48) (pc := 27) hx hb dX2_delay_27 (by decide) ?_
  refine lv_icmp_gt (tgt := 66) (pc := 29) hx hb dX2_delay_29 (by decide) (fun k1 => ?_) (fun k1 => ?_)
  · have k1 : 48 < i := (nI_ltI (a := 48) (b := i) (by omega) (by omega)).mp k1
    refine lv_iload (pc := 66) hx hb dX2_delay_66 (lv_at hl 2 rfl) ?_
    exact W.iret hx hb hr (fun t ht hW => ⟨⟨_, (u2, ti), rfl, (by rw [bsM_I hbs, show i = 49 by omega]; rfl), by rw [ht]; exact hP, hD⟩, hS.F ht⟩) hS.2.2 dX2_delay_68
  · have k1 : ¬ (48 < i) := fun z => k1 ((nI_ltI (a := 48) (b := i) (by omega) (by omega)).mpr z)
    refine lv_aload_n (pc := 32) hx hb dX2_delay_32 rfl (lv_at hl 4 rfl) ?_
    refine lv_iload_n (pc := 33) hx hb dX2_delay_33 rfl (lv_at hl 3 rfl) ?_
    refine lv_iload (pc := 34) hx hb dX2_delay_34 (lv_at hl 0 rfl) ?_
    refine lv_iload_n (pc := 36) hx hb dX2_delay_36 rfl (lv_at hl 5 rfl) ?_
    refine k_ri (pc := 37) (va_runV (As := [.int (nI (len σ v)), .int (nI i), .int u0]) (rest := []) ⟨hx, hb, hml, hown, hts⟩ (cX2_canon_m l g A σ rest th u2 ti v i u0 hv hI (by omega) hw2) (cwV 3 hts gX2_delay_X2_canon rfl rfl rfl (by decide +kernel) ⟨Nat.le_of_ble_eq_true rfl, Nat.le_of_ble_eq_true rfl⟩) (cx_V (q0 := 0) (ci := 2) (r := (RX2, TX2, 11)) rfl (ma0 g σ th u2 ti rest) hP hD hA hK hX hS) rfl rfl hl.1 rfl (lv_room (Nat.le_of_ble_eq_true rfl)) dX2_delay_37 ⟨Nat.le_of_ble_eq_true rfl, Nat.le_of_ble_eq_true rfl⟩) (fun r_5 hr_5 => ?_)
    subst hr_5
    refine lv_istore (lv' := [(7, .int (nI (clN σ v v i u0))), (6, .int (nI i)), (5, .int m0), (4, .int b0), (3, .int (nI (len σ v))), (0, .ref (gM g)), (2, .int u0)]) (pc := 40) hx hb dX2_delay_40 hl (by decide) rfl (fun ls hl => ?_)
    refine lv_iload (pc := 42) hx hb dX2_delay_42 (lv_at hl 0 rfl) ?_
    refine lv_iload (pc := 44) hx hb dX2_delay_44 (lv_at hl 2 rfl) ?_
    refine lv_icmp_lt (tgt := 52) (pc := 46) hx hb dX2_delay_46 (by decide) (fun k4 => ?_) (fun k4 => ?_)
    · refine lv_iload (pc := 52) hx hb dX2_delay_52 (lv_at hl 1 rfl) ?_
      refine lv_istore (lv' := [(4, .int (nI i)), (7, .int (nI (clN σ v v i u0))), (6, .int (nI i)), (5, .int m0), (3, .int (nI (len σ v))), (0, .ref (gM g)), (2, .int u0)]) (pc := 54) hx hb dX2_delay_54 hl (by decide) rfl (fun ls hl => ?_)
      refine lv_iload (pc := 56) hx hb dX2_delay_56 (lv_at hl 1 rfl) ?_
      refine lv_istore (lv' := [(5, .int (nI (clN σ v v i u0))), (4, .int (nI i)), (7, .int (nI (clN σ v v i u0))), (6, .int (nI i)), (3, .int (nI (len σ v))), (0, .ref (gM g)), (2, .int u0)]) (pc := 58) hx hb dX2_delay_58 hl (by decide) rfl (fun ls hl => ?_)
      refine lv_iinc (v := nI (i + 1)) (lv' := [(6, .int (nI (i + 1))), (5, .int (nI (clN σ v v i u0))), (4, .int (nI i)), (7, .int (nI (clN σ v v i u0))), (3, .int (nI (len σ v))), (0, .ref (gM g)), (2, .int u0)]) (pc := 60) hx hb dX2_delay_60 hl (k := 3) rfl (nI_1 _) (by decide) rfl (fun ls hl => ?_)
      refine lv_goto (tgt := 25) (pc := 63) hx hb dX2_delay_63 (by decide) ?_
      exact ih_25 (i + 1) (nI i) (nI (clN σ v v i u0)) ⟨⟨by omega, by omega⟩, by first | exact bm_keep hbs (by have := clN_le hI v v i u0; omega) (bm_n1 hi1 hbs) k4 | exact bm_take hbs (decide_eq_true (by omega)) (by omega) (by have := clN_le hI v v i u0; omega) (Or.inr k4)⟩ (by omega) _ (lv_sub hl [0, 1, 2, 4, 5, 6] rfl)
    · refine lv_goto (tgt := 60) (pc := 49) hx hb dX2_delay_49 (by decide) ?_
      refine lv_iinc (v := nI (i + 1)) (lv' := [(6, .int (nI (i + 1))), (7, .int (nI (clN σ v v i u0))), (5, .int m0), (4, .int b0), (3, .int (nI (len σ v))), (0, .ref (gM g)), (2, .int u0)]) (pc := 60) hx hb dX2_delay_60 hl (k := 1) rfl (nI_1 _) (by decide) rfl (fun ls hl => ?_)
      refine lv_goto (tgt := 25) (pc := 63) hx hb dX2_delay_63 (by decide) ?_
      exact ih_25 (i + 1) b0 m0 ⟨⟨by omega, by omega⟩, by first | exact bm_keep hbs (by have := clN_le hI v v i u0; omega) (bm_n1 hi1 hbs) k4 | exact bm_take hbs (decide_eq_true (by omega)) (by omega) (by have := clN_le hI v v i u0; omega) (Or.inr k4)⟩ (by omega) _ (lv_sub hl [0, 2, 3, 4, 5, 6] rfl)
set_option maxHeartbeats 4000000 in
set_option maxRecDepth 100000 in
/-- signs -/
theorem cX2_signs_m (l : Launch) (g : GA) (A : Nat → Prop) (σ : St) (rest : va_W) (th : Int32) (mi ti : Nat → Int32) (p0 : Int32) (hI : Inv σ) : Met l yX2_signs wsX2_signs ({ frames := 2, cells := 0, slots := 0, locals := 43 }) (va_Pc [.ref (gM g), .int p0] (Cx g A (mw g σ th mi ti ++ rest))) (va_Qi (fun (r : Int32) (u : (Nat → Int32) × (Nat → Int32)) => cdV σ p0 = 0 → r = nI (sC σ (ix p0))) (fun u t => kB g A (mw g σ (nI (cdV σ p0)) u.1 u.2 ++ rest) t) A) 0 0 A := by
  refine Met.ofW (cc := cX2_signs) (maxL := 2) (ret := (some .int)) (by decide) rfl ?_
  intro p e s m args below meth c s₁ B hml hv0
  obtain ⟨rfl, hP, hD, hA, hK, hX⟩ := hv0
  have hx := B.exec
  have hb := B.bytes
  have hr := B.returns
  have hts := atoms_spec (ws := wsX2_signs) B.pre
  have hown : s.vm.findClass RX2 = some m.cls := findClass_of_methodNamed B.named
  have hlocks := B.notSynchronized
  have hS : va_S A s.heap s.heap [] := va_S.rf
  have hinX2 : ∀ w ∈ u_ws RX2 TX2 11, w ∈ wsX2_signs := by decide +kernel
  have hl := lv_entry ([.ref (gM g), .int p0]) (n := 2) (Nat.le_of_ble_eq_true rfl)
  rw [lg_entry_eq]
  generalize (lg_sl ([.ref (gM g), .int p0]) ++ List.replicate (2 - (lg_sl ([.ref (gM g), .int p0])).length) Slot.unset).toArray = ls at hl ⊢
  have hl : lv_has ls 2 [(0, .ref (gM g)), (1, .int p0)] := hl
  refine lv_aload_n (pc := 0) hx hb dX2_signs_0 rfl (lv_at hl 0 rfl) ?_
  refine lv_iconst (v := 0) (pc := 1) hx hb dX2_signs_1 (by decide) ?_
  refine va_put (pc := 2) (D := gD g) (ci := 2) (v := .int 0) (ty := .int) (C := RX2) (T := TX2) (N := 11) hx hb hts hinX2 tyX2 tyX2_ok nmX2 hown hK hP hD hS 0 (ma0 g σ th mi ti rest) rfl 0 (by decide) (hts (.fieldLink RX2 38 "ChoirNotesModel" "thrown" "I") (by decide +kernel)) (fun _ h9 => h9) rfl (by decide +kernel) rfl rfl (Nat.le_of_ble_eq_true rfl) dX2_signs_2 (fun H1 locs1 hP hD hS => ?_)
  have hP : va_P (gD g) vwCl (mw g σ 0 mi ti ++ rest) H1 := hP
  have hD : va_D A (mw g σ 0 mi ti ++ rest) := hD
  refine lv_aload_n (pc := 5) hx hb dX2_signs_5 rfl (lv_at hl 0 rfl) ?_
  refine lv_iload_n (pc := 6) hx hb dX2_signs_6 rfl (lv_at hl 1 rfl) ?_
  refine k_ri (pc := 7) (va_runV (As := [.int p0]) (rest := []) ⟨hx, hb, hml, hown, hts⟩ (cX2_isVoice_m l g A σ rest 0 mi ti p0 hI) (cwV 1 hts gX2_signs_X2_isVoice rfl rfl rfl (by decide +kernel) ⟨Nat.le_of_ble_eq_true rfl, Nat.le_of_ble_eq_true rfl⟩) (cx_V (q0 := 0) (ci := 2) (r := (RX2, TX2, 11)) rfl (ma0 g σ 0 mi ti rest) hP hD hA hK hX hS) rfl rfl hl.1 rfl (lv_room (Nat.le_of_ble_eq_true rfl)) dX2_signs_7 ⟨Nat.le_of_ble_eq_true rfl, Nat.le_of_ble_eq_true rfl⟩) (fun r_2 hr_2 => ?_)
  subst hr_2
  refine lv_if_eq (tgt := 22) (pc := 10) hx hb dX2_signs_10 (by decide) (fun c1 => ?_) (fun c1 => ?_)
  · have c1 := bI_0.mp c1
    refine lv_aload_n (pc := 22) hx hb dX2_signs_22 rfl (lv_at hl 0 rfl) ?_
    refine lv_iconst (v := 1) (pc := 23) hx hb dX2_signs_23 (by decide) ?_
    refine va_calli (pc := 24) (va_runV (As := [.int 1]) (rest := []) ⟨hx, hb, hml, hown, hts⟩ (cX2_fail_m l g A σ rest 0 mi ti 1) (cwV 1 hts gX2_signs_X2_fail rfl rfl rfl (by decide +kernel) ⟨Nat.le_of_ble_eq_true rfl, Nat.le_of_ble_eq_true rfl⟩) (cx_V (q0 := 0) (ci := 2) (r := (RX2, TX2, 11)) rfl (ma0 g σ 0 mi ti rest) hP hD hA hK hX hS) rfl rfl hl.1 rfl (lv_room (Nat.le_of_ble_eq_true rfl)) dX2_signs_24 ⟨Nat.le_of_ble_eq_true rfl, Nat.le_of_ble_eq_true rfl⟩) hS (fun _ _ h => h) (fun _ h => h) (fun r_4 u5 t5 H5 locs5 ht5 hvm5 hw5 hB5 hz5 hk5 hS => ?_)
    obtain ⟨hP, hD⟩ := hB5
    rw [ht5] at hP
    subst hw5
    have hcd : cdV σ p0 = 1 := by simp [cdV, c1]
    rw [hcd]
    exact W.iret hx hb hr (fun t ht hW => ⟨⟨_, (mi, ti), rfl, (fun q => absurd q (by decide)), by rw [ht]; exact hP, hD⟩, hS.F ht⟩) hS.2.2 dX2_signs_27
  · have c1 := bI_n0.mp c1
    obtain ⟨v, hvn, rfl⟩ := okV_o hI.N c1
    have hvv4 : v < 4 := hI.v4 hvn
    have hixv : ix (nI v) = v := ix_n (by omega)
    have hCv := hI.C v
    rw [hixv]
    refine lv_aload_n (pc := 13) hx hb dX2_signs_13 rfl (lv_at hl 0 rfl) ?_
    refine va_get (v := .ref (gB g 0)) (pc := 14) (D := gD g) (ci := 2) (C := RX2) (T := TX2) (N := 11) hx hb hts hinX2 hown hK hP 0 (ma0 g σ 0 mi ti rest) rfl 2 (by decide) (hts (.fieldLink RX2 9 "ChoirNotesModel" "many" "[I") (by decide +kernel)) (fun _ h9 => h9) rfl dX2_signs_14 ?_
    refine lv_iload_n (pc := 17) hx hb dX2_signs_17 rfl (lv_at hl 1 rfl) ?_
    refine k_iald (pc := 18) (x := nI (sC σ v)) hx hb hK hP 1 0 (ma1 g σ 0 mi ti rest) rfl v rfl (by omega) (by decide) rfl dX2_signs_18 ?_
    refine lv_goto (tgt := 27) (pc := 19) hx hb dX2_signs_19 (by decide) ?_
    have hcd : cdV σ (nI v) = 0 := by simp [cdV, c1, hixv]
    rw [hcd]
    exact W.iret hx hb hr (fun t ht hW => ⟨⟨_, (mi, ti), rfl, (fun _ => rfl), by rw [ht]; exact hP, hD⟩, hS.F ht⟩) hS.2.2 dX2_signs_27
set_option maxHeartbeats 4000000 in
set_option maxRecDepth 100000 in
/-- notes -/
theorem cX2_notes_m (l : Launch) (g : GA) (A : Nat → Prop) (σ : St) (rest : va_W) (th : Int32) (mi ti : Nat → Int32) (p0 : Int32) (hI : Inv σ) : Met l yX2_notes wsX2_notes ({ frames := 2, cells := 0, slots := 0, locals := 43 }) (va_Pc [.ref (gM g), .int p0] (Cx g A (mw g σ th mi ti ++ rest))) (va_Qi (fun (r : Int32) (u : (Nat → Int32) × (Nat → Int32)) => cdV σ p0 = 0 → r = nI (cnt (isNt σ (ix p0)) (sC σ (ix p0)))) (fun u t => kB g A (mw g σ (nI (cdV σ p0)) u.1 u.2 ++ rest) t) A) 0 0 A := by
  refine Met.ofW (cc := cX2_notes) (maxL := 2) (ret := (some .int)) (by decide) rfl ?_
  intro p e s m args below meth c s₁ B hml hv0
  obtain ⟨rfl, hP, hD, hA, hK, hX⟩ := hv0
  have hx := B.exec
  have hb := B.bytes
  have hr := B.returns
  have hts := atoms_spec (ws := wsX2_notes) B.pre
  have hown : s.vm.findClass RX2 = some m.cls := findClass_of_methodNamed B.named
  have hlocks := B.notSynchronized
  have hS : va_S A s.heap s.heap [] := va_S.rf
  have hinX2 : ∀ w ∈ u_ws RX2 TX2 11, w ∈ wsX2_notes := by decide +kernel
  have hl := lv_entry ([.ref (gM g), .int p0]) (n := 2) (Nat.le_of_ble_eq_true rfl)
  rw [lg_entry_eq]
  generalize (lg_sl ([.ref (gM g), .int p0]) ++ List.replicate (2 - (lg_sl ([.ref (gM g), .int p0])).length) Slot.unset).toArray = ls at hl ⊢
  have hl : lv_has ls 2 [(0, .ref (gM g)), (1, .int p0)] := hl
  refine lv_aload_n (pc := 0) hx hb dX2_notes_0 rfl (lv_at hl 0 rfl) ?_
  refine lv_iconst (v := 0) (pc := 1) hx hb dX2_notes_1 (by decide) ?_
  refine va_put (pc := 2) (D := gD g) (ci := 2) (v := .int 0) (ty := .int) (C := RX2) (T := TX2) (N := 11) hx hb hts hinX2 tyX2 tyX2_ok nmX2 hown hK hP hD hS 0 (ma0 g σ th mi ti rest) rfl 0 (by decide) (hts (.fieldLink RX2 38 "ChoirNotesModel" "thrown" "I") (by decide +kernel)) (fun _ h9 => h9) rfl (by decide +kernel) rfl rfl (Nat.le_of_ble_eq_true rfl) dX2_notes_2 (fun H1 locs1 hP hD hS => ?_)
  have hP : va_P (gD g) vwCl (mw g σ 0 mi ti ++ rest) H1 := hP
  have hD : va_D A (mw g σ 0 mi ti ++ rest) := hD
  refine lv_aload_n (pc := 5) hx hb dX2_notes_5 rfl (lv_at hl 0 rfl) ?_
  refine lv_iload_n (pc := 6) hx hb dX2_notes_6 rfl (lv_at hl 1 rfl) ?_
  refine k_ri (pc := 7) (va_runV (As := [.int p0]) (rest := []) ⟨hx, hb, hml, hown, hts⟩ (cX2_isVoice_m l g A σ rest 0 mi ti p0 hI) (cwV 1 hts gX2_notes_X2_isVoice rfl rfl rfl (by decide +kernel) ⟨Nat.le_of_ble_eq_true rfl, Nat.le_of_ble_eq_true rfl⟩) (cx_V (q0 := 0) (ci := 2) (r := (RX2, TX2, 11)) rfl (ma0 g σ 0 mi ti rest) hP hD hA hK hX hS) rfl rfl hl.1 rfl (lv_room (Nat.le_of_ble_eq_true rfl)) dX2_notes_7 ⟨Nat.le_of_ble_eq_true rfl, Nat.le_of_ble_eq_true rfl⟩) (fun r_2 hr_2 => ?_)
  subst hr_2
  refine lv_if_eq (tgt := 22) (pc := 10) hx hb dX2_notes_10 (by decide) (fun c1 => ?_) (fun c1 => ?_)
  · have c1 := bI_0.mp c1
    refine lv_aload_n (pc := 22) hx hb dX2_notes_22 rfl (lv_at hl 0 rfl) ?_
    refine lv_iconst (v := 1) (pc := 23) hx hb dX2_notes_23 (by decide) ?_
    refine va_calli (pc := 24) (va_runV (As := [.int 1]) (rest := []) ⟨hx, hb, hml, hown, hts⟩ (cX2_fail_m l g A σ rest 0 mi ti 1) (cwV 1 hts gX2_notes_X2_fail rfl rfl rfl (by decide +kernel) ⟨Nat.le_of_ble_eq_true rfl, Nat.le_of_ble_eq_true rfl⟩) (cx_V (q0 := 0) (ci := 2) (r := (RX2, TX2, 11)) rfl (ma0 g σ 0 mi ti rest) hP hD hA hK hX hS) rfl rfl hl.1 rfl (lv_room (Nat.le_of_ble_eq_true rfl)) dX2_notes_24 ⟨Nat.le_of_ble_eq_true rfl, Nat.le_of_ble_eq_true rfl⟩) hS (fun _ _ h => h) (fun _ h => h) (fun r_4 u5 t5 H5 locs5 ht5 hvm5 hw5 hB5 hz5 hk5 hS => ?_)
    obtain ⟨hP, hD⟩ := hB5
    rw [ht5] at hP
    subst hw5
    have hcd : cdV σ p0 = 1 := by simp [cdV, c1]
    rw [hcd]
    exact W.iret hx hb hr (fun t ht hW => ⟨⟨_, (mi, ti), rfl, (fun q => absurd q (by decide)), by rw [ht]; exact hP, hD⟩, hS.F ht⟩) hS.2.2 dX2_notes_27
  · have c1 := bI_n0.mp c1
    obtain ⟨v, hvn, rfl⟩ := okV_o hI.N c1
    have hvv4 : v < 4 := hI.v4 hvn
    have hixv : ix (nI v) = v := ix_n (by omega)
    have hCv := hI.C v
    rw [hixv]
    refine lv_aload_n (pc := 13) hx hb dX2_notes_13 rfl (lv_at hl 0 rfl) ?_
    refine lv_iload_n (pc := 14) hx hb dX2_notes_14 rfl (lv_at hl 1 rfl) ?_
    refine lv_iconst (v := 1) (pc := 15) hx hb dX2_notes_15 (by decide) ?_
    refine k_ri (pc := 16) (va_runV (As := [.int (nI v), .int 1]) (rest := []) ⟨hx, hb, hml, hown, hts⟩ (cX2_count_m l g A σ rest 0 mi ti v true hvv4 hI) (cwV 2 hts gX2_notes_X2_count rfl rfl rfl (by decide +kernel) ⟨Nat.le_of_ble_eq_true rfl, Nat.le_of_ble_eq_true rfl⟩) (cx_V (q0 := 0) (ci := 2) (r := (RX2, TX2, 11)) rfl (ma0 g σ 0 mi ti rest) hP hD hA hK hX hS) rfl rfl hl.1 rfl (lv_room (Nat.le_of_ble_eq_true rfl)) dX2_notes_16 ⟨Nat.le_of_ble_eq_true rfl, Nat.le_of_ble_eq_true rfl⟩) (fun r_6 hr_6 => ?_)
    subst hr_6
    refine lv_goto (tgt := 27) (pc := 19) hx hb dX2_notes_19 (by decide) ?_
    have hcd : cdV σ (nI v) = 0 := by simp [cdV, c1, hixv]
    rw [hcd]
    exact W.iret hx hb hr (fun t ht hW => ⟨⟨_, (mi, ti), rfl, (fun _ => rfl), by rw [ht]; exact hP, hD⟩, hS.F ht⟩) hS.2.2 dX2_notes_27
set_option maxHeartbeats 4000000 in
set_option maxRecDepth 100000 in
/-- ligatures -/
theorem cX2_ligatures_m (l : Launch) (g : GA) (A : Nat → Prop) (σ : St) (rest : va_W) (th : Int32) (mi ti : Nat → Int32) (p0 : Int32) (hI : Inv σ) : Met l yX2_ligatures wsX2_ligatures ({ frames := 2, cells := 0, slots := 0, locals := 43 }) (va_Pc [.ref (gM g), .int p0] (Cx g A (mw g σ th mi ti ++ rest))) (va_Qi (fun (r : Int32) (u : (Nat → Int32) × (Nat → Int32)) => cdV σ p0 = 0 → r = nI (cnt (isLg σ (ix p0)) (sC σ (ix p0)))) (fun u t => kB g A (mw g σ (nI (cdV σ p0)) u.1 u.2 ++ rest) t) A) 0 0 A := by
  refine Met.ofW (cc := cX2_ligatures) (maxL := 2) (ret := (some .int)) (by decide) rfl ?_
  intro p e s m args below meth c s₁ B hml hv0
  obtain ⟨rfl, hP, hD, hA, hK, hX⟩ := hv0
  have hx := B.exec
  have hb := B.bytes
  have hr := B.returns
  have hts := atoms_spec (ws := wsX2_ligatures) B.pre
  have hown : s.vm.findClass RX2 = some m.cls := findClass_of_methodNamed B.named
  have hlocks := B.notSynchronized
  have hS : va_S A s.heap s.heap [] := va_S.rf
  have hinX2 : ∀ w ∈ u_ws RX2 TX2 11, w ∈ wsX2_ligatures := by decide +kernel
  have hl := lv_entry ([.ref (gM g), .int p0]) (n := 2) (Nat.le_of_ble_eq_true rfl)
  rw [lg_entry_eq]
  generalize (lg_sl ([.ref (gM g), .int p0]) ++ List.replicate (2 - (lg_sl ([.ref (gM g), .int p0])).length) Slot.unset).toArray = ls at hl ⊢
  have hl : lv_has ls 2 [(0, .ref (gM g)), (1, .int p0)] := hl
  refine lv_aload_n (pc := 0) hx hb dX2_ligatures_0 rfl (lv_at hl 0 rfl) ?_
  refine lv_iconst (v := 0) (pc := 1) hx hb dX2_ligatures_1 (by decide) ?_
  refine va_put (pc := 2) (D := gD g) (ci := 2) (v := .int 0) (ty := .int) (C := RX2) (T := TX2) (N := 11) hx hb hts hinX2 tyX2 tyX2_ok nmX2 hown hK hP hD hS 0 (ma0 g σ th mi ti rest) rfl 0 (by decide) (hts (.fieldLink RX2 38 "ChoirNotesModel" "thrown" "I") (by decide +kernel)) (fun _ h9 => h9) rfl (by decide +kernel) rfl rfl (Nat.le_of_ble_eq_true rfl) dX2_ligatures_2 (fun H1 locs1 hP hD hS => ?_)
  have hP : va_P (gD g) vwCl (mw g σ 0 mi ti ++ rest) H1 := hP
  have hD : va_D A (mw g σ 0 mi ti ++ rest) := hD
  refine lv_aload_n (pc := 5) hx hb dX2_ligatures_5 rfl (lv_at hl 0 rfl) ?_
  refine lv_iload_n (pc := 6) hx hb dX2_ligatures_6 rfl (lv_at hl 1 rfl) ?_
  refine k_ri (pc := 7) (va_runV (As := [.int p0]) (rest := []) ⟨hx, hb, hml, hown, hts⟩ (cX2_isVoice_m l g A σ rest 0 mi ti p0 hI) (cwV 1 hts gX2_ligatures_X2_isVoice rfl rfl rfl (by decide +kernel) ⟨Nat.le_of_ble_eq_true rfl, Nat.le_of_ble_eq_true rfl⟩) (cx_V (q0 := 0) (ci := 2) (r := (RX2, TX2, 11)) rfl (ma0 g σ 0 mi ti rest) hP hD hA hK hX hS) rfl rfl hl.1 rfl (lv_room (Nat.le_of_ble_eq_true rfl)) dX2_ligatures_7 ⟨Nat.le_of_ble_eq_true rfl, Nat.le_of_ble_eq_true rfl⟩) (fun r_2 hr_2 => ?_)
  subst hr_2
  refine lv_if_eq (tgt := 22) (pc := 10) hx hb dX2_ligatures_10 (by decide) (fun c1 => ?_) (fun c1 => ?_)
  · have c1 := bI_0.mp c1
    refine lv_aload_n (pc := 22) hx hb dX2_ligatures_22 rfl (lv_at hl 0 rfl) ?_
    refine lv_iconst (v := 1) (pc := 23) hx hb dX2_ligatures_23 (by decide) ?_
    refine va_calli (pc := 24) (va_runV (As := [.int 1]) (rest := []) ⟨hx, hb, hml, hown, hts⟩ (cX2_fail_m l g A σ rest 0 mi ti 1) (cwV 1 hts gX2_ligatures_X2_fail rfl rfl rfl (by decide +kernel) ⟨Nat.le_of_ble_eq_true rfl, Nat.le_of_ble_eq_true rfl⟩) (cx_V (q0 := 0) (ci := 2) (r := (RX2, TX2, 11)) rfl (ma0 g σ 0 mi ti rest) hP hD hA hK hX hS) rfl rfl hl.1 rfl (lv_room (Nat.le_of_ble_eq_true rfl)) dX2_ligatures_24 ⟨Nat.le_of_ble_eq_true rfl, Nat.le_of_ble_eq_true rfl⟩) hS (fun _ _ h => h) (fun _ h => h) (fun r_4 u5 t5 H5 locs5 ht5 hvm5 hw5 hB5 hz5 hk5 hS => ?_)
    obtain ⟨hP, hD⟩ := hB5
    rw [ht5] at hP
    subst hw5
    have hcd : cdV σ p0 = 1 := by simp [cdV, c1]
    rw [hcd]
    exact W.iret hx hb hr (fun t ht hW => ⟨⟨_, (mi, ti), rfl, (fun q => absurd q (by decide)), by rw [ht]; exact hP, hD⟩, hS.F ht⟩) hS.2.2 dX2_ligatures_27
  · have c1 := bI_n0.mp c1
    obtain ⟨v, hvn, rfl⟩ := okV_o hI.N c1
    have hvv4 : v < 4 := hI.v4 hvn
    have hixv : ix (nI v) = v := ix_n (by omega)
    have hCv := hI.C v
    rw [hixv]
    refine lv_aload_n (pc := 13) hx hb dX2_ligatures_13 rfl (lv_at hl 0 rfl) ?_
    refine lv_iload_n (pc := 14) hx hb dX2_ligatures_14 rfl (lv_at hl 1 rfl) ?_
    refine lv_iconst (v := 0) (pc := 15) hx hb dX2_ligatures_15 (by decide) ?_
    refine k_ri (pc := 16) (va_runV (As := [.int (nI v), .int 0]) (rest := []) ⟨hx, hb, hml, hown, hts⟩ (cX2_count_m l g A σ rest 0 mi ti v false hvv4 hI) (cwV 2 hts gX2_ligatures_X2_count rfl rfl rfl (by decide +kernel) ⟨Nat.le_of_ble_eq_true rfl, Nat.le_of_ble_eq_true rfl⟩) (cx_V (q0 := 0) (ci := 2) (r := (RX2, TX2, 11)) rfl (ma0 g σ 0 mi ti rest) hP hD hA hK hX hS) rfl rfl hl.1 rfl (lv_room (Nat.le_of_ble_eq_true rfl)) dX2_ligatures_16 ⟨Nat.le_of_ble_eq_true rfl, Nat.le_of_ble_eq_true rfl⟩) (fun r_6 hr_6 => ?_)
    subst hr_6
    refine lv_goto (tgt := 27) (pc := 19) hx hb dX2_ligatures_19 (by decide) ?_
    have hcd : cdV σ (nI v) = 0 := by simp [cdV, c1, hixv]
    rw [hcd]
    exact W.iret hx hb hr (fun t ht hW => ⟨⟨_, (mi, ti), rfl, (fun _ => rfl), by rw [ht]; exact hP, hD⟩, hS.F ht⟩) hS.2.2 dX2_ligatures_27
set_option maxHeartbeats 4000000 in
set_option maxRecDepth 100000 in
/-- length -/
theorem cX2_length_m (l : Launch) (g : GA) (A : Nat → Prop) (σ : St) (rest : va_W) (th : Int32) (mi ti : Nat → Int32) (p0 : Int32) (hI : Inv σ) : Met l yX2_length wsX2_length ({ frames := 2, cells := 0, slots := 0, locals := 48 }) (va_Pc [.ref (gM g), .int p0] (Cx g A (mw g σ th mi ti ++ rest))) (va_Qi (fun (r : Int32) (u : (Nat → Int32) × (Nat → Int32)) => cdV σ p0 = 0 → r = nI (len σ (ix p0))) (fun u t => kB g A (mw g σ (nI (cdV σ p0)) u.1 u.2 ++ rest) t) A) 0 0 A := by
  refine Met.ofW (cc := cX2_length) (maxL := 2) (ret := (some .int)) (by decide) rfl ?_
  intro p e s m args below meth c s₁ B hml hv0
  obtain ⟨rfl, hP, hD, hA, hK, hX⟩ := hv0
  have hx := B.exec
  have hb := B.bytes
  have hr := B.returns
  have hts := atoms_spec (ws := wsX2_length) B.pre
  have hown : s.vm.findClass RX2 = some m.cls := findClass_of_methodNamed B.named
  have hlocks := B.notSynchronized
  have hS : va_S A s.heap s.heap [] := va_S.rf
  have hinX2 : ∀ w ∈ u_ws RX2 TX2 11, w ∈ wsX2_length := by decide +kernel
  have hl := lv_entry ([.ref (gM g), .int p0]) (n := 2) (Nat.le_of_ble_eq_true rfl)
  rw [lg_entry_eq]
  generalize (lg_sl ([.ref (gM g), .int p0]) ++ List.replicate (2 - (lg_sl ([.ref (gM g), .int p0])).length) Slot.unset).toArray = ls at hl ⊢
  have hl : lv_has ls 2 [(0, .ref (gM g)), (1, .int p0)] := hl
  refine lv_aload_n (pc := 0) hx hb dX2_length_0 rfl (lv_at hl 0 rfl) ?_
  refine lv_iconst (v := 0) (pc := 1) hx hb dX2_length_1 (by decide) ?_
  refine va_put (pc := 2) (D := gD g) (ci := 2) (v := .int 0) (ty := .int) (C := RX2) (T := TX2) (N := 11) hx hb hts hinX2 tyX2 tyX2_ok nmX2 hown hK hP hD hS 0 (ma0 g σ th mi ti rest) rfl 0 (by decide) (hts (.fieldLink RX2 38 "ChoirNotesModel" "thrown" "I") (by decide +kernel)) (fun _ h9 => h9) rfl (by decide +kernel) rfl rfl (Nat.le_of_ble_eq_true rfl) dX2_length_2 (fun H1 locs1 hP hD hS => ?_)
  have hP : va_P (gD g) vwCl (mw g σ 0 mi ti ++ rest) H1 := hP
  have hD : va_D A (mw g σ 0 mi ti ++ rest) := hD
  refine lv_aload_n (pc := 5) hx hb dX2_length_5 rfl (lv_at hl 0 rfl) ?_
  refine lv_iload_n (pc := 6) hx hb dX2_length_6 rfl (lv_at hl 1 rfl) ?_
  refine k_ri (pc := 7) (va_runV (As := [.int p0]) (rest := []) ⟨hx, hb, hml, hown, hts⟩ (cX2_isVoice_m l g A σ rest 0 mi ti p0 hI) (cwV 1 hts gX2_length_X2_isVoice rfl rfl rfl (by decide +kernel) ⟨Nat.le_of_ble_eq_true rfl, Nat.le_of_ble_eq_true rfl⟩) (cx_V (q0 := 0) (ci := 2) (r := (RX2, TX2, 11)) rfl (ma0 g σ 0 mi ti rest) hP hD hA hK hX hS) rfl rfl hl.1 rfl (lv_room (Nat.le_of_ble_eq_true rfl)) dX2_length_7 ⟨Nat.le_of_ble_eq_true rfl, Nat.le_of_ble_eq_true rfl⟩) (fun r_2 hr_2 => ?_)
  subst hr_2
  refine lv_if_eq (tgt := 21) (pc := 10) hx hb dX2_length_10 (by decide) (fun c1 => ?_) (fun c1 => ?_)
  · have c1 := bI_0.mp c1
    refine lv_aload_n (pc := 21) hx hb dX2_length_21 rfl (lv_at hl 0 rfl) ?_
    refine lv_iconst (v := 1) (pc := 22) hx hb dX2_length_22 (by decide) ?_
    refine va_calli (pc := 23) (va_runV (As := [.int 1]) (rest := []) ⟨hx, hb, hml, hown, hts⟩ (cX2_fail_m l g A σ rest 0 mi ti 1) (cwV 1 hts gX2_length_X2_fail rfl rfl rfl (by decide +kernel) ⟨Nat.le_of_ble_eq_true rfl, Nat.le_of_ble_eq_true rfl⟩) (cx_V (q0 := 0) (ci := 2) (r := (RX2, TX2, 11)) rfl (ma0 g σ 0 mi ti rest) hP hD hA hK hX hS) rfl rfl hl.1 rfl (lv_room (Nat.le_of_ble_eq_true rfl)) dX2_length_23 ⟨Nat.le_of_ble_eq_true rfl, Nat.le_of_ble_eq_true rfl⟩) hS (fun _ _ h => h) (fun _ h => h) (fun r_4 u5 t5 H5 locs5 ht5 hvm5 hw5 hB5 hz5 hk5 hS => ?_)
    obtain ⟨hP, hD⟩ := hB5
    rw [ht5] at hP
    subst hw5
    have hcd : cdV σ p0 = 1 := by simp [cdV, c1]
    rw [hcd]
    exact W.iret hx hb hr (fun t ht hW => ⟨⟨_, (mi, ti), rfl, (fun q => absurd q (by decide)), by rw [ht]; exact hP, hD⟩, hS.F ht⟩) hS.2.2 dX2_length_26
  · have c1 := bI_n0.mp c1
    obtain ⟨v, hvn, rfl⟩ := okV_o hI.N c1
    have hvv4 : v < 4 := hI.v4 hvn
    have hixv : ix (nI v) = v := ix_n (by omega)
    have hCv := hI.C v
    rw [hixv]
    refine lv_aload_n (pc := 13) hx hb dX2_length_13 rfl (lv_at hl 0 rfl) ?_
    refine lv_iload_n (pc := 14) hx hb dX2_length_14 rfl (lv_at hl 1 rfl) ?_
    refine k_ri (pc := 15) (va_runV (As := [.int (nI v)]) (rest := []) ⟨hx, hb, hml, hown, hts⟩ (cX2_all_m l g A σ rest 0 mi ti v hvv4 hI) (cwV 1 hts gX2_length_X2_all rfl rfl rfl (by decide +kernel) ⟨Nat.le_of_ble_eq_true rfl, Nat.le_of_ble_eq_true rfl⟩) (cx_V (q0 := 0) (ci := 2) (r := (RX2, TX2, 11)) rfl (ma0 g σ 0 mi ti rest) hP hD hA hK hX hS) rfl rfl hl.1 rfl (lv_room (Nat.le_of_ble_eq_true rfl)) dX2_length_15 ⟨Nat.le_of_ble_eq_true rfl, Nat.le_of_ble_eq_true rfl⟩) (fun r_6 hr_6 => ?_)
    subst hr_6
    refine lv_goto (tgt := 26) (pc := 18) hx hb dX2_length_18 (by decide) ?_
    have hcd : cdV σ (nI v) = 0 := by simp [cdV, c1, hixv]
    rw [hcd]
    exact W.iret hx hb hr (fun t ht hW => ⟨⟨_, (mi, ti), rfl, (fun _ => rfl), by rw [ht]; exact hP, hD⟩, hS.F ht⟩) hS.2.2 dX2_length_26
set_option maxHeartbeats 4000000 in
set_option maxRecDepth 100000 in
/-- clefOf -/
theorem cX2_clefOf_m (l : Launch) (g : GA) (A : Nat → Prop) (σ : St) (rest : va_W) (th : Int32) (mi ti : Nat → Int32) (p0 : Int32) (hI : Inv σ) : Met l yX2_clefOf wsX2_clefOf ({ frames := 2, cells := 0, slots := 0, locals := 43 }) (va_Pc [.ref (gM g), .int p0] (Cx g A (mw g σ th mi ti ++ rest))) (va_Qi (fun (r : Int32) (u : (Nat → Int32) × (Nat → Int32)) => cdV σ p0 = 0 → r = sL σ (ix p0)) (fun u t => kB g A (mw g σ (nI (cdV σ p0)) u.1 u.2 ++ rest) t) A) 0 0 A := by
  refine Met.ofW (cc := cX2_clefOf) (maxL := 2) (ret := (some .int)) (by decide) rfl ?_
  intro p e s m args below meth c s₁ B hml hv0
  obtain ⟨rfl, hP, hD, hA, hK, hX⟩ := hv0
  have hx := B.exec
  have hb := B.bytes
  have hr := B.returns
  have hts := atoms_spec (ws := wsX2_clefOf) B.pre
  have hown : s.vm.findClass RX2 = some m.cls := findClass_of_methodNamed B.named
  have hlocks := B.notSynchronized
  have hS : va_S A s.heap s.heap [] := va_S.rf
  have hinX2 : ∀ w ∈ u_ws RX2 TX2 11, w ∈ wsX2_clefOf := by decide +kernel
  have hl := lv_entry ([.ref (gM g), .int p0]) (n := 2) (Nat.le_of_ble_eq_true rfl)
  rw [lg_entry_eq]
  generalize (lg_sl ([.ref (gM g), .int p0]) ++ List.replicate (2 - (lg_sl ([.ref (gM g), .int p0])).length) Slot.unset).toArray = ls at hl ⊢
  have hl : lv_has ls 2 [(0, .ref (gM g)), (1, .int p0)] := hl
  refine lv_aload_n (pc := 0) hx hb dX2_clefOf_0 rfl (lv_at hl 0 rfl) ?_
  refine lv_iconst (v := 0) (pc := 1) hx hb dX2_clefOf_1 (by decide) ?_
  refine va_put (pc := 2) (D := gD g) (ci := 2) (v := .int 0) (ty := .int) (C := RX2) (T := TX2) (N := 11) hx hb hts hinX2 tyX2 tyX2_ok nmX2 hown hK hP hD hS 0 (ma0 g σ th mi ti rest) rfl 0 (by decide) (hts (.fieldLink RX2 38 "ChoirNotesModel" "thrown" "I") (by decide +kernel)) (fun _ h9 => h9) rfl (by decide +kernel) rfl rfl (Nat.le_of_ble_eq_true rfl) dX2_clefOf_2 (fun H1 locs1 hP hD hS => ?_)
  have hP : va_P (gD g) vwCl (mw g σ 0 mi ti ++ rest) H1 := hP
  have hD : va_D A (mw g σ 0 mi ti ++ rest) := hD
  refine lv_aload_n (pc := 5) hx hb dX2_clefOf_5 rfl (lv_at hl 0 rfl) ?_
  refine lv_iload_n (pc := 6) hx hb dX2_clefOf_6 rfl (lv_at hl 1 rfl) ?_
  refine k_ri (pc := 7) (va_runV (As := [.int p0]) (rest := []) ⟨hx, hb, hml, hown, hts⟩ (cX2_isVoice_m l g A σ rest 0 mi ti p0 hI) (cwV 1 hts gX2_clefOf_X2_isVoice rfl rfl rfl (by decide +kernel) ⟨Nat.le_of_ble_eq_true rfl, Nat.le_of_ble_eq_true rfl⟩) (cx_V (q0 := 0) (ci := 2) (r := (RX2, TX2, 11)) rfl (ma0 g σ 0 mi ti rest) hP hD hA hK hX hS) rfl rfl hl.1 rfl (lv_room (Nat.le_of_ble_eq_true rfl)) dX2_clefOf_7 ⟨Nat.le_of_ble_eq_true rfl, Nat.le_of_ble_eq_true rfl⟩) (fun r_2 hr_2 => ?_)
  subst hr_2
  refine lv_if_eq (tgt := 22) (pc := 10) hx hb dX2_clefOf_10 (by decide) (fun c1 => ?_) (fun c1 => ?_)
  · have c1 := bI_0.mp c1
    refine lv_aload_n (pc := 22) hx hb dX2_clefOf_22 rfl (lv_at hl 0 rfl) ?_
    refine lv_iconst (v := 1) (pc := 23) hx hb dX2_clefOf_23 (by decide) ?_
    refine va_calli (pc := 24) (va_runV (As := [.int 1]) (rest := []) ⟨hx, hb, hml, hown, hts⟩ (cX2_fail_m l g A σ rest 0 mi ti 1) (cwV 1 hts gX2_clefOf_X2_fail rfl rfl rfl (by decide +kernel) ⟨Nat.le_of_ble_eq_true rfl, Nat.le_of_ble_eq_true rfl⟩) (cx_V (q0 := 0) (ci := 2) (r := (RX2, TX2, 11)) rfl (ma0 g σ 0 mi ti rest) hP hD hA hK hX hS) rfl rfl hl.1 rfl (lv_room (Nat.le_of_ble_eq_true rfl)) dX2_clefOf_24 ⟨Nat.le_of_ble_eq_true rfl, Nat.le_of_ble_eq_true rfl⟩) hS (fun _ _ h => h) (fun _ h => h) (fun r_4 u5 t5 H5 locs5 ht5 hvm5 hw5 hB5 hz5 hk5 hS => ?_)
    obtain ⟨hP, hD⟩ := hB5
    rw [ht5] at hP
    subst hw5
    have hcd : cdV σ p0 = 1 := by simp [cdV, c1]
    rw [hcd]
    exact W.iret hx hb hr (fun t ht hW => ⟨⟨_, (mi, ti), rfl, (fun q => absurd q (by decide)), by rw [ht]; exact hP, hD⟩, hS.F ht⟩) hS.2.2 dX2_clefOf_27
  · have c1 := bI_n0.mp c1
    obtain ⟨v, hvn, rfl⟩ := okV_o hI.N c1
    have hvv4 : v < 4 := hI.v4 hvn
    have hixv : ix (nI v) = v := ix_n (by omega)
    have hCv := hI.C v
    rw [hixv]
    refine lv_aload_n (pc := 13) hx hb dX2_clefOf_13 rfl (lv_at hl 0 rfl) ?_
    refine va_get (v := .ref (gB g 1)) (pc := 14) (D := gD g) (ci := 2) (C := RX2) (T := TX2) (N := 11) hx hb hts hinX2 hown hK hP 0 (ma0 g σ 0 mi ti rest) rfl 3 (by decide) (hts (.fieldLink RX2 13 "ChoirNotesModel" "clef" "[I") (by decide +kernel)) (fun _ h9 => h9) rfl dX2_clefOf_14 ?_
    refine lv_iload_n (pc := 17) hx hb dX2_clefOf_17 rfl (lv_at hl 1 rfl) ?_
    refine k_iald (pc := 18) (x := sL σ v) hx hb hK hP 2 0 (ma2 g σ 0 mi ti rest) rfl v rfl (by omega) (by decide) (if_pos hvn) dX2_clefOf_18 ?_
    refine lv_goto (tgt := 27) (pc := 19) hx hb dX2_clefOf_19 (by decide) ?_
    have hcd : cdV σ (nI v) = 0 := by simp [cdV, c1, hixv]
    rw [hcd]
    exact W.iret hx hb hr (fun t ht hW => ⟨⟨_, (mi, ti), rfl, (fun _ => rfl), by rw [ht]; exact hP, hD⟩, hS.F ht⟩) hS.2.2 dX2_clefOf_27
set_option maxHeartbeats 4000000 in
set_option maxRecDepth 100000 in
/-- clefsThatFit -/
theorem cX2_clefsThatFit_m (l : Launch) (g : GA) (A : Nat → Prop) (σ : St) (rest : va_W) (th : Int32) (mi ti : Nat → Int32) (p0 : Int32) (hI : Inv σ) : Met l yX2_clefsThatFit wsX2_clefsThatFit ({ frames := 3, cells := 0, slots := 0, locals := 68 }) (va_Pc [.ref (gM g), .int p0] (Cx g A (mw g σ th mi ti ++ rest))) (va_Qi (fun (r : Int32) (u : (Nat → Int32) × (Nat → Int32)) => cdV σ p0 = 0 → r = nI (fct σ (ix p0))) (fun u t => kB g A (mw g σ (nI (cdV σ p0)) u.1 u.2 ++ rest) t) A) 0 0 A := by
  refine Met.ofW (cc := cX2_clefsThatFit) (maxL := 2) (ret := (some .int)) (by decide) rfl ?_
  intro p e s m args below meth c s₁ B hml hv0
  obtain ⟨rfl, hP, hD, hA, hK, hX⟩ := hv0
  have hx := B.exec
  have hb := B.bytes
  have hr := B.returns
  have hts := atoms_spec (ws := wsX2_clefsThatFit) B.pre
  have hown : s.vm.findClass RX2 = some m.cls := findClass_of_methodNamed B.named
  have hlocks := B.notSynchronized
  have hS : va_S A s.heap s.heap [] := va_S.rf
  have hinX2 : ∀ w ∈ u_ws RX2 TX2 11, w ∈ wsX2_clefsThatFit := by decide +kernel
  have hl := lv_entry ([.ref (gM g), .int p0]) (n := 2) (Nat.le_of_ble_eq_true rfl)
  rw [lg_entry_eq]
  generalize (lg_sl ([.ref (gM g), .int p0]) ++ List.replicate (2 - (lg_sl ([.ref (gM g), .int p0])).length) Slot.unset).toArray = ls at hl ⊢
  have hl : lv_has ls 2 [(0, .ref (gM g)), (1, .int p0)] := hl
  refine lv_aload_n (pc := 0) hx hb dX2_clefsThatFit_0 rfl (lv_at hl 0 rfl) ?_
  refine lv_iconst (v := 0) (pc := 1) hx hb dX2_clefsThatFit_1 (by decide) ?_
  refine va_put (pc := 2) (D := gD g) (ci := 2) (v := .int 0) (ty := .int) (C := RX2) (T := TX2) (N := 11) hx hb hts hinX2 tyX2 tyX2_ok nmX2 hown hK hP hD hS 0 (ma0 g σ th mi ti rest) rfl 0 (by decide) (hts (.fieldLink RX2 38 "ChoirNotesModel" "thrown" "I") (by decide +kernel)) (fun _ h9 => h9) rfl (by decide +kernel) rfl rfl (Nat.le_of_ble_eq_true rfl) dX2_clefsThatFit_2 (fun H1 locs1 hP hD hS => ?_)
  have hP : va_P (gD g) vwCl (mw g σ 0 mi ti ++ rest) H1 := hP
  have hD : va_D A (mw g σ 0 mi ti ++ rest) := hD
  refine lv_aload_n (pc := 5) hx hb dX2_clefsThatFit_5 rfl (lv_at hl 0 rfl) ?_
  refine lv_iload_n (pc := 6) hx hb dX2_clefsThatFit_6 rfl (lv_at hl 1 rfl) ?_
  refine k_ri (pc := 7) (va_runV (As := [.int p0]) (rest := []) ⟨hx, hb, hml, hown, hts⟩ (cX2_isVoice_m l g A σ rest 0 mi ti p0 hI) (cwV 1 hts gX2_clefsThatFit_X2_isVoice rfl rfl rfl (by decide +kernel) ⟨Nat.le_of_ble_eq_true rfl, Nat.le_of_ble_eq_true rfl⟩) (cx_V (q0 := 0) (ci := 2) (r := (RX2, TX2, 11)) rfl (ma0 g σ 0 mi ti rest) hP hD hA hK hX hS) rfl rfl hl.1 rfl (lv_room (Nat.le_of_ble_eq_true rfl)) dX2_clefsThatFit_7 ⟨Nat.le_of_ble_eq_true rfl, Nat.le_of_ble_eq_true rfl⟩) (fun r_2 hr_2 => ?_)
  subst hr_2
  refine lv_if_eq (tgt := 21) (pc := 10) hx hb dX2_clefsThatFit_10 (by decide) (fun c1 => ?_) (fun c1 => ?_)
  · have c1 := bI_0.mp c1
    refine lv_aload_n (pc := 21) hx hb dX2_clefsThatFit_21 rfl (lv_at hl 0 rfl) ?_
    refine lv_iconst (v := 1) (pc := 22) hx hb dX2_clefsThatFit_22 (by decide) ?_
    refine va_calli (pc := 23) (va_runV (As := [.int 1]) (rest := []) ⟨hx, hb, hml, hown, hts⟩ (cX2_fail_m l g A σ rest 0 mi ti 1) (cwV 1 hts gX2_clefsThatFit_X2_fail rfl rfl rfl (by decide +kernel) ⟨Nat.le_of_ble_eq_true rfl, Nat.le_of_ble_eq_true rfl⟩) (cx_V (q0 := 0) (ci := 2) (r := (RX2, TX2, 11)) rfl (ma0 g σ 0 mi ti rest) hP hD hA hK hX hS) rfl rfl hl.1 rfl (lv_room (Nat.le_of_ble_eq_true rfl)) dX2_clefsThatFit_23 ⟨Nat.le_of_ble_eq_true rfl, Nat.le_of_ble_eq_true rfl⟩) hS (fun _ _ h => h) (fun _ h => h) (fun r_4 u5 t5 H5 locs5 ht5 hvm5 hw5 hB5 hz5 hk5 hS => ?_)
    obtain ⟨hP, hD⟩ := hB5
    rw [ht5] at hP
    subst hw5
    have hcd : cdV σ p0 = 1 := by simp [cdV, c1]
    rw [hcd]
    exact W.iret hx hb hr (fun t ht hW => ⟨⟨_, (mi, ti), rfl, (fun q => absurd q (by decide)), by rw [ht]; exact hP, hD⟩, hS.F ht⟩) hS.2.2 dX2_clefsThatFit_26
  · have c1 := bI_n0.mp c1
    obtain ⟨v, hvn, rfl⟩ := okV_o hI.N c1
    have hvv4 : v < 4 := hI.v4 hvn
    have hixv : ix (nI v) = v := ix_n (by omega)
    have hCv := hI.C v
    rw [hixv]
    refine lv_aload_n (pc := 13) hx hb dX2_clefsThatFit_13 rfl (lv_at hl 0 rfl) ?_
    refine lv_iload_n (pc := 14) hx hb dX2_clefsThatFit_14 rfl (lv_at hl 1 rfl) ?_
    refine k_ri (pc := 15) (va_runV (As := [.int (nI v)]) (rest := []) ⟨hx, hb, hml, hown, hts⟩ (cX2_fitting_m l g A σ rest 0 mi ti v hvv4 hI) (cwV 1 hts gX2_clefsThatFit_X2_fitting rfl rfl rfl (by decide +kernel) ⟨Nat.le_of_ble_eq_true rfl, Nat.le_of_ble_eq_true rfl⟩) (cx_V (q0 := 0) (ci := 2) (r := (RX2, TX2, 11)) rfl (ma0 g σ 0 mi ti rest) hP hD hA hK hX hS) rfl rfl hl.1 rfl (lv_room (Nat.le_of_ble_eq_true rfl)) dX2_clefsThatFit_15 ⟨Nat.le_of_ble_eq_true rfl, Nat.le_of_ble_eq_true rfl⟩) (fun r_6 hr_6 => ?_)
    subst hr_6
    refine lv_goto (tgt := 26) (pc := 18) hx hb dX2_clefsThatFit_18 (by decide) ?_
    have hcd : cdV σ (nI v) = 0 := by simp [cdV, c1, hixv]
    rw [hcd]
    exact W.iret hx hb hr (fun t ht hW => ⟨⟨_, (mi, ti), rfl, (fun _ => rfl), by rw [ht]; exact hP, hD⟩, hS.F ht⟩) hS.2.2 dX2_clefsThatFit_26
set_option maxHeartbeats 4000000 in
set_option maxRecDepth 100000 in
/-- bestClef -/
theorem cX2_bestClef_m (l : Launch) (g : GA) (A : Nat → Prop) (σ : St) (rest : va_W) (th : Int32) (mi ti : Nat → Int32) (p0 : Int32) (hI : Inv σ) : Met l yX2_bestClef wsX2_bestClef ({ frames := 5, cells := 0, slots := 0, locals := 127 }) (va_Pc [.ref (gM g), .int p0] (Cx g A (mw g σ th mi ti ++ rest))) (va_Qi (fun (r : Int32) (u : (Nat → Int32) × (Nat → Int32)) => cdV σ p0 = 0 → r = bcl σ (ix p0)) (fun u t => kB g A (mw g σ (nI (cdV σ p0)) u.1 u.2 ++ rest) t) A) 0 0 A := by
  refine Met.ofW (cc := cX2_bestClef) (maxL := 2) (ret := (some .int)) (by decide) rfl ?_
  intro p e s m args below meth c s₁ B hml hv0
  obtain ⟨rfl, hP, hD, hA, hK, hX⟩ := hv0
  have hx := B.exec
  have hb := B.bytes
  have hr := B.returns
  have hts := atoms_spec (ws := wsX2_bestClef) B.pre
  have hown : s.vm.findClass RX2 = some m.cls := findClass_of_methodNamed B.named
  have hlocks := B.notSynchronized
  have hS : va_S A s.heap s.heap [] := va_S.rf
  have hinX2 : ∀ w ∈ u_ws RX2 TX2 11, w ∈ wsX2_bestClef := by decide +kernel
  have hl := lv_entry ([.ref (gM g), .int p0]) (n := 2) (Nat.le_of_ble_eq_true rfl)
  rw [lg_entry_eq]
  generalize (lg_sl ([.ref (gM g), .int p0]) ++ List.replicate (2 - (lg_sl ([.ref (gM g), .int p0])).length) Slot.unset).toArray = ls at hl ⊢
  have hl : lv_has ls 2 [(0, .ref (gM g)), (1, .int p0)] := hl
  refine lv_aload_n (pc := 0) hx hb dX2_bestClef_0 rfl (lv_at hl 0 rfl) ?_
  refine lv_iconst (v := 0) (pc := 1) hx hb dX2_bestClef_1 (by decide) ?_
  refine va_put (pc := 2) (D := gD g) (ci := 2) (v := .int 0) (ty := .int) (C := RX2) (T := TX2) (N := 11) hx hb hts hinX2 tyX2 tyX2_ok nmX2 hown hK hP hD hS 0 (ma0 g σ th mi ti rest) rfl 0 (by decide) (hts (.fieldLink RX2 38 "ChoirNotesModel" "thrown" "I") (by decide +kernel)) (fun _ h9 => h9) rfl (by decide +kernel) rfl rfl (Nat.le_of_ble_eq_true rfl) dX2_bestClef_2 (fun H1 locs1 hP hD hS => ?_)
  have hP : va_P (gD g) vwCl (mw g σ 0 mi ti ++ rest) H1 := hP
  have hD : va_D A (mw g σ 0 mi ti ++ rest) := hD
  refine lv_aload_n (pc := 5) hx hb dX2_bestClef_5 rfl (lv_at hl 0 rfl) ?_
  refine lv_iload_n (pc := 6) hx hb dX2_bestClef_6 rfl (lv_at hl 1 rfl) ?_
  refine k_ri (pc := 7) (va_runV (As := [.int p0]) (rest := []) ⟨hx, hb, hml, hown, hts⟩ (cX2_isVoice_m l g A σ rest 0 mi ti p0 hI) (cwV 1 hts gX2_bestClef_X2_isVoice rfl rfl rfl (by decide +kernel) ⟨Nat.le_of_ble_eq_true rfl, Nat.le_of_ble_eq_true rfl⟩) (cx_V (q0 := 0) (ci := 2) (r := (RX2, TX2, 11)) rfl (ma0 g σ 0 mi ti rest) hP hD hA hK hX hS) rfl rfl hl.1 rfl (lv_room (Nat.le_of_ble_eq_true rfl)) dX2_bestClef_7 ⟨Nat.le_of_ble_eq_true rfl, Nat.le_of_ble_eq_true rfl⟩) (fun r_2 hr_2 => ?_)
  subst hr_2
  refine lv_if_eq (tgt := 21) (pc := 10) hx hb dX2_bestClef_10 (by decide) (fun c1 => ?_) (fun c1 => ?_)
  · have c1 := bI_0.mp c1
    refine lv_aload_n (pc := 21) hx hb dX2_bestClef_21 rfl (lv_at hl 0 rfl) ?_
    refine lv_iconst (v := 1) (pc := 22) hx hb dX2_bestClef_22 (by decide) ?_
    refine va_calli (pc := 23) (va_runV (As := [.int 1]) (rest := []) ⟨hx, hb, hml, hown, hts⟩ (cX2_fail_m l g A σ rest 0 mi ti 1) (cwV 1 hts gX2_bestClef_X2_fail rfl rfl rfl (by decide +kernel) ⟨Nat.le_of_ble_eq_true rfl, Nat.le_of_ble_eq_true rfl⟩) (cx_V (q0 := 0) (ci := 2) (r := (RX2, TX2, 11)) rfl (ma0 g σ 0 mi ti rest) hP hD hA hK hX hS) rfl rfl hl.1 rfl (lv_room (Nat.le_of_ble_eq_true rfl)) dX2_bestClef_23 ⟨Nat.le_of_ble_eq_true rfl, Nat.le_of_ble_eq_true rfl⟩) hS (fun _ _ h => h) (fun _ h => h) (fun r_4 u5 t5 H5 locs5 ht5 hvm5 hw5 hB5 hz5 hk5 hS => ?_)
    obtain ⟨hP, hD⟩ := hB5
    rw [ht5] at hP
    subst hw5
    have hcd : cdV σ p0 = 1 := by simp [cdV, c1]
    rw [hcd]
    exact W.iret hx hb hr (fun t ht hW => ⟨⟨_, (mi, ti), rfl, (fun q => absurd q (by decide)), by rw [ht]; exact hP, hD⟩, hS.F ht⟩) hS.2.2 dX2_bestClef_26
  · have c1 := bI_n0.mp c1
    obtain ⟨v, hvn, rfl⟩ := okV_o hI.N c1
    have hvv4 : v < 4 := hI.v4 hvn
    have hixv : ix (nI v) = v := ix_n (by omega)
    have hCv := hI.C v
    rw [hixv]
    refine lv_aload_n (pc := 13) hx hb dX2_bestClef_13 rfl (lv_at hl 0 rfl) ?_
    refine lv_iload_n (pc := 14) hx hb dX2_bestClef_14 rfl (lv_at hl 1 rfl) ?_
    refine va_calli (pc := 15) (va_runV (As := [.int (nI v)]) (rest := []) ⟨hx, hb, hml, hown, hts⟩ (cX2_best_m l g A σ rest 0 mi ti v hvv4 hI) (cwV 1 hts gX2_bestClef_X2_best rfl rfl rfl (by decide +kernel) ⟨Nat.le_of_ble_eq_true rfl, Nat.le_of_ble_eq_true rfl⟩) (cx_V (q0 := 0) (ci := 2) (r := (RX2, TX2, 11)) rfl (ma0 g σ 0 mi ti rest) hP hD hA hK hX hS) rfl rfl hl.1 rfl (lv_room (Nat.le_of_ble_eq_true rfl)) dX2_bestClef_15 ⟨Nat.le_of_ble_eq_true rfl, Nat.le_of_ble_eq_true rfl⟩) hS (fun _ _ h => h) (fun _ h => h) (fun r_6 u7 t7 H7 locs7 ht7 hvm7 hw7 hB7 hz7 hk7 hS => ?_)
    obtain ⟨hP, hD⟩ := hB7
    rw [ht7] at hP
    subst hw7
    refine lv_goto (tgt := 26) (pc := 18) hx hb dX2_bestClef_18 (by decide) ?_
    have hcd : cdV σ (nI v) = 0 := by simp [cdV, c1, hixv]
    rw [hcd]
    exact W.iret hx hb hr (fun t ht hW => ⟨⟨_, (u7.1, u7.2), rfl, (fun _ => rfl), by rw [ht]; exact hP, hD⟩, hS.F ht⟩) hS.2.2 dX2_bestClef_26
