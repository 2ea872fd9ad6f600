/-! THE VOICE: what it answers and doesn't write -/
set_option maxHeartbeats 4000000 in
set_option maxRecDepth 100000 in
/-- whether a sign is a rest -/
theorem cX0_isRest_m (l : Launch) (g : GA) (A : Nat → Prop) (σ : St) (rest : va_W) (v s0 : Nat) (hv : v < 4) (hs : s0 < 24) : Met l yX0_isRest wsX0_isRest ({ frames := 0, cells := 0, slots := 0, locals := 0 }) (va_Pc [.ref (gV g v), .int (nI s0)] (Cx g A (cw g σ ++ rest))) (vp_Si (fun r : Int32 => r = bI (!isNt σ v s0))) 0 0 (fun _ => False) := by
  refine Met.ofW (cc := cX0_isRest) (maxL := 2) (ret := (some .boolean)) (by decide) rfl ?_
  intro p e s m args below meth c s₁ B hml hv0
  obtain ⟨rfl, hP, hD, hA, hK, hX⟩ := hv0
  have hx := B.exec
  have hb := B.bytes
  have hr := B.returns
  have hts := atoms_spec (ws := wsX0_isRest) B.pre
  have hown : s.vm.findClass RX0 = some m.cls := findClass_of_methodNamed B.named
  have hlocks := B.notSynchronized
  have hS : va_S A s.heap s.heap [] := va_S.rf
  have hinX0 : ∀ w ∈ u_ws RX0 TX0 10, w ∈ wsX0_isRest := by decide +kernel
  have hl := lv_entry ([.ref (gV g v), .int (nI s0)]) (n := 2) (Nat.le_of_ble_eq_true rfl)
  rw [lg_entry_eq]
  generalize (lg_sl ([.ref (gV g v), .int (nI s0)]) ++ List.replicate (2 - (lg_sl ([.ref (gV g v), .int (nI s0)])).length) Slot.unset).toArray = ls at hl ⊢
  have hl : lv_has ls 2 [(0, .ref (gV g v)), (1, .int (nI s0))] := hl
  refine lv_aload_n (pc := 0) hx hb dX0_isRest_0 rfl (lv_at hl 0 rfl) ?_
  refine va_get (pc := 1) (D := gD g) (ci := 0) (C := RX0) (T := TX0) (N := 10) hx hb hts hinX0 hown hK hP (2 + 6 * v) (cv0 g σ rest hv) rfl 6 (by decide) (hts (.fieldLink RX0 19 "ChoirNotes$Voice" "places" "[I") (by decide +kernel)) (fun _ h9 => h9) rfl dX0_isRest_1 ?_
  refine lv_iload_n (pc := 4) hx hb dX0_isRest_4 rfl (lv_at hl 1 rfl) ?_
  refine k_iald (pc := 5) (x := sP σ v s0) hx hb hK hP (4 + 6 * v) 0 (cv2 g σ rest hv) rfl s0 rfl (by omega) (by decide) rfl dX0_isRest_5 ?_
  refine lv_iconst (v := (-1)) (pc := 6) hx hb dX0_isRest_6 (by decide) ?_
  refine lv_icmp_ne (tgt := 14) (pc := 7) hx hb dX0_isRest_7 (by decide) (fun c1 => ?_) (fun c1 => ?_)
  · refine lv_iconst (v := 0) (pc := 14) hx hb dX0_isRest_14 (by decide) ?_
    exact W.zret (v := 0) hx hb hr rfl (fun t ht hW => ⟨_, rfl, (by simp [isNt, bI, c1]), ht⟩) (fun q hq => absurd hq List.not_mem_nil) dX0_isRest_15
  · refine lv_iconst (v := 1) (pc := 10) hx hb dX0_isRest_10 (by decide) ?_
    refine lv_goto (tgt := 15) (pc := 11) hx hb dX0_isRest_11 (by decide) ?_
    exact W.zret (v := 1) hx hb hr rfl (fun t ht hW => ⟨_, rfl, (by simp [isNt, bI, c1]), ht⟩) (fun q hq => absurd hq List.not_mem_nil) dX0_isRest_15
set_option maxHeartbeats 4000000 in
set_option maxRecDepth 100000 in
/-- how long a voice is -/
theorem cX0_end_m (l : Launch) (g : GA) (A : Nat → Prop) (σ : St) (rest : va_W) (v : Nat) (hv : v < 4) (hI : Inv σ) : Met l yX0_end wsX0_end ({ frames := 0, cells := 0, slots := 0, locals := 0 }) (va_Pc [.ref (gV g v)] (Cx g A (cw g σ ++ rest))) (vp_Si (fun r : Int32 => r = nI (len σ v))) 0 0 (fun _ => False) := by
  refine Met.ofW (cc := cX0_end) (maxL := 1) (ret := (some .int)) (by decide) rfl ?_
  intro p e s m args below meth c s₁ B hml hv0
  obtain ⟨rfl, hP, hD, hA, hK, hX⟩ := hv0
  have hx := B.exec
  have hb := B.bytes
  have hr := B.returns
  have hts := atoms_spec (ws := wsX0_end) B.pre
  have hown : s.vm.findClass RX0 = some m.cls := findClass_of_methodNamed B.named
  have hlocks := B.notSynchronized
  have hS : va_S A s.heap s.heap [] := va_S.rf
  have hinX0 : ∀ w ∈ u_ws RX0 TX0 10, w ∈ wsX0_end := by decide +kernel
  have hl := lv_entry ([.ref (gV g v)]) (n := 1) (Nat.le_of_ble_eq_true rfl)
  rw [lg_entry_eq]
  generalize (lg_sl ([.ref (gV g v)]) ++ List.replicate (1 - (lg_sl ([.ref (gV g v)])).length) Slot.unset).toArray = ls at hl ⊢
  have hl : lv_has ls 1 [(0, .ref (gV g v))] := hl
  refine lv_aload_n (pc := 0) hx hb dX0_end_0 rfl (lv_at hl 0 rfl) ?_
  refine va_get (pc := 1) (D := gD g) (ci := 0) (C := RX0) (T := TX0) (N := 10) hx hb hts hinX0 hown hK hP (2 + 6 * v) (cv0 g σ rest hv) rfl 9 (by decide) (hts (.fieldLink RX0 29 "ChoirNotes$Voice" "begins" "[I") (by decide +kernel)) (fun _ h9 => h9) rfl dX0_end_1 ?_
  refine lv_aload_n (pc := 4) hx hb dX0_end_4 rfl (lv_at hl 0 rfl) ?_
  refine va_get (pc := 5) (D := gD g) (ci := 0) (C := RX0) (T := TX0) (N := 10) hx hb hts hinX0 hown hK hP (2 + 6 * v) (cv0 g σ rest hv) rfl 4 (by decide) (hts (.fieldLink RX0 45 "ChoirNotes$Voice" "count" "I") (by decide +kernel)) (fun _ h9 => h9) rfl dX0_end_5 ?_
  refine k_iald (pc := 8) (x := sB σ v (sC σ v)) hx hb hK hP (7 + 6 * v) 0 (cv5 g σ rest hv) rfl (sC σ v) rfl (by have := hI.C v; omega) (by decide) rfl dX0_end_8 ?_
  exact W.iret hx hb hr (fun t ht hW => ⟨_, rfl, (hI.B (Nat.le_refl _)), ht⟩) (fun q hq => absurd hq List.not_mem_nil) dX0_end_9
set_option maxHeartbeats 4000000 in
set_option maxRecDepth 100000 in
/-- how long a sign is -/
theorem cX0_minimsOf_m (l : Launch) (g : GA) (A : Nat → Prop) (σ : St) (rest : va_W) (v s0 : Nat) (hv : v < 4) (hI : Inv σ) (hs : s0 < sC σ v) : Met l yX0_minimsOf wsX0_minimsOf ({ frames := 0, cells := 0, slots := 0, locals := 0 }) (va_Pc [.ref (gV g v), .int (nI s0)] (Cx g A (cw g σ ++ rest))) (vp_Si (fun r : Int32 => r = nI (lg σ v s0))) 0 0 (fun _ => False) := by
  refine Met.ofW (cc := cX0_minimsOf) (maxL := 2) (ret := (some .int)) (by decide) rfl ?_
  intro p e s m args below meth c s₁ B hml hv0
  obtain ⟨rfl, hP, hD, hA, hK, hX⟩ := hv0
  have hx := B.exec
  have hb := B.bytes
  have hr := B.returns
  have hts := atoms_spec (ws := wsX0_minimsOf) B.pre
  have hown : s.vm.findClass RX0 = some m.cls := findClass_of_methodNamed B.named
  have hlocks := B.notSynchronized
  have hS : va_S A s.heap s.heap [] := va_S.rf
  have hinX0 : ∀ w ∈ u_ws RX0 TX0 10, w ∈ wsX0_minimsOf := by decide +kernel
  have hl := lv_entry ([.ref (gV g v), .int (nI s0)]) (n := 2) (Nat.le_of_ble_eq_true rfl)
  rw [lg_entry_eq]
  generalize (lg_sl ([.ref (gV g v), .int (nI s0)]) ++ List.replicate (2 - (lg_sl ([.ref (gV g v), .int (nI s0)])).length) Slot.unset).toArray = ls at hl ⊢
  have hl : lv_has ls 2 [(0, .ref (gV g v)), (1, .int (nI s0))] := hl
  have hC := hI.C v
  refine lv_aload_n (pc := 0) hx hb dX0_minimsOf_0 rfl (lv_at hl 0 rfl) ?_
  refine va_get (pc := 1) (D := gD g) (ci := 0) (C := RX0) (T := TX0) (N := 10) hx hb hts hinX0 hown hK hP (2 + 6 * v) (cv0 g σ rest hv) rfl 9 (by decide) (hts (.fieldLink RX0 29 "ChoirNotes$Voice" "begins" "[I") (by decide +kernel)) (fun _ h9 => h9) rfl dX0_minimsOf_1 ?_
  refine lv_iload_n (pc := 4) hx hb dX0_minimsOf_4 rfl (lv_at hl 1 rfl) ?_
  refine lv_iconst (v := 1) (pc := 5) hx hb dX0_minimsOf_5 (by decide) ?_
  refine lv_iadd (pc := 6) hx hb dX0_minimsOf_6 ?_
  refine k_cong (y := nI (s0 + 1)) (nI_1 s0) ?_
  refine k_iald (pc := 7) (x := sB σ v (s0 + 1)) hx hb hK hP (7 + 6 * v) 0 (cv5 g σ rest hv) rfl (s0 + 1) rfl (by omega) (by decide) rfl dX0_minimsOf_7 ?_
  refine lv_aload_n (pc := 8) hx hb dX0_minimsOf_8 rfl (lv_at hl 0 rfl) ?_
  refine va_get (pc := 9) (D := gD g) (ci := 0) (C := RX0) (T := TX0) (N := 10) hx hb hts hinX0 hown hK hP (2 + 6 * v) (cv0 g σ rest hv) rfl 9 (by decide) (hts (.fieldLink RX0 29 "ChoirNotes$Voice" "begins" "[I") (by decide +kernel)) (fun _ h9 => h9) rfl dX0_minimsOf_9 ?_
  refine lv_iload_n (pc := 12) hx hb dX0_minimsOf_12 rfl (lv_at hl 1 rfl) ?_
  refine k_iald (pc := 13) (x := sB σ v s0) hx hb hK hP (7 + 6 * v) 0 (cv5 g σ rest hv) rfl s0 rfl (by omega) (by decide) rfl dX0_minimsOf_13 ?_
  refine lv_isub (pc := 14) hx hb dX0_minimsOf_14 ?_
  exact W.iret hx hb hr (fun t ht hW => ⟨_, rfl, (by rw [hI.B (show s0 + 1 ≤ sC σ v by omega), hI.B (show s0 ≤ sC σ v by omega), pk_sub (bg_mono σ v (Nat.le_succ s0))]; exact congrArg nI (Nat.add_sub_cancel_left _ _)), ht⟩) (fun q hq => absurd hq List.not_mem_nil) dX0_minimsOf_15
set_option maxHeartbeats 4000000 in
set_option maxRecDepth 100000 in
/-- how long a sign of this kind is -/
theorem cX0_minimsByKind_m (l : Launch) (g : GA) (A : Nat → Prop) (σ : St) (rest : va_W) (v k : Nat) (r : Bool) (hv : v < 4) (hk3 : k ≤ 3) : Met l yX0_minimsByKind wsX0_minimsByKind ({ frames := 0, cells := 0, slots := 0, locals := 0 }) (va_Pc [.ref (gV g v), .int (nI k), .int (bI r)] (Cx g A (cw g σ ++ rest))) (vp_Si (fun x : Int32 => x = nI (lenK (sM σ v 0) (sM σ v 1) (sM σ v 2) k r))) 0 0 (fun _ => False) := by
  refine Met.ofW (cc := cX0_minimsByKind) (maxL := 3) (ret := (some .int)) (by decide) rfl ?_
  intro p e s m args below meth c s₁ B hml hv0
  obtain ⟨rfl, hP, hD, hA, hK, hX⟩ := hv0
  have hx := B.exec
  have hb := B.bytes
  have hr := B.returns
  have hts := atoms_spec (ws := wsX0_minimsByKind) B.pre
  have hown : s.vm.findClass RX0 = some m.cls := findClass_of_methodNamed B.named
  have hlocks := B.notSynchronized
  have hS : va_S A s.heap s.heap [] := va_S.rf
  have hinX0 : ∀ w ∈ u_ws RX0 TX0 10, w ∈ wsX0_minimsByKind := by decide +kernel
  have hl := lv_entry ([.ref (gV g v), .int (nI k), .int (bI r)]) (n := 3) (Nat.le_of_ble_eq_true rfl)
  rw [lg_entry_eq]
  generalize (lg_sl ([.ref (gV g v), .int (nI k), .int (bI r)]) ++ List.replicate (3 - (lg_sl ([.ref (gV g v), .int (nI k), .int (bI r)])).length) Slot.unset).toArray = ls at hl ⊢
  have hl : lv_has ls 3 [(0, .ref (gV g v)), (1, .int (nI k)), (2, .int (bI r))] := hl
  refine lv_iload_n (pc := 0) hx hb dX0_minimsByKind_0 rfl (lv_at hl 1 rfl) ?_
  rcases (show k = 0 ∨ k = 1 ∨ k = 2 ∨ k = 3 by omega) with rfl | rfl | rfl | rfl
  · refine lv_tableIn (pc := 1) (off := 27) (tgt := 28) hx hb dX0_minimsByKind_1 (by decide) (by decide) rfl (by decide) ?_
    refine lv_iload_n (pc := 28) hx hb dX0_minimsByKind_28 rfl (lv_at hl 2 rfl) ?_
    refine lv_if_eq (tgt := 36) (pc := 29) hx hb dX0_minimsByKind_29 (by decide) (fun c1 => ?_) (fun c1 => ?_)
    · have c1 := bI_0.mp c1
      refine lv_aload_n (pc := 36) hx hb dX0_minimsByKind_36 rfl (lv_at hl 0 rfl) ?_
      refine va_get (pc := 37) (D := gD g) (ci := 0) (C := RX0) (T := TX0) (N := 10) hx hb hts hinX0 hown hK hP (2 + 6 * v) (cv0 g σ rest hv) rfl 0 (by decide) (hts (.fieldLink RX0 32 "ChoirNotes$Voice" "brevesInLonga" "I") (by decide +kernel)) (fun _ h9 => h9) rfl dX0_minimsByKind_37 ?_
      refine k_cong (y := nI (if r then 2 else sM σ v 0)) (by rw [c1]; rfl) ?_
      refine lv_aload_n (pc := 40) hx hb dX0_minimsByKind_40 rfl (lv_at hl 0 rfl) ?_
      refine va_get (pc := 41) (D := gD g) (ci := 0) (C := RX0) (T := TX0) (N := 10) hx hb hts hinX0 hown hK hP (2 + 6 * v) (cv0 g σ rest hv) rfl 1 (by decide) (hts (.fieldLink RX0 35 "ChoirNotes$Voice" "semibrevesInBreve" "I") (by decide +kernel)) (fun _ h9 => h9) rfl dX0_minimsByKind_41 ?_
      refine lv_imul (pc := 44) hx hb dX0_minimsByKind_44 ?_
      refine lv_aload_n (pc := 45) hx hb dX0_minimsByKind_45 rfl (lv_at hl 0 rfl) ?_
      refine va_get (pc := 46) (D := gD g) (ci := 0) (C := RX0) (T := TX0) (N := 10) hx hb hts hinX0 hown hK hP (2 + 6 * v) (cv0 g σ rest hv) rfl 2 (by decide) (hts (.fieldLink RX0 38 "ChoirNotes$Voice" "minimsInSemibreve" "I") (by decide +kernel)) (fun _ h9 => h9) rfl dX0_minimsByKind_46 ?_
      refine lv_imul (pc := 49) hx hb dX0_minimsByKind_49 ?_
      exact W.iret hx hb hr (fun t ht hW => ⟨_, rfl, (pk_mul2 _ _ _), ht⟩) (fun q hq => absurd hq List.not_mem_nil) dX0_minimsByKind_50
    · have c1 := bI_n0.mp c1
      refine lv_iconst (v := 2) (pc := 32) hx hb dX0_minimsByKind_32 (by decide) ?_
      refine lv_goto (tgt := 40) (pc := 33) hx hb dX0_minimsByKind_33 (by decide) ?_
      refine k_cong (y := nI (if r then 2 else sM σ v 0)) (by rw [c1]; rfl) ?_
      refine lv_aload_n (pc := 40) hx hb dX0_minimsByKind_40 rfl (lv_at hl 0 rfl) ?_
      refine va_get (pc := 41) (D := gD g) (ci := 0) (C := RX0) (T := TX0) (N := 10) hx hb hts hinX0 hown hK hP (2 + 6 * v) (cv0 g σ rest hv) rfl 1 (by decide) (hts (.fieldLink RX0 35 "ChoirNotes$Voice" "semibrevesInBreve" "I") (by decide +kernel)) (fun _ h9 => h9) rfl dX0_minimsByKind_41 ?_
      refine lv_imul (pc := 44) hx hb dX0_minimsByKind_44 ?_
      refine lv_aload_n (pc := 45) hx hb dX0_minimsByKind_45 rfl (lv_at hl 0 rfl) ?_
      refine va_get (pc := 46) (D := gD g) (ci := 0) (C := RX0) (T := TX0) (N := 10) hx hb hts hinX0 hown hK hP (2 + 6 * v) (cv0 g σ rest hv) rfl 2 (by decide) (hts (.fieldLink RX0 38 "ChoirNotes$Voice" "minimsInSemibreve" "I") (by decide +kernel)) (fun _ h9 => h9) rfl dX0_minimsByKind_46 ?_
      refine lv_imul (pc := 49) hx hb dX0_minimsByKind_49 ?_
      exact W.iret hx hb hr (fun t ht hW => ⟨_, rfl, (pk_mul2 _ _ _), ht⟩) (fun q hq => absurd hq List.not_mem_nil) dX0_minimsByKind_50
  · refine lv_tableIn (pc := 1) (off := 50) (tgt := 51) hx hb dX0_minimsByKind_1 (by decide) (by decide) rfl (by decide) ?_
    refine lv_iload_n (pc := 51) hx hb dX0_minimsByKind_51 rfl (lv_at hl 2 rfl) ?_
    refine lv_if_eq (tgt := 59) (pc := 52) hx hb dX0_minimsByKind_52 (by decide) (fun c1 => ?_) (fun c1 => ?_)
    · have c1 := bI_0.mp c1
      refine lv_aload_n (pc := 59) hx hb dX0_minimsByKind_59 rfl (lv_at hl 0 rfl) ?_
      refine va_get (pc := 60) (D := gD g) (ci := 0) (C := RX0) (T := TX0) (N := 10) hx hb hts hinX0 hown hK hP (2 + 6 * v) (cv0 g σ rest hv) rfl 1 (by decide) (hts (.fieldLink RX0 35 "ChoirNotes$Voice" "semibrevesInBreve" "I") (by decide +kernel)) (fun _ h9 => h9) rfl dX0_minimsByKind_60 ?_
      refine k_cong (y := nI (if r then 2 else sM σ v 1)) (by rw [c1]; rfl) ?_
      refine lv_aload_n (pc := 63) hx hb dX0_minimsByKind_63 rfl (lv_at hl 0 rfl) ?_
      refine va_get (pc := 64) (D := gD g) (ci := 0) (C := RX0) (T := TX0) (N := 10) hx hb hts hinX0 hown hK hP (2 + 6 * v) (cv0 g σ rest hv) rfl 2 (by decide) (hts (.fieldLink RX0 38 "ChoirNotes$Voice" "minimsInSemibreve" "I") (by decide +kernel)) (fun _ h9 => h9) rfl dX0_minimsByKind_64 ?_
      refine lv_imul (pc := 67) hx hb dX0_minimsByKind_67 ?_
      exact W.iret hx hb hr (fun t ht hW => ⟨_, rfl, (pk_mul1 _ _), ht⟩) (fun q hq => absurd hq List.not_mem_nil) dX0_minimsByKind_68
    · have c1 := bI_n0.mp c1
      refine lv_iconst (v := 2) (pc := 55) hx hb dX0_minimsByKind_55 (by decide) ?_
      refine lv_goto (tgt := 63) (pc := 56) hx hb dX0_minimsByKind_56 (by decide) ?_
      refine k_cong (y := nI (if r then 2 else sM σ v 1)) (by rw [c1]; rfl) ?_
      refine lv_aload_n (pc := 63) hx hb dX0_minimsByKind_63 rfl (lv_at hl 0 rfl) ?_
      refine va_get (pc := 64) (D := gD g) (ci := 0) (C := RX0) (T := TX0) (N := 10) hx hb hts hinX0 hown hK hP (2 + 6 * v) (cv0 g σ rest hv) rfl 2 (by decide) (hts (.fieldLink RX0 38 "ChoirNotes$Voice" "minimsInSemibreve" "I") (by decide +kernel)) (fun _ h9 => h9) rfl dX0_minimsByKind_64 ?_
      refine lv_imul (pc := 67) hx hb dX0_minimsByKind_67 ?_
      exact W.iret hx hb hr (fun t ht hW => ⟨_, rfl, (pk_mul1 _ _), ht⟩) (fun q hq => absurd hq List.not_mem_nil) dX0_minimsByKind_68
  · refine lv_tableIn (pc := 1) (off := 68) (tgt := 69) hx hb dX0_minimsByKind_1 (by decide) (by decide) rfl (by decide) ?_
    refine lv_iload_n (pc := 69) hx hb dX0_minimsByKind_69 rfl (lv_at hl 2 rfl) ?_
    refine lv_if_eq (tgt := 77) (pc := 70) hx hb dX0_minimsByKind_70 (by decide) (fun c1 => ?_) (fun c1 => ?_)
    · have c1 := bI_0.mp c1
      refine lv_aload_n (pc := 77) hx hb dX0_minimsByKind_77 rfl (lv_at hl 0 rfl) ?_
      refine va_get (pc := 78) (D := gD g) (ci := 0) (C := RX0) (T := TX0) (N := 10) hx hb hts hinX0 hown hK hP (2 + 6 * v) (cv0 g σ rest hv) rfl 2 (by decide) (hts (.fieldLink RX0 38 "ChoirNotes$Voice" "minimsInSemibreve" "I") (by decide +kernel)) (fun _ h9 => h9) rfl dX0_minimsByKind_78 ?_
      refine k_cong (y := nI (if r then 2 else sM σ v 2)) (by rw [c1]; rfl) ?_
      exact W.iret hx hb hr (fun t ht hW => ⟨_, rfl, rfl, ht⟩) (fun q hq => absurd hq List.not_mem_nil) dX0_minimsByKind_81
    · have c1 := bI_n0.mp c1
      refine lv_iconst (v := 2) (pc := 73) hx hb dX0_minimsByKind_73 (by decide) ?_
      refine lv_goto (tgt := 81) (pc := 74) hx hb dX0_minimsByKind_74 (by decide) ?_
      refine k_cong (y := nI (if r then 2 else sM σ v 2)) (by rw [c1]; rfl) ?_
      exact W.iret hx hb hr (fun t ht hW => ⟨_, rfl, rfl, ht⟩) (fun q hq => absurd hq List.not_mem_nil) dX0_minimsByKind_81
  · refine lv_tableOut (pc := 1) (tgt := 82) hx hb dX0_minimsByKind_1 (by decide) (by decide) ?_
    refine lv_iconst (v := 1) (pc := 82) hx hb dX0_minimsByKind_82 (by decide) ?_
    exact W.iret hx hb hr (fun t ht hW => ⟨_, rfl, rfl, ht⟩) (fun q hq => absurd hq List.not_mem_nil) dX0_minimsByKind_83
set_option maxHeartbeats 4000000 in
set_option maxRecDepth 100000 in
/-- how many notes -/
theorem cX0_countNotes_m (l : Launch) (g : GA) (A : Nat → Prop) (σ : St) (rest : va_W) (v : Nat) (hv : v < 4) (hI : Inv σ) : Met l yX0_countNotes wsX0_countNotes ({ frames := 1, cells := 0, slots := 0, locals := 21 }) (va_Pc [.ref (gV g v)] (Cx g A (cw g σ ++ rest))) (vp_Si (fun r : Int32 => r = nI (cnt (isNt σ v) (sC σ v)))) 0 0 (fun _ => False) := by
  refine Met.ofW (cc := cX0_countNotes) (maxL := 3) (ret := (some .int)) (by decide) rfl ?_
  intro p e s m args below meth c s₁ B hml hv0
  obtain ⟨rfl, hP, hD, hA, hK, hX⟩ := hv0
  have hx := B.exec
  have hb := B.bytes
  have hr := B.returns
  have hts := atoms_spec (ws := wsX0_countNotes) B.pre
  have hown : s.vm.findClass RX0 = some m.cls := findClass_of_methodNamed B.named
  have hlocks := B.notSynchronized
  have hS : va_S A s.heap s.heap [] := va_S.rf
  have hinX0 : ∀ w ∈ u_ws RX0 TX0 10, w ∈ wsX0_countNotes := by decide +kernel
  have hl := lv_entry ([.ref (gV g v)]) (n := 3) (Nat.le_of_ble_eq_true rfl)
  rw [lg_entry_eq]
  generalize (lg_sl ([.ref (gV g v)]) ++ List.replicate (3 - (lg_sl ([.ref (gV g v)])).length) Slot.unset).toArray = ls at hl ⊢
  have hl : lv_has ls 3 [(0, .ref (gV g v))] := hl
  have hC := hI.C v
  refine lv_iconst (v := 0) (pc := 0) hx hb dX0_countNotes_0 (by decide) ?_
  refine lv_istore_n (lv' := [(1, .int 0), (0, .ref (gV g v))]) (pc := 1) hx hb dX0_countNotes_1 rfl hl (by decide) rfl (fun ls hl => ?_)
  refine lv_iconst (v := 0) (pc := 2) hx hb dX0_countNotes_2 (by decide) ?_
  refine lv_istore_n (lv' := [(2, .int 0), (1, .int 0), (0, .ref (gV g v))]) (pc := 3) hx hb dX0_countNotes_3 rfl hl (by decide) rfl (fun ls hl => ?_)
  refine k_loop2 (pc := 4) (nL := 3) (fun (i : Nat) (x : Int32) => i ≤ sC σ v ∧ x = nI (cnt (isNt σ v) i)) (fun (i : Nat) (x : Int32) => sC σ v - i) (fun (i : Nat) (x : Int32) => [(2, .int (nI i)), (1, .int x), (0, .ref (gV g v))]) (fun i x hI ih_4 ls hl => ?_) 0 0 ⟨Nat.zero_le _, rfl⟩ (lv_sub hl [0, 1, 2] rfl)
  obtain ⟨hi, hf⟩ := hI
  have hl : lv_has ls 3 [(2, .int (nI i)), (1, .int x), (0, .ref (gV g v))] := hl
  refine lv_iload_n (pc := 4) hx hb dX0_countNotes_4 rfl (lv_at hl 0 rfl) ?_
  refine lv_aload_n (pc := 5) hx hb dX0_countNotes_5 rfl (lv_at hl 2 rfl) ?_
  refine va_get (pc := 6) (D := gD g) (ci := 0) (C := RX0) (T := TX0) (N := 10) hx hb hts hinX0 hown hK hP (2 + 6 * v) (cv0 g σ rest hv) rfl 4 (by decide) (hts (.fieldLink RX0 45 "ChoirNotes$Voice" "count" "I") (by decide +kernel)) (fun _ h9 => h9) rfl dX0_countNotes_6 ?_
  refine lv_icmp_ge (tgt := 29) (pc := 9) hx hb dX0_countNotes_9 (by decide) (fun c1 => ?_) (fun c1 => ?_)
  · have c1 : sC σ v ≤ i := (nI_leI (a := sC σ v) (b := i) (by omega) (by omega)).mp c1
    refine lv_iload_n (pc := 29) hx hb dX0_countNotes_29 rfl (lv_at hl 1 rfl) ?_
    exact W.iret hx hb hr (fun t ht hW => ⟨_, rfl, (by rw [hf, show i = sC σ v by omega]), ht⟩) (fun q hq => absurd hq List.not_mem_nil) dX0_countNotes_30
  · have c1 : ¬ (sC σ v ≤ i) := fun z => c1 ((nI_leI (a := sC σ v) (b := i) (by omega) (by omega)).mpr z)
    refine lv_aload_n (pc := 12) hx hb dX0_countNotes_12 rfl (lv_at hl 2 rfl) ?_
    refine lv_iload_n (pc := 13) hx hb dX0_countNotes_13 rfl (lv_at hl 0 rfl) ?_
    refine k_ri (pc := 14) (va_runV (As := [.int (nI i)]) (rest := []) ⟨hx, hb, hml, hown, hts⟩ (cX0_isRest_m l g A σ rest v i hv (by omega)) (cwV 1 hts gX0_countNotes_X0_isRest rfl rfl rfl (by decide +kernel) ⟨Nat.le_of_ble_eq_true rfl, Nat.le_of_ble_eq_true rfl⟩) (cx_V (q0 := (2 + 6 * v)) (ci := 0) (r := (RX0, TX0, 10)) rfl (cv0 g σ rest hv) hP hD hA hK hX hS) rfl rfl hl.1 rfl (lv_room (Nat.le_of_ble_eq_true rfl)) dX0_countNotes_14 ⟨Nat.le_of_ble_eq_true rfl, Nat.le_of_ble_eq_true rfl⟩) (fun r_2 hr_2 => ?_)
    subst hr_2
    refine lv_if_ne (tgt := 23) (pc := 17) hx hb dX0_countNotes_17 (by decide) (fun c2 => ?_) (fun c2 => ?_)
    · have c2 : isNt σ v i = false := by simpa using bI_n0.mp c2
      refine lv_iinc (v := nI (i + 1)) (lv' := [(2, .int (nI (i + 1))), (1, .int x), (0, .ref (gV g v))]) (pc := 23) hx hb dX0_countNotes_23 hl (k := 0) rfl (nI_1 _) (by decide) rfl (fun ls hl => ?_)
      refine lv_goto (tgt := 4) (pc := 26) hx hb dX0_countNotes_26 (by decide) ?_
      exact ih_4 (i + 1) x ⟨by omega, by first | exact cntI_t hf c2 | exact cntI_f hf c2⟩ (by omega) _ (lv_sub hl [0, 1, 2] rfl)
    · have c2 : isNt σ v i = true := by simpa using bI_0.mp c2
      refine lv_iinc (v := x + 1) (lv' := [(1, .int (x + 1)), (2, .int (nI i)), (0, .ref (gV g v))]) (pc := 20) hx hb dX0_countNotes_20 hl (k := 1) rfl rfl (by decide) rfl (fun ls hl => ?_)
      refine lv_iinc (v := nI (i + 1)) (lv' := [(2, .int (nI (i + 1))), (1, .int (x + 1)), (0, .ref (gV g v))]) (pc := 23) hx hb dX0_countNotes_23 hl (k := 1) rfl (nI_1 _) (by decide) rfl (fun ls hl => ?_)
      refine lv_goto (tgt := 4) (pc := 26) hx hb dX0_countNotes_26 (by decide) ?_
      exact ih_4 (i + 1) (x + 1) ⟨by omega, by first | exact cntI_t hf c2 | exact cntI_f hf c2⟩ (by omega) _ (lv_sub hl [0, 1, 2] rfl)
set_option maxHeartbeats 4000000 in
set_option maxRecDepth 100000 in
/-- how many ligatures -/
theorem cX0_countLigatures_m (l : Launch) (g : GA) (A : Nat → Prop) (σ : St) (rest : va_W) (v : Nat) (hv : v < 4) (hI : Inv σ) : Met l yX0_countLigatures wsX0_countLigatures ({ frames := 0, cells := 0, slots := 0, locals := 0 }) (va_Pc [.ref (gV g v)] (Cx g A (cw g σ ++ rest))) (vp_Si (fun r : Int32 => r = nI (cnt (isLg σ v) (sC σ v)))) 0 0 (fun _ => False) := by
  refine Met.ofW (cc := cX0_countLigatures) (maxL := 3) (ret := (some .int)) (by decide) rfl ?_
  intro p e s m args below meth c s₁ B hml hv0
  obtain ⟨rfl, hP, hD, hA, hK, hX⟩ := hv0
  have hx := B.exec
  have hb := B.bytes
  have hr := B.returns
  have hts := atoms_spec (ws := wsX0_countLigatures) B.pre
  have hown : s.vm.findClass RX0 = some m.cls := findClass_of_methodNamed B.named
  have hlocks := B.notSynchronized
  have hS : va_S A s.heap s.heap [] := va_S.rf
  have hinX0 : ∀ w ∈ u_ws RX0 TX0 10, w ∈ wsX0_countLigatures := by decide +kernel
  have hl := lv_entry ([.ref (gV g v)]) (n := 3) (Nat.le_of_ble_eq_true rfl)
  rw [lg_entry_eq]
  generalize (lg_sl ([.ref (gV g v)]) ++ List.replicate (3 - (lg_sl ([.ref (gV g v)])).length) Slot.unset).toArray = ls at hl ⊢
  have hl : lv_has ls 3 [(0, .ref (gV g v))] := hl
  have hC := hI.C v
  refine lv_iconst (v := 0) (pc := 0) hx hb dX0_countLigatures_0 (by decide) ?_
  refine lv_istore_n (lv' := [(1, .int 0), (0, .ref (gV g v))]) (pc := 1) hx hb dX0_countLigatures_1 rfl hl (by decide) rfl (fun ls hl => ?_)
  refine lv_iconst (v := 0) (pc := 2) hx hb dX0_countLigatures_2 (by decide) ?_
  refine lv_istore_n (lv' := [(2, .int 0), (1, .int 0), (0, .ref (gV g v))]) (pc := 3) hx hb dX0_countLigatures_3 rfl hl (by decide) rfl (fun ls hl => ?_)
  refine k_loop2 (pc := 4) (nL := 3) (fun (i : Nat) (x : Int32) => i ≤ sC σ v ∧ x = nI (cnt (isLg σ v) i)) (fun (i : Nat) (x : Int32) => sC σ v - i) (fun (i : Nat) (x : Int32) => [(2, .int (nI i)), (1, .int x), (0, .ref (gV g v))]) (fun i x hI ih_4 ls hl => ?_) 0 0 ⟨Nat.zero_le _, rfl⟩ (lv_sub hl [0, 1, 2] rfl)
  obtain ⟨hi, hf⟩ := hI
  have hl : lv_has ls 3 [(2, .int (nI i)), (1, .int x), (0, .ref (gV g v))] := hl
  refine lv_iload_n (pc := 4) hx hb dX0_countLigatures_4 rfl (lv_at hl 0 rfl) ?_
  refine lv_aload_n (pc := 5) hx hb dX0_countLigatures_5 rfl (lv_at hl 2 rfl) ?_
  refine va_get (pc := 6) (D := gD g) (ci := 0) (C := RX0) (T := TX0) (N := 10) hx hb hts hinX0 hown hK hP (2 + 6 * v) (cv0 g σ rest hv) rfl 4 (by decide) (hts (.fieldLink RX0 45 "ChoirNotes$Voice" "count" "I") (by decide +kernel)) (fun _ h9 => h9) rfl dX0_countLigatures_6 ?_
  refine lv_icmp_ge (tgt := 30) (pc := 9) hx hb dX0_countLigatures_9 (by decide) (fun c1 => ?_) (fun c1 => ?_)
  · have c1 : sC σ v ≤ i := (nI_leI (a := sC σ v) (b := i) (by omega) (by omega)).mp c1
    refine lv_iload_n (pc := 30) hx hb dX0_countLigatures_30 rfl (lv_at hl 1 rfl) ?_
    exact W.iret hx hb hr (fun t ht hW => ⟨_, rfl, (by rw [hf, show i = sC σ v by omega]), ht⟩) (fun q hq => absurd hq List.not_mem_nil) dX0_countLigatures_31
  · have c1 : ¬ (sC σ v ≤ i) := fun z => c1 ((nI_leI (a := sC σ v) (b := i) (by omega) (by omega)).mpr z)
    refine lv_aload_n (pc := 12) hx hb dX0_countLigatures_12 rfl (lv_at hl 2 rfl) ?_
    refine va_get (pc := 13) (D := gD g) (ci := 0) (C := RX0) (T := TX0) (N := 10) hx hb hts hinX0 hown hK hP (2 + 6 * v) (cv0 g σ rest hv) rfl 8 (by decide) (hts (.fieldLink RX0 26 "ChoirNotes$Voice" "ranks" "[I") (by decide +kernel)) (fun _ h9 => h9) rfl dX0_countLigatures_13 ?_
    refine lv_iload_n (pc := 16) hx hb dX0_countLigatures_16 rfl (lv_at hl 0 rfl) ?_
    refine k_iald (pc := 17) (x := sT σ v i) hx hb hK hP (6 + 6 * v) 0 (cv4 g σ rest hv) rfl i rfl (by omega) (by decide) rfl dX0_countLigatures_17 ?_
    refine lv_if_ne (tgt := 24) (pc := 18) hx hb dX0_countLigatures_18 (by decide) (fun c2 => ?_) (fun c2 => ?_)
    · have c2 : isLg σ v i = false := decide_eq_false c2
      refine lv_iinc (v := nI (i + 1)) (lv' := [(2, .int (nI (i + 1))), (1, .int x), (0, .ref (gV g v))]) (pc := 24) hx hb dX0_countLigatures_24 hl (k := 0) rfl (nI_1 _) (by decide) rfl (fun ls hl => ?_)
      refine lv_goto (tgt := 4) (pc := 27) hx hb dX0_countLigatures_27 (by decide) ?_
      exact ih_4 (i + 1) x ⟨by omega, by first | exact cntI_t hf c2 | exact cntI_f hf c2⟩ (by omega) _ (lv_sub hl [0, 1, 2] rfl)
    · have c2 : isLg σ v i = true := decide_eq_true c2
      refine lv_iinc (v := x + 1) (lv' := [(1, .int (x + 1)), (2, .int (nI i)), (0, .ref (gV g v))]) (pc := 21) hx hb dX0_countLigatures_21 hl (k := 1) rfl rfl (by decide) rfl (fun ls hl => ?_)
      refine lv_iinc (v := nI (i + 1)) (lv' := [(2, .int (nI (i + 1))), (1, .int (x + 1)), (0, .ref (gV g v))]) (pc := 24) hx hb dX0_countLigatures_24 hl (k := 1) rfl (nI_1 _) (by decide) rfl (fun ls hl => ?_)
      refine lv_goto (tgt := 4) (pc := 27) hx hb dX0_countLigatures_27 (by decide) ?_
      exact ih_4 (i + 1) (x + 1) ⟨by omega, by first | exact cntI_t hf c2 | exact cntI_f hf c2⟩ (by omega) _ (lv_sub hl [0, 1, 2] rfl)
set_option maxHeartbeats 4000000 in
set_option maxRecDepth 100000 in
/-- whether a clef would fit -/
theorem cX0_wouldFit_m (l : Launch) (g : GA) (A : Nat → Prop) (σ : St) (rest : va_W) (v : Nat) (c0 : Int32) (hv : v < 4) (hI : Inv σ) : Met l yX0_wouldFit wsX0_wouldFit ({ frames := 1, cells := 0, slots := 0, locals := 21 }) (va_Pc [.ref (gV g v), .int c0] (Cx g A (cw g σ ++ rest))) (vp_Si (fun r : Int32 => r = bI (ft σ v c0))) 0 0 (fun _ => False) := by
  refine Met.ofW (cc := cX0_wouldFit) (maxL := 4) (ret := (some .boolean)) (by decide) rfl ?_
  intro p e s m args below meth c s₁ B hml hv0
  obtain ⟨rfl, hP, hD, hA, hK, hX⟩ := hv0
  have hx := B.exec
  have hb := B.bytes
  have hr := B.returns
  have hts := atoms_spec (ws := wsX0_wouldFit) B.pre
  have hown : s.vm.findClass RX0 = some m.cls := findClass_of_methodNamed B.named
  have hlocks := B.notSynchronized
  have hS : va_S A s.heap s.heap [] := va_S.rf
  have hinX0 : ∀ w ∈ u_ws RX0 TX0 10, w ∈ wsX0_wouldFit := by decide +kernel
  have hl := lv_entry ([.ref (gV g v), .int c0]) (n := 4) (Nat.le_of_ble_eq_true rfl)
  rw [lg_entry_eq]
  generalize (lg_sl ([.ref (gV g v), .int c0]) ++ List.replicate (4 - (lg_sl ([.ref (gV g v), .int c0])).length) Slot.unset).toArray = ls at hl ⊢
  have hl : lv_has ls 4 [(0, .ref (gV g v)), (1, .int c0)] := hl
  have hC := hI.C v
  refine lv_iconst (v := 0) (pc := 0) hx hb dX0_wouldFit_0 (by decide) ?_
  refine lv_istore_n (lv' := [(2, .int 0), (0, .ref (gV g v)), (1, .int c0)]) (pc := 1) hx hb dX0_wouldFit_1 rfl hl (by decide) rfl (fun ls hl => ?_)
  refine k_loop1 (pc := 2) (nL := 4) (fun (i : Nat) => i ≤ sC σ v ∧ ftN σ v c0 i = true) (fun (i : Nat) => sC σ v - i) (fun (i : Nat) => [(2, .int (nI i)), (1, .int c0), (0, .ref (gV g v))]) (fun i hI ih_2 ls hl => ?_) 0 ⟨Nat.zero_le _, rfl⟩ (lv_sub hl [0, 2, 1] rfl)
  obtain ⟨hi, hf⟩ := hI
  have hl : lv_has ls 4 [(2, .int (nI i)), (1, .int c0), (0, .ref (gV g v))] := hl
  refine lv_iload_n (pc := 2) hx hb dX0_wouldFit_2 rfl (lv_at hl 0 rfl) ?_
  refine lv_aload_n (pc := 3) hx hb dX0_wouldFit_3 rfl (lv_at hl 2 rfl) ?_
  refine va_get (pc := 4) (D := gD g) (ci := 0) (C := RX0) (T := TX0) (N := 10) hx hb hts hinX0 hown hK hP (2 + 6 * v) (cv0 g σ rest hv) rfl 4 (by decide) (hts (.fieldLink RX0 45 "ChoirNotes$Voice" "count" "I") (by decide +kernel)) (fun _ h9 => h9) rfl dX0_wouldFit_4 ?_
  refine lv_icmp_ge (tgt := 48) (pc := 7) hx hb dX0_wouldFit_7 (by decide) (fun c1 => ?_) (fun c1 => ?_)
  · have c1 : sC σ v ≤ i := (nI_leI (a := sC σ v) (b := i) (by omega) (by omega)).mp c1
    refine lv_iconst (v := 1) (pc := 48) hx hb dX0_wouldFit_48 (by decide) ?_
    exact W.zret (v := 1) hx hb hr rfl (fun t ht hW => ⟨_, rfl, (by rw [show ft σ v c0 = true from (by unfold ft; rw [← (show i = sC σ v by omega)]; exact hf)]; rfl), ht⟩) (fun q hq => absurd hq List.not_mem_nil) dX0_wouldFit_49
  · have c1 : ¬ (sC σ v ≤ i) := fun z => c1 ((nI_leI (a := sC σ v) (b := i) (by omega) (by omega)).mpr z)
    refine lv_aload_n (pc := 10) hx hb dX0_wouldFit_10 rfl (lv_at hl 2 rfl) ?_
    refine va_get (pc := 11) (D := gD g) (ci := 0) (C := RX0) (T := TX0) (N := 10) hx hb hts hinX0 hown hK hP (2 + 6 * v) (cv0 g σ rest hv) rfl 6 (by decide) (hts (.fieldLink RX0 19 "ChoirNotes$Voice" "places" "[I") (by decide +kernel)) (fun _ h9 => h9) rfl dX0_wouldFit_11 ?_
    refine lv_iload_n (pc := 14) hx hb dX0_wouldFit_14 rfl (lv_at hl 0 rfl) ?_
    refine k_iald (pc := 15) (x := sP σ v i) hx hb hK hP (4 + 6 * v) 0 (cv2 g σ rest hv) rfl i rfl (by omega) (by decide) rfl dX0_wouldFit_15 ?_
    refine lv_iconst (v := 2) (pc := 16) hx hb dX0_wouldFit_16 (by decide) ?_
    refine lv_iload_n (pc := 17) hx hb dX0_wouldFit_17 rfl (lv_at hl 1 rfl) ?_
    refine lv_imul (pc := 18) hx hb dX0_wouldFit_18 ?_
    refine lv_iadd (pc := 19) hx hb dX0_wouldFit_19 ?_
    refine lv_istore_n (lv' := [(3, .int ((sP σ v i) + (2 * c0))), (2, .int (nI i)), (1, .int c0), (0, .ref (gV g v))]) (pc := 20) hx hb dX0_wouldFit_20 rfl hl (by decide) rfl (fun ls hl => ?_)
    refine lv_aload_n (pc := 21) hx hb dX0_wouldFit_21 rfl (lv_at hl 3 rfl) ?_
    refine lv_iload_n (pc := 22) hx hb dX0_wouldFit_22 rfl (lv_at hl 1 rfl) ?_
    refine k_ri (pc := 23) (va_runV (As := [.int (nI i)]) (rest := []) ⟨hx, hb, hml, hown, hts⟩ (cX0_isRest_m l g A σ rest v i hv (by omega)) (cwV 1 hts gX0_wouldFit_X0_isRest rfl rfl rfl (by decide +kernel) ⟨Nat.le_of_ble_eq_true rfl, Nat.le_of_ble_eq_true rfl⟩) (cx_V (q0 := (2 + 6 * v)) (ci := 0) (r := (RX0, TX0, 10)) rfl (cv0 g σ rest hv) hP hD hA hK hX hS) rfl rfl hl.1 rfl (lv_room (Nat.le_of_ble_eq_true rfl)) dX0_wouldFit_23 ⟨Nat.le_of_ble_eq_true rfl, Nat.le_of_ble_eq_true rfl⟩) (fun r_2 hr_2 => ?_)
    subst hr_2
    refine lv_if_ne (tgt := 42) (pc := 26) hx hb dX0_wouldFit_26 (by decide) (fun c2 => ?_) (fun c2 => ?_)
    · have c2 : isNt σ v i = false := by simpa using bI_n0.mp c2
      refine lv_iinc (v := nI (i + 1)) (lv' := [(2, .int (nI (i + 1))), (3, .int ((sP σ v i) + (2 * c0))), (1, .int c0), (0, .ref (gV g v))]) (pc := 42) hx hb dX0_wouldFit_42 hl (k := 1) rfl (nI_1 _) (by decide) rfl (fun ls hl => ?_)
      refine lv_goto (tgt := 2) (pc := 45) hx hb dX0_wouldFit_45 (by decide) ?_
      exact ih_2 (i + 1) ⟨by omega, ftN_t hf (by first | (unfold ftS; rw [c2]; rfl) | (unfold ftS inP; rw [decide_eq_false c3, decide_eq_true c4]; exact Bool.or_true _))⟩ (by omega) _ (lv_sub hl [0, 2, 3] rfl)
    · have c2 : isNt σ v i = true := by simpa using bI_0.mp c2
      refine lv_iload_n (pc := 29) hx hb dX0_wouldFit_29 rfl (lv_at hl 0 rfl) ?_
      refine lv_iconst (v := 3) (pc := 30) hx hb dX0_wouldFit_30 (by decide) ?_
      refine lv_icmp_lt (tgt := 40) (pc := 31) hx hb dX0_wouldFit_31 (by decide) (fun c3 => ?_) (fun c3 => ?_)
      · refine lv_iconst (v := 0) (pc := 40) hx hb dX0_wouldFit_40 (by decide) ?_
        exact W.zret (v := 0) hx hb hr rfl (fun t ht hW => ⟨_, rfl, (by rw [show ft σ v c0 = false from ftN_f (i := i) (by omega) (by unfold ftS inP; rw [c2]; first | (rw [decide_eq_true c3]; rfl) | (rw [decide_eq_false c3, decide_eq_false c4]; rfl))]; rfl), ht⟩) (fun q hq => absurd hq List.not_mem_nil) dX0_wouldFit_41
      · refine lv_iload_n (pc := 34) hx hb dX0_wouldFit_34 rfl (lv_at hl 0 rfl) ?_
        refine lv_bipush (v := 16) (pc := 35) hx hb dX0_wouldFit_35 (by decide) ?_
        refine lv_icmp_le (tgt := 42) (pc := 37) hx hb dX0_wouldFit_37 (by decide) (fun c4 => ?_) (fun c4 => ?_)
        · refine lv_iinc (v := nI (i + 1)) (lv' := [(2, .int (nI (i + 1))), (3, .int ((sP σ v i) + (2 * c0))), (1, .int c0), (0, .ref (gV g v))]) (pc := 42) hx hb dX0_wouldFit_42 hl (k := 1) rfl (nI_1 _) (by decide) rfl (fun ls hl => ?_)
          refine lv_goto (tgt := 2) (pc := 45) hx hb dX0_wouldFit_45 (by decide) ?_
          exact ih_2 (i + 1) ⟨by omega, ftN_t hf (by first | (unfold ftS; rw [c2]; rfl) | (unfold ftS inP; rw [decide_eq_false c3, decide_eq_true c4]; exact Bool.or_true _))⟩ (by omega) _ (lv_sub hl [0, 2, 3] rfl)
        · refine lv_iconst (v := 0) (pc := 40) hx hb dX0_wouldFit_40 (by decide) ?_
          exact W.zret (v := 0) hx hb hr rfl (fun t ht hW => ⟨_, rfl, (by rw [show ft σ v c0 = false from ftN_f (i := i) (by omega) (by unfold ftS inP; rw [c2]; first | (rw [decide_eq_true c3]; rfl) | (rw [decide_eq_false c3, decide_eq_false c4]; rfl))]; rfl), ht⟩) (fun q hq => absurd hq List.not_mem_nil) dX0_wouldFit_41
set_option maxHeartbeats 4000000 in
set_option maxRecDepth 100000 in
/-- how many clefs would fit -/
theorem cX0_countFittingClefs_m (l : Launch) (g : GA) (A : Nat → Prop) (σ : St) (rest : va_W) (v : Nat) (hv : v < 4) (hI : Inv σ) : Met l yX0_countFittingClefs wsX0_countFittingClefs ({ frames := 2, cells := 0, slots := 0, locals := 44 }) (va_Pc [.ref (gV g v)] (Cx g A (cw g σ ++ rest))) (vp_Si (fun r : Int32 => r = nI (fct σ v))) 0 0 (fun _ => False) := by
  refine Met.ofW (cc := cX0_countFittingClefs) (maxL := 3) (ret := (some .int)) (by decide) rfl ?_
  intro p e s m args below meth c s₁ B hml hv0
  obtain ⟨rfl, hP, hD, hA, hK, hX⟩ := hv0
  have hx := B.exec
  have hb := B.bytes
  have hr := B.returns
  have hts := atoms_spec (ws := wsX0_countFittingClefs) B.pre
  have hown : s.vm.findClass RX0 = some m.cls := findClass_of_methodNamed B.named
  have hlocks := B.notSynchronized
  have hS : va_S A s.heap s.heap [] := va_S.rf
  have hl := lv_entry ([.ref (gV g v)]) (n := 3) (Nat.le_of_ble_eq_true rfl)
  rw [lg_entry_eq]
  generalize (lg_sl ([.ref (gV g v)]) ++ List.replicate (3 - (lg_sl ([.ref (gV g v)])).length) Slot.unset).toArray = ls at hl ⊢
  have hl : lv_has ls 3 [(0, .ref (gV g v))] := hl
  refine lv_iconst (v := 0) (pc := 0) hx hb dX0_countFittingClefs_0 (by decide) ?_
  refine lv_istore_n (lv' := [(1, .int 0), (0, .ref (gV g v))]) (pc := 1) hx hb dX0_countFittingClefs_1 rfl hl (by decide) rfl (fun ls hl => ?_)
  refine lv_iconst (v := 0) (pc := 2) hx hb dX0_countFittingClefs_2 (by decide) ?_
  refine lv_istore_n (lv' := [(2, .int 0), (1, .int 0), (0, .ref (gV g v))]) (pc := 3) hx hb dX0_countFittingClefs_3 rfl hl (by decide) rfl (fun ls hl => ?_)
  refine k_loop2 (pc := 4) (nL := 3) (fun (i : Nat) (x : Int32) => i ≤ 6 ∧ x = nI (cnt (fun c => ft σ v (nI c)) i)) (fun (i : Nat) (x : Int32) => 6 - i) (fun (i : Nat) (x : Int32) => [(2, .int (nI i)), (1, .int x), (0, .ref (gV g v))]) (fun i x hI ih_4 ls hl => ?_) 0 0 ⟨Nat.zero_le _, rfl⟩ (lv_sub hl [0, 1, 2] rfl)
  obtain ⟨hi, hf⟩ := hI
  have hl : lv_has ls 3 [(2, .int (nI i)), (1, .int x), (0, .ref (gV g v))] := hl
  refine lv_iload_n (pc := 4) hx hb dX0_countFittingClefs_4 rfl (lv_at hl 0 rfl) ?_
  refine lv_iconst (v := 5) (pc := 5) hx hb dX0_countFittingClefs_5 (by decide) ?_
  refine lv_icmp_gt (tgt := 26) (pc := 6) hx hb dX0_countFittingClefs_6 (by decide) (fun c1 => ?_) (fun c1 => ?_)
  · have c1 : 5 < i := (nI_ltI (a := 5) (b := i) (by omega) (by omega)).mp c1
    refine lv_iload_n (pc := 26) hx hb dX0_countFittingClefs_26 rfl (lv_at hl 1 rfl) ?_
    exact W.iret hx hb hr (fun t ht hW => ⟨_, rfl, (by rw [hf, show i = 6 by omega]; rfl), ht⟩) (fun q hq => absurd hq List.not_mem_nil) dX0_countFittingClefs_27
  · have c1 : ¬ (5 < i) := fun z => c1 ((nI_ltI (a := 5) (b := i) (by omega) (by omega)).mpr z)
    refine lv_aload_n (pc := 9) hx hb dX0_countFittingClefs_9 rfl (lv_at hl 2 rfl) ?_
    refine lv_iload_n (pc := 10) hx hb dX0_countFittingClefs_10 rfl (lv_at hl 0 rfl) ?_
    refine k_ri (pc := 11) (va_runV (As := [.int (nI i)]) (rest := []) ⟨hx, hb, hml, hown, hts⟩ (cX0_wouldFit_m l g A σ rest v (nI i) hv hI) (cwV 1 hts gX0_countFittingClefs_X0_wouldFit rfl rfl rfl (by decide +kernel) ⟨Nat.le_of_ble_eq_true rfl, Nat.le_of_ble_eq_true rfl⟩) (cx_V (q0 := (2 + 6 * v)) (ci := 0) (r := (RX0, TX0, 10)) rfl (cv0 g σ rest hv) hP hD hA hK hX hS) rfl rfl hl.1 rfl (lv_room (Nat.le_of_ble_eq_true rfl)) dX0_countFittingClefs_11 ⟨Nat.le_of_ble_eq_true rfl, Nat.le_of_ble_eq_true rfl⟩) (fun r_2 hr_2 => ?_)
    subst hr_2
    refine lv_if_eq (tgt := 20) (pc := 14) hx hb dX0_countFittingClefs_14 (by decide) (fun c2 => ?_) (fun c2 => ?_)
    · have c2 : (fun c => ft σ v (nI c)) i = false := bI_0.mp c2
      refine lv_iinc (v := nI (i + 1)) (lv' := [(2, .int (nI (i + 1))), (1, .int x), (0, .ref (gV g v))]) (pc := 20) hx hb dX0_countFittingClefs_20 hl (k := 0) rfl (nI_1 _) (by decide) rfl (fun ls hl => ?_)
      refine lv_goto (tgt := 4) (pc := 23) hx hb dX0_countFittingClefs_23 (by decide) ?_
      exact ih_4 (i + 1) x ⟨by omega, by first | exact cntI_t hf c2 | exact cntI_f hf c2⟩ (by omega) _ (lv_sub hl [0, 1, 2] rfl)
    · have c2 : (fun c => ft σ v (nI c)) i = true := bI_n0.mp c2
      refine lv_iinc (v := x + 1) (lv' := [(1, .int (x + 1)), (2, .int (nI i)), (0, .ref (gV g v))]) (pc := 17) hx hb dX0_countFittingClefs_17 hl (k := 1) rfl rfl (by decide) rfl (fun ls hl => ?_)
      refine lv_iinc (v := nI (i + 1)) (lv' := [(2, .int (nI (i + 1))), (1, .int (x + 1)), (0, .ref (gV g v))]) (pc := 20) hx hb dX0_countFittingClefs_20 hl (k := 1) rfl (nI_1 _) (by decide) rfl (fun ls hl => ?_)
      refine lv_goto (tgt := 4) (pc := 23) hx hb dX0_countFittingClefs_23 (by decide) ?_
      exact ih_4 (i + 1) (x + 1) ⟨by omega, by first | exact cntI_t hf c2 | exact cntI_f hf c2⟩ (by omega) _ (lv_sub hl [0, 1, 2] rfl)
set_option maxHeartbeats 4000000 in
set_option maxRecDepth 100000 in
/-- the sign that lasts at a time -/
theorem cX0_signLastingAt_m (l : Launch) (g : GA) (A : Nat → Prop) (σ : St) (rest : va_W) (v : Nat) (t0 : Int32) (hv : v < 4) (hI : Inv σ) : Met l yX0_signLastingAt wsX0_signLastingAt ({ frames := 0, cells := 0, slots := 0, locals := 0 }) (va_Pc [.ref (gV g v), .int t0] (Cx g A (cw g σ ++ rest))) (vp_Si (fun r : Int32 => r = sgAt σ v t0 (sC σ v))) 0 0 (fun _ => False) := by
  refine Met.ofW (cc := cX0_signLastingAt) (maxL := 3) (ret := (some .int)) (by decide) rfl ?_
  intro p e s m args below meth c s₁ B hml hv0
  obtain ⟨rfl, hP, hD, hA, hK, hX⟩ := hv0
  have hx := B.exec
  have hb := B.bytes
  have hr := B.returns
  have hts := atoms_spec (ws := wsX0_signLastingAt) B.pre
  have hown : s.vm.findClass RX0 = some m.cls := findClass_of_methodNamed B.named
  have hlocks := B.notSynchronized
  have hS : va_S A s.heap s.heap [] := va_S.rf
  have hinX0 : ∀ w ∈ u_ws RX0 TX0 10, w ∈ wsX0_signLastingAt := by decide +kernel
  have hl := lv_entry ([.ref (gV g v), .int t0]) (n := 3) (Nat.le_of_ble_eq_true rfl)
  rw [lg_entry_eq]
  generalize (lg_sl ([.ref (gV g v), .int t0]) ++ List.replicate (3 - (lg_sl ([.ref (gV g v), .int t0])).length) Slot.unset).toArray = ls at hl ⊢
  have hl : lv_has ls 3 [(0, .ref (gV g v)), (1, .int t0)] := hl
  have hC := hI.C v
  refine lv_iconst (v := 0) (pc := 0) hx hb dX0_signLastingAt_0 (by decide) ?_
  refine lv_istore_n (lv' := [(2, .int 0), (0, .ref (gV g v)), (1, .int t0)]) (pc := 1) hx hb dX0_signLastingAt_1 rfl hl (by decide) rfl (fun ls hl => ?_)
  refine k_loop1 (pc := 2) (nL := 3) (fun (i : Nat) => i ≤ sC σ v ∧ sgAt σ v t0 i = -1) (fun (i : Nat) => sC σ v - i) (fun (i : Nat) => [(2, .int (nI i)), (1, .int t0), (0, .ref (gV g v))]) (fun i hI ih_2 ls hl => ?_) 0 ⟨Nat.zero_le _, rfl⟩ (lv_sub hl [0, 2, 1] rfl)
  obtain ⟨hi, hf⟩ := hI
  have hl : lv_has ls 3 [(2, .int (nI i)), (1, .int t0), (0, .ref (gV g v))] := hl
  refine lv_iload_n (pc := 2) hx hb dX0_signLastingAt_2 rfl (lv_at hl 0 rfl) ?_
  refine lv_aload_n (pc := 3) hx hb dX0_signLastingAt_3 rfl (lv_at hl 2 rfl) ?_
  refine va_get (pc := 4) (D := gD g) (ci := 0) (C := RX0) (T := TX0) (N := 10) hx hb hts hinX0 hown hK hP (2 + 6 * v) (cv0 g σ rest hv) rfl 4 (by decide) (hts (.fieldLink RX0 45 "ChoirNotes$Voice" "count" "I") (by decide +kernel)) (fun _ h9 => h9) rfl dX0_signLastingAt_4 ?_
  refine lv_icmp_ge (tgt := 30) (pc := 7) hx hb dX0_signLastingAt_7 (by decide) (fun c1 => ?_) (fun c1 => ?_)
  · have c1 : sC σ v ≤ i := (nI_leI (a := sC σ v) (b := i) (by omega) (by omega)).mp c1
    refine lv_iconst (v := (-1)) (pc := 30) hx hb dX0_signLastingAt_30 (by decide) ?_
    exact W.iret hx hb hr (fun t ht hW => ⟨_, rfl, (by rw [← (show i = sC σ v by omega)]; exact hf.symm), ht⟩) (fun q hq => absurd hq List.not_mem_nil) dX0_signLastingAt_31
  · have c1 : ¬ (sC σ v ≤ i) := fun z => c1 ((nI_leI (a := sC σ v) (b := i) (by omega) (by omega)).mpr z)
    refine lv_iload_n (pc := 10) hx hb dX0_signLastingAt_10 rfl (lv_at hl 1 rfl) ?_
    refine lv_aload_n (pc := 11) hx hb dX0_signLastingAt_11 rfl (lv_at hl 2 rfl) ?_
    refine va_get (pc := 12) (D := gD g) (ci := 0) (C := RX0) (T := TX0) (N := 10) hx hb hts hinX0 hown hK hP (2 + 6 * v) (cv0 g σ rest hv) rfl 9 (by decide) (hts (.fieldLink RX0 29 "ChoirNotes$Voice" "begins" "[I") (by decide +kernel)) (fun _ h9 => h9) rfl dX0_signLastingAt_12 ?_
    refine lv_iload_n (pc := 15) hx hb dX0_signLastingAt_15 rfl (lv_at hl 0 rfl) ?_
    refine lv_iconst (v := 1) (pc := 16) hx hb dX0_signLastingAt_16 (by decide) ?_
    refine lv_iadd (pc := 17) hx hb dX0_signLastingAt_17 ?_
    refine k_cong (y := nI (i + 1)) (nI_1 i) ?_
    refine k_iald (pc := 18) (x := sB σ v (i + 1)) hx hb hK hP (7 + 6 * v) 0 (cv5 g σ rest hv) rfl (i + 1) rfl (by omega) (by decide) rfl dX0_signLastingAt_18 ?_
    refine k_cong (y := nI (bg σ v (i + 1))) (hI.B (by omega)) ?_
    refine lv_icmp_ge (tgt := 24) (pc := 19) hx hb dX0_signLastingAt_19 (by decide) (fun c2 => ?_) (fun c2 => ?_)
    · refine lv_iinc (v := nI (i + 1)) (lv' := [(2, .int (nI (i + 1))), (1, .int t0), (0, .ref (gV g v))]) (pc := 24) hx hb dX0_signLastingAt_24 hl (k := 0) rfl (nI_1 _) (by decide) rfl (fun ls hl => ?_)
      refine lv_goto (tgt := 2) (pc := 27) hx hb dX0_signLastingAt_27 (by decide) ?_
      exact ih_2 (i + 1) ⟨by omega, sgAt_f hf (Int32.not_lt.mpr c2)⟩ (by omega) _ (lv_sub hl [0, 1, 2] rfl)
    · refine lv_iload_n (pc := 22) hx hb dX0_signLastingAt_22 rfl (lv_at hl 0 rfl) ?_
      exact W.iret hx hb hr (fun t ht hW => ⟨_, rfl, (sgAt_t hf (Int32.not_le.mp c2) (by omega) (by omega)).symm, ht⟩) (fun q hq => absurd hq List.not_mem_nil) dX0_signLastingAt_23
