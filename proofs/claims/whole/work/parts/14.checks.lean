/-! THE CLASS: checks, kinds, two signs -/
theorem isNt_f {σ : St} {v i : Nat} (h : isNt σ v i = false) : sP σ v i = -1 := by
  unfold isNt at h
  simpa using h
theorem isNt_t {σ : St} {v i : Nat} (h : isNt σ v i = true) : ¬ sP σ v i = -1 := by
  unfold isNt at h
  simpa using h
theorem cls_1 {σ : St} {v w i j : Nat} {u : Int32} (h : isNt σ v i = false) : cls (sP σ v i) (sP σ w j) u = false := by
  unfold cls
  rw [decide_eq_true (isNt_f h)]; rfl
theorem cls_2 {σ : St} {v w i j : Nat} {u : Int32} (h : isNt σ w j = false) : cls (sP σ v i) (sP σ w j) u = false := by
  unfold cls
  rw [decide_eq_true (isNt_f h), Bool.not_true, Bool.false_and, Bool.and_false]
theorem cls_3 {σ : St} {v w i j : Nat} {u : Int32} (h : isNt σ v i = true) (h2 : isNt σ w j = true) : cls (sP σ v i) (sP σ w j) u = isCl (sP σ v i - sP σ w j - u) := by
  unfold cls
  rw [decide_eq_false (isNt_t h), decide_eq_false (isNt_t h2)]; rfl
set_option maxHeartbeats 4000000 in
set_option maxRecDepth 100000 in
/-- the voice of a number, or none -/
theorem cX1_knownVoice_m (l : Launch) (hfl : l.stackTraces = false) (g : GA) (A : Nat → Prop) (σ : St) (rest : va_W) (p0 : Int32) (hI : Inv σ) : vx_Met l yX1_knownVoice wsX1_knownVoice ({ frames := 6, cells := 1, slots := 6, locals := 90 }) (va_Pc [.ref (gX g), .int p0] (Cx g A (cw g σ ++ rest))) (kSr (fun r : Nat => ∃ v, v < sN σ ∧ p0 = nI v ∧ r = gV g v)) (kX (fun E => E = eI ∧ okV σ p0 = false)) 1 6 (fun _ => False) := by
  refine vx_ofW (cc := cX1_knownVoice) (maxL := 2) (ret := (some (.object "ChoirNotes$Voice"))) (by decide) rfl ?_
  intro p e s m args below meth c s₁ B hml hno hv0
  obtain ⟨rfl, hP, hD, hA, hK, hX⟩ := hv0
  have hx := B.exec
  have hb := B.bytes
  have hr := B.returns
  have hts := atoms_spec (ws := wsX1_knownVoice) B.pre
  have hown : s.vm.findClass RX1 = some m.cls := findClass_of_methodNamed B.named
  have hlocks := B.notSynchronized
  have hS : va_S A s.heap s.heap [] := va_S.rf
  have hinX1 : ∀ w ∈ u_ws RX1 TX1 2, w ∈ wsX1_knownVoice := by decide +kernel
  have hl := lv_entry ([.ref (gX g), .int p0]) (n := 2) (Nat.le_of_ble_eq_true rfl)
  rw [lg_entry_eq]
  generalize (lg_sl ([.ref (gX g), .int p0]) ++ List.replicate (2 - (lg_sl ([.ref (gX g), .int p0])).length) Slot.unset).toArray = ls at hl ⊢
  have hl : lv_has ls 2 [(0, .ref (gX g)), (1, .int p0)] := hl
  have hN := hI.N
  refine lv_iload_n (pc := 0) hx hb dX1_knownVoice_0 rfl (lv_at hl 1 rfl) ?_
  refine lv_if_lt (tgt := 12) (pc := 1) hx hb dX1_knownVoice_1 (by decide) (fun c1 => ?_) (fun c1 => ?_)
  · refine k_throw (pc := 12) (cls := "java/lang/IndexOutOfBoundsException") (text := "no such voice") (ik := 172) (is := 174) (ic := 176) hx hb hfl hown hts hX (by decide) (by decide +kernel) (by decide) (by decide +kernel) (by decide +kernel) (by decide +kernel) (by decide +kernel) (by decide +kernel) (hl.1.trans hml.symm) dX1_knownVoice_12 dX1_knownVoice_15 dX1_knownVoice_16 dX1_knownVoice_18 dX1_knownVoice_21 hno hlocks (Nat.le_of_ble_eq_true rfl) (Nat.le_of_ble_eq_true rfl) (Nat.le_of_ble_eq_true rfl) (Nat.le_of_ble_eq_true rfl) (Nat.le_of_ble_eq_true rfl) (Nat.le_of_ble_eq_true rfl) ?_
    exact ⟨rfl, by first | exact okV_1 c1 | exact okV_2 c2⟩
  · refine lv_iload_n (pc := 4) hx hb dX1_knownVoice_4 rfl (lv_at hl 1 rfl) ?_
    refine lv_aload_n (pc := 5) hx hb dX1_knownVoice_5 rfl (lv_at hl 0 rfl) ?_
    refine va_get (v := .int (nI (sN σ))) (pc := 6) (D := gD g) (ci := 1) (C := RX1) (T := TX1) (N := 2) hx hb hts hinX1 hown hK hP 0 (cx0 g σ rest) rfl 1 (by decide) (hts (.fieldLink RX1 20 "ChoirNotes" "voiceCount" "I") (by decide +kernel)) (fun _ h9 => h9) rfl dX1_knownVoice_6 ?_
    refine lv_icmp_lt (tgt := 22) (pc := 9) hx hb dX1_knownVoice_9 (by decide) (fun c2 => ?_) (fun c2 => ?_)
    · obtain ⟨v, hv, rfl⟩ := lt_nat (by omega) c1 c2
      refine lv_aload_n (pc := 22) hx hb dX1_knownVoice_22 rfl (lv_at hl 0 rfl) ?_
      refine va_get (v := .ref (gK g)) (pc := 23) (D := gD g) (ci := 1) (C := RX1) (T := TX1) (N := 2) hx hb hts hinX1 hown hK hP 0 (cx0 g σ rest) rfl 0 (by decide) (hts (.fieldLink RX1 11 "ChoirNotes" "book" "[LChoirNotes$Voice;") (by decide +kernel)) (fun _ h9 => h9) rfl dX1_knownVoice_23 ?_
      refine lv_iload_n (pc := 26) hx hb dX1_knownVoice_26 rfl (lv_at hl 1 rfl) ?_
      refine k_aald (pc := 27) (x := gV g v) hx hb hK hP 1 2 (cx1 g σ rest) rfl v rfl (show v < 4 by omega) (by decide) (if_pos (show v < 4 by omega)) dX1_knownVoice_27 ?_
      refine vx_ret ?_
      refine W.widen (k := 1) (n := 6) (Nat.le_of_ble_eq_true rfl) (Nat.le_of_ble_eq_true rfl) ?_
      exact W.aret hx hb hr (Or.inl ⟨_, rfl⟩) (Or.inr ⟨_, rfl⟩) (fun t ht hW => ⟨_, rfl, ⟨v, hv, rfl, rfl⟩, ht⟩) (fun q hq => absurd hq List.not_mem_nil) dX1_knownVoice_28
    · refine k_throw (pc := 12) (cls := "java/lang/IndexOutOfBoundsException") (text := "no such voice") (ik := 172) (is := 174) (ic := 176) hx hb hfl hown hts hX (by decide) (by decide +kernel) (by decide) (by decide +kernel) (by decide +kernel) (by decide +kernel) (by decide +kernel) (by decide +kernel) (hl.1.trans hml.symm) dX1_knownVoice_12 dX1_knownVoice_15 dX1_knownVoice_16 dX1_knownVoice_18 dX1_knownVoice_21 hno hlocks (Nat.le_of_ble_eq_true rfl) (Nat.le_of_ble_eq_true rfl) (Nat.le_of_ble_eq_true rfl) (Nat.le_of_ble_eq_true rfl) (Nat.le_of_ble_eq_true rfl) (Nat.le_of_ble_eq_true rfl) ?_
      exact ⟨rfl, by first | exact okV_1 c1 | exact okV_2 c2⟩
set_option maxHeartbeats 4000000 in
set_option maxRecDepth 100000 in
/-- the voice of a number, if it has this sign -/
theorem cX1_voiceWithSign_m (l : Launch) (hfl : l.stackTraces = false) (g : GA) (A : Nat → Prop) (σ : St) (rest : va_W) (p0 q0 : Int32) (hI : Inv σ) : vx_Met l yX1_voiceWithSign wsX1_voiceWithSign ({ frames := 7, cells := 2, slots := 12, locals := 111 }) (va_Pc [.ref (gX g), .int p0, .int q0] (Cx g A (cw g σ ++ rest))) (kSr (fun r : Nat => ∃ v s0, v < sN σ ∧ s0 < sC σ v ∧ p0 = nI v ∧ q0 = nI s0 ∧ r = gV g v)) (kX (fun E => E = eI ∧ cdS σ p0 q0 = 1)) 2 12 (fun _ => False) := by
  refine vx_ofW (cc := cX1_voiceWithSign) (maxL := 4) (ret := (some (.object "ChoirNotes$Voice"))) (by decide) rfl ?_
  intro p e s m args below meth c s₁ B hml hno hv0
  obtain ⟨rfl, hP, hD, hA, hK, hX⟩ := hv0
  have hx := B.exec
  have hb := B.bytes
  have hr := B.returns
  have hts := atoms_spec (ws := wsX1_voiceWithSign) B.pre
  have hown : s.vm.findClass RX1 = some m.cls := findClass_of_methodNamed B.named
  have hlocks := B.notSynchronized
  have hS : va_S A s.heap s.heap [] := va_S.rf
  have hinX0 : ∀ w ∈ u_ws RX0 TX0 10, w ∈ wsX1_voiceWithSign := by decide +kernel
  have hl := lv_entry ([.ref (gX g), .int p0, .int q0]) (n := 4) (Nat.le_of_ble_eq_true rfl)
  rw [lg_entry_eq]
  generalize (lg_sl ([.ref (gX g), .int p0, .int q0]) ++ List.replicate (4 - (lg_sl ([.ref (gX g), .int p0, .int q0])).length) Slot.unset).toArray = ls at hl ⊢
  have hl : lv_has ls 4 [(0, .ref (gX g)), (1, .int p0), (2, .int q0)] := hl
  refine lv_aload_n (pc := 0) hx hb dX1_voiceWithSign_0 rfl (lv_at hl 0 rfl) ?_
  refine lv_iload_n (pc := 1) hx hb dX1_voiceWithSign_1 rfl (lv_at hl 1 rfl) ?_
  refine k_xr (pc := 2) (vx_runV (As := [.int p0]) (rest := []) ⟨hx, hb, hml, hown, hts⟩ (cX1_knownVoice_m l hfl g A σ rest p0 hI) (cwV 1 hts gX1_voiceWithSign_X1_knownVoice rfl rfl rfl (by decide +kernel) ⟨Nat.le_of_ble_eq_true rfl, Nat.le_of_ble_eq_true rfl⟩) (cx_V (q0 := 0) (ci := 1) (r := (RX1, TX1, 2)) rfl (cx0 g σ rest) hP hD hA hK hX hS) rfl rfl hl.1 rfl (lv_room (Nat.le_of_ble_eq_true rfl)) dX1_voiceWithSign_2 ⟨Nat.le_of_ble_eq_true rfl, Nat.le_of_ble_eq_true rfl⟩) hno hlocks (fun E h => ⟨h.1, by unfold cdS; rw [h.2]; rfl⟩) (Nat.le_of_ble_eq_true rfl) (Nat.le_of_ble_eq_true rfl) (fun r_1 hr_1 => ?_)
  obtain ⟨v, hvn, rfl, rfl⟩ := hr_1
  have hv4 : v < 4 := hI.v4 hvn
  have hixv : ix (nI v) = v := ix_n (by omega)
  have hokv : okV σ (nI v) = true := okV_t hvn hI.N
  refine lv_astore_n (lv' := [(3, .ref (gV g v)), (0, .ref (gX g)), (1, .int (nI v)), (2, .int q0)]) (pc := 5) hx hb dX1_voiceWithSign_5 rfl hl (by decide) rfl (fun ls hl => ?_)
  refine lv_iload_n (pc := 6) hx hb dX1_voiceWithSign_6 rfl (lv_at hl 3 rfl) ?_
  refine lv_if_lt (tgt := 18) (pc := 7) hx hb dX1_voiceWithSign_7 (by decide) (fun c1 => ?_) (fun c1 => ?_)
  · refine k_throw (pc := 18) (cls := "java/lang/IndexOutOfBoundsException") (text := "no such sign") (ik := 172) (is := 177) (ic := 176) hx hb hfl hown hts hX (by decide) (by decide +kernel) (by decide) (by decide +kernel) (by decide +kernel) (by decide +kernel) (by decide +kernel) (by decide +kernel) (hl.1.trans hml.symm) dX1_voiceWithSign_18 dX1_voiceWithSign_21 dX1_voiceWithSign_22 dX1_voiceWithSign_24 dX1_voiceWithSign_27 hno hlocks (Nat.le_of_ble_eq_true rfl) (Nat.le_of_ble_eq_true rfl) (Nat.le_of_ble_eq_true rfl) (Nat.le_of_ble_eq_true rfl) (Nat.le_of_ble_eq_true rfl) (Nat.le_of_ble_eq_true rfl) ?_
    exact ⟨rfl, by unfold cdS; rw [hokv, hixv]; first | (rw [okS_1 c1]; rfl) | (rw [okS_2 c2]; rfl)⟩
  · refine lv_iload_n (pc := 10) hx hb dX1_voiceWithSign_10 rfl (lv_at hl 3 rfl) ?_
    refine lv_aload_n (pc := 11) hx hb dX1_voiceWithSign_11 rfl (lv_at hl 0 rfl) ?_
    refine va_getN (v := .int (nI (sC σ v))) (pc := 12) (D := gD g) (ci := 0) (C := RX0) (T := TX0) (N := 10) hx hb hts hinX0 hown hK hP (2 + 6 * v) (cv0 g σ rest hv4) rfl 4 (by decide) (va_Nw.use rfl (nf_64 hX)) (fun _ h9 => h9) rfl dX1_voiceWithSign_12 ?_
    refine lv_icmp_lt (tgt := 28) (pc := 15) hx hb dX1_voiceWithSign_15 (by decide) (fun c2 => ?_) (fun c2 => ?_)
    · obtain ⟨s0, hs, rfl⟩ := lt_nat (by have := hI.C v; omega) c1 c2
      refine lv_aload_n (pc := 28) hx hb dX1_voiceWithSign_28 rfl (lv_at hl 0 rfl) ?_
      refine vx_ret ?_
      refine W.widen (k := 2) (n := 12) (Nat.le_of_ble_eq_true rfl) (Nat.le_of_ble_eq_true rfl) ?_
      exact W.aret hx hb hr (Or.inl ⟨_, rfl⟩) (Or.inr ⟨_, rfl⟩) (fun t ht hW => ⟨_, rfl, ⟨v, s0, hvn, hs, rfl, rfl, rfl⟩, ht⟩) (fun q hq => absurd hq List.not_mem_nil) dX1_voiceWithSign_29
    · refine k_throw (pc := 18) (cls := "java/lang/IndexOutOfBoundsException") (text := "no such sign") (ik := 172) (is := 177) (ic := 176) hx hb hfl hown hts hX (by decide) (by decide +kernel) (by decide) (by decide +kernel) (by decide +kernel) (by decide +kernel) (by decide +kernel) (by decide +kernel) (hl.1.trans hml.symm) dX1_voiceWithSign_18 dX1_voiceWithSign_21 dX1_voiceWithSign_22 dX1_voiceWithSign_24 dX1_voiceWithSign_27 hno hlocks (Nat.le_of_ble_eq_true rfl) (Nat.le_of_ble_eq_true rfl) (Nat.le_of_ble_eq_true rfl) (Nat.le_of_ble_eq_true rfl) (Nat.le_of_ble_eq_true rfl) (Nat.le_of_ble_eq_true rfl) ?_
      exact ⟨rfl, by unfold cdS; rw [hokv, hixv]; first | (rw [okS_1 c1]; rfl) | (rw [okS_2 c2]; rfl)⟩
set_option maxHeartbeats 4000000 in
set_option maxRecDepth 100000 in
/-- a number in its range, or a refusal -/
theorem cX1_checkRange_m (l : Launch) (hfl : l.stackTraces = false) (g : GA) (A : Nat → Prop) (σ : St) (rest : va_W) (n0 lo hi : Int32) : vx_Met l yX1_checkRange wsX1_checkRange ({ frames := 6, cells := 1, slots := 6, locals := 90 }) (va_Pc [.int n0, .int lo, .int hi] (Cx g A (cw g σ ++ rest))) (kSv (inr lo hi n0 = true)) (kX (fun E => E = eA ∧ inr lo hi n0 = false)) 1 6 (fun _ => False) := by
  refine vx_ofW (cc := cX1_checkRange) (maxL := 3) (ret := none) (by decide) rfl ?_
  intro p e s m args below meth c s₁ B hml hno hv0
  obtain ⟨rfl, hP, hD, hA, hK, hX⟩ := hv0
  have hx := B.exec
  have hb := B.bytes
  have hr := B.returns
  have hts := atoms_spec (ws := wsX1_checkRange) B.pre
  have hown : s.vm.findClass RX1 = some m.cls := findClass_of_methodNamed B.named
  have hlocks := B.notSynchronized
  have hS : va_S A s.heap s.heap [] := va_S.rf
  have hl := lv_entry ([.int n0, .int lo, .int hi]) (n := 3) (Nat.le_of_ble_eq_true rfl)
  rw [lg_entry_eq]
  generalize (lg_sl ([.int n0, .int lo, .int hi]) ++ List.replicate (3 - (lg_sl ([.int n0, .int lo, .int hi])).length) Slot.unset).toArray = ls at hl ⊢
  have hl : lv_has ls 3 [(0, .int n0), (1, .int lo), (2, .int hi)] := hl
  refine lv_iload_n (pc := 0) hx hb dX1_checkRange_0 rfl (lv_at hl 0 rfl) ?_
  refine lv_iload_n (pc := 1) hx hb dX1_checkRange_1 rfl (lv_at hl 1 rfl) ?_
  refine lv_icmp_lt (tgt := 10) (pc := 2) hx hb dX1_checkRange_2 (by decide) (fun c1 => ?_) (fun c1 => ?_)
  · refine k_throw (pc := 10) (cls := "java/lang/IllegalArgumentException") (text := "a number is out of its range") (ik := 179) (is := 181) (ic := 183) hx hb hfl hown hts hX (by decide) (by decide +kernel) (by decide) (by decide +kernel) (by decide +kernel) (by decide +kernel) (by decide +kernel) (by decide +kernel) (hl.1.trans hml.symm) dX1_checkRange_10 dX1_checkRange_13 dX1_checkRange_14 dX1_checkRange_16 dX1_checkRange_19 hno hlocks (Nat.le_of_ble_eq_true rfl) (Nat.le_of_ble_eq_true rfl) (Nat.le_of_ble_eq_true rfl) (Nat.le_of_ble_eq_true rfl) (Nat.le_of_ble_eq_true rfl) (Nat.le_of_ble_eq_true rfl) ?_
    exact ⟨rfl, by first | exact inr_f1 c1 | exact inr_f2 c2⟩
  · refine lv_iload_n (pc := 5) hx hb dX1_checkRange_5 rfl (lv_at hl 0 rfl) ?_
    refine lv_iload_n (pc := 6) hx hb dX1_checkRange_6 rfl (lv_at hl 2 rfl) ?_
    refine lv_icmp_le (tgt := 20) (pc := 7) hx hb dX1_checkRange_7 (by decide) (fun c2 => ?_) (fun c2 => ?_)
    · refine vx_ret ?_
      refine W.widen (k := 1) (n := 6) (Nat.le_of_ble_eq_true rfl) (Nat.le_of_ble_eq_true rfl) ?_
      exact W.vret hx hb hr (fun t ht hW => ⟨rfl, (inr_t c1 c2), ht⟩) (fun q hq => absurd hq List.not_mem_nil) dX1_checkRange_20
    · refine k_throw (pc := 10) (cls := "java/lang/IllegalArgumentException") (text := "a number is out of its range") (ik := 179) (is := 181) (ic := 183) hx hb hfl hown hts hX (by decide) (by decide +kernel) (by decide) (by decide +kernel) (by decide +kernel) (by decide +kernel) (by decide +kernel) (by decide +kernel) (hl.1.trans hml.symm) dX1_checkRange_10 dX1_checkRange_13 dX1_checkRange_14 dX1_checkRange_16 dX1_checkRange_19 hno hlocks (Nat.le_of_ble_eq_true rfl) (Nat.le_of_ble_eq_true rfl) (Nat.le_of_ble_eq_true rfl) (Nat.le_of_ble_eq_true rfl) (Nat.le_of_ble_eq_true rfl) (Nat.le_of_ble_eq_true rfl) ?_
      exact ⟨rfl, by first | exact inr_f1 c1 | exact inr_f2 c2⟩
set_option maxHeartbeats 4000000 in
set_option maxRecDepth 100000 in
/-- a mensuration, or a refusal -/
theorem cX1_checkMensuration_m (l : Launch) (hfl : l.stackTraces = false) (g : GA) (A : Nat → Prop) (σ : St) (rest : va_W) (a b c0 : Int32) : vx_Met l yX1_checkMensuration wsX1_checkMensuration ({ frames := 7, cells := 3, slots := 18, locals := 112 }) (va_Pc [.int a, .int b, .int c0] (Cx g A (cw g σ ++ rest))) (kSv (inM a b c0 = true)) (kX (fun E => E = eA ∧ inM a b c0 = false)) 3 18 (fun _ => False) := by
  refine vx_ofW (cc := cX1_checkMensuration) (maxL := 3) (ret := none) (by decide) rfl ?_
  intro p e s m args below meth c s₁ B hml hno hv0
  obtain ⟨rfl, hP, hD, hA, hK, hX⟩ := hv0
  have hx := B.exec
  have hb := B.bytes
  have hr := B.returns
  have hts := atoms_spec (ws := wsX1_checkMensuration) B.pre
  have hown : s.vm.findClass RX1 = some m.cls := findClass_of_methodNamed B.named
  have hlocks := B.notSynchronized
  have hS : va_S A s.heap s.heap [] := va_S.rf
  have hl := lv_entry ([.int a, .int b, .int c0]) (n := 3) (Nat.le_of_ble_eq_true rfl)
  rw [lg_entry_eq]
  generalize (lg_sl ([.int a, .int b, .int c0]) ++ List.replicate (3 - (lg_sl ([.int a, .int b, .int c0])).length) Slot.unset).toArray = ls at hl ⊢
  have hl : lv_has ls 3 [(0, .int a), (1, .int b), (2, .int c0)] := hl
  refine lv_iload_n (pc := 0) hx hb dX1_checkMensuration_0 rfl (lv_at hl 0 rfl) ?_
  refine lv_iconst (v := 2) (pc := 1) hx hb dX1_checkMensuration_1 (by decide) ?_
  refine lv_iconst (v := 3) (pc := 2) hx hb dX1_checkMensuration_2 (by decide) ?_
  refine k_xv (pc := 3) (vx_runS (As := [.int a, .int 2, .int 3]) (rest := []) ⟨hx, hb, hml, hown, hts⟩ (cX1_checkRange_m l hfl g A σ rest a 2 3) (va_cwS 3 hts gX1_checkMensuration_X1_checkRange rfl rfl rfl (by decide +kernel) ⟨Nat.le_of_ble_eq_true rfl, Nat.le_of_ble_eq_true rfl⟩) (cx_S hP hD hA hK hX hS) rfl rfl hl.1 rfl (lv_room (Nat.le_of_ble_eq_true rfl)) dX1_checkMensuration_3 ⟨Nat.le_of_ble_eq_true rfl, Nat.le_of_ble_eq_true rfl⟩) hno hlocks (fun E h => ⟨h.1, by unfold inM; rw [h.2]; rfl⟩) (Nat.le_of_ble_eq_true rfl) (Nat.le_of_ble_eq_true rfl) (fun hk1 => ?_)
  refine lv_iload_n (pc := 6) hx hb dX1_checkMensuration_6 rfl (lv_at hl 1 rfl) ?_
  refine lv_iconst (v := 2) (pc := 7) hx hb dX1_checkMensuration_7 (by decide) ?_
  refine lv_iconst (v := 3) (pc := 8) hx hb dX1_checkMensuration_8 (by decide) ?_
  refine k_xv (pc := 9) (vx_runS (As := [.int b, .int 2, .int 3]) (rest := []) ⟨hx, hb, hml, hown, hts⟩ (cX1_checkRange_m l hfl g A σ rest b 2 3) (va_cwS 3 hts gX1_checkMensuration_X1_checkRange rfl rfl rfl (by decide +kernel) ⟨Nat.le_of_ble_eq_true rfl, Nat.le_of_ble_eq_true rfl⟩) (cx_S hP hD hA hK hX hS) rfl rfl hl.1 rfl (lv_room (Nat.le_of_ble_eq_true rfl)) dX1_checkMensuration_9 ⟨Nat.le_of_ble_eq_true rfl, Nat.le_of_ble_eq_true rfl⟩) hno hlocks (fun E h => ⟨h.1, by unfold inM; rw [hk1, h.2]; rfl⟩) (Nat.le_of_ble_eq_true rfl) (Nat.le_of_ble_eq_true rfl) (fun hk2 => ?_)
  refine lv_iload_n (pc := 12) hx hb dX1_checkMensuration_12 rfl (lv_at hl 2 rfl) ?_
  refine lv_iconst (v := 2) (pc := 13) hx hb dX1_checkMensuration_13 (by decide) ?_
  refine lv_iconst (v := 3) (pc := 14) hx hb dX1_checkMensuration_14 (by decide) ?_
  refine k_xv (pc := 15) (vx_runS (As := [.int c0, .int 2, .int 3]) (rest := []) ⟨hx, hb, hml, hown, hts⟩ (cX1_checkRange_m l hfl g A σ rest c0 2 3) (va_cwS 3 hts gX1_checkMensuration_X1_checkRange rfl rfl rfl (by decide +kernel) ⟨Nat.le_of_ble_eq_true rfl, Nat.le_of_ble_eq_true rfl⟩) (cx_S hP hD hA hK hX hS) rfl rfl hl.1 rfl (lv_room (Nat.le_of_ble_eq_true rfl)) dX1_checkMensuration_15 ⟨Nat.le_of_ble_eq_true rfl, Nat.le_of_ble_eq_true rfl⟩) hno hlocks (fun E h => ⟨h.1, by unfold inM; rw [hk1, hk2, h.2]; rfl⟩) (Nat.le_of_ble_eq_true rfl) (Nat.le_of_ble_eq_true rfl) (fun hk3 => ?_)
  refine vx_ret ?_
  refine W.widen (k := 3) (n := 18) (Nat.le_of_ble_eq_true rfl) (Nat.le_of_ble_eq_true rfl) ?_
  exact W.vret hx hb hr (fun t ht hW => ⟨rfl, (by unfold inM; rw [hk1, hk2, hk3]; rfl), ht⟩) (fun q hq => absurd hq List.not_mem_nil) dX1_checkMensuration_18
set_option maxHeartbeats 4000000 in
set_option maxRecDepth 100000 in
/-- the places of a ligature, or a refusal -/
theorem cX1_checkLigature_m (l : Launch) (hfl : l.stackTraces = false) (g : GA) (A : Nat → Prop) (σ : St) (rest : va_W) (a b c0 : Int32) : vx_Met l yX1_checkLigature wsX1_checkLigature ({ frames := 7, cells := 4, slots := 24, locals := 112 }) (va_Pc [.int a, .int b, .int c0] (Cx g A (cw g σ ++ rest))) (kSv (inL a b c0 = true)) (kX (fun E => E = eA ∧ inL a b c0 = false)) 4 24 (fun _ => False) := by
  refine vx_ofW (cc := cX1_checkLigature) (maxL := 3) (ret := none) (by decide) rfl ?_
  intro p e s m args below meth c s₁ B hml hno hv0
  obtain ⟨rfl, hP, hD, hA, hK, hX⟩ := hv0
  have hx := B.exec
  have hb := B.bytes
  have hr := B.returns
  have hts := atoms_spec (ws := wsX1_checkLigature) B.pre
  have hown : s.vm.findClass RX1 = some m.cls := findClass_of_methodNamed B.named
  have hlocks := B.notSynchronized
  have hS : va_S A s.heap s.heap [] := va_S.rf
  have hl := lv_entry ([.int a, .int b, .int c0]) (n := 3) (Nat.le_of_ble_eq_true rfl)
  rw [lg_entry_eq]
  generalize (lg_sl ([.int a, .int b, .int c0]) ++ List.replicate (3 - (lg_sl ([.int a, .int b, .int c0])).length) Slot.unset).toArray = ls at hl ⊢
  have hl : lv_has ls 3 [(0, .int a), (1, .int b), (2, .int c0)] := hl
  refine lv_iload_n (pc := 0) hx hb dX1_checkLigature_0 rfl (lv_at hl 0 rfl) ?_
  refine lv_iconst (v := 0) (pc := 1) hx hb dX1_checkLigature_1 (by decide) ?_
  refine lv_bipush (v := 9) (pc := 2) hx hb dX1_checkLigature_2 (by decide) ?_
  refine k_xv (pc := 4) (vx_runS (As := [.int a, .int 0, .int 9]) (rest := []) ⟨hx, hb, hml, hown, hts⟩ (cX1_checkRange_m l hfl g A σ rest a 0 9) (va_cwS 3 hts gX1_checkLigature_X1_checkRange rfl rfl rfl (by decide +kernel) ⟨Nat.le_of_ble_eq_true rfl, Nat.le_of_ble_eq_true rfl⟩) (cx_S hP hD hA hK hX hS) rfl rfl hl.1 rfl (lv_room (Nat.le_of_ble_eq_true rfl)) dX1_checkLigature_4 ⟨Nat.le_of_ble_eq_true rfl, Nat.le_of_ble_eq_true rfl⟩) hno hlocks (fun E h => ⟨h.1, by unfold inL; rw [h.2]; rfl⟩) (Nat.le_of_ble_eq_true rfl) (Nat.le_of_ble_eq_true rfl) (fun hk1 => ?_)
  refine lv_iload_n (pc := 7) hx hb dX1_checkLigature_7 rfl (lv_at hl 1 rfl) ?_
  refine lv_iconst (v := 0) (pc := 8) hx hb dX1_checkLigature_8 (by decide) ?_
  refine lv_bipush (v := 9) (pc := 9) hx hb dX1_checkLigature_9 (by decide) ?_
  refine k_xv (pc := 11) (vx_runS (As := [.int b, .int 0, .int 9]) (rest := []) ⟨hx, hb, hml, hown, hts⟩ (cX1_checkRange_m l hfl g A σ rest b 0 9) (va_cwS 3 hts gX1_checkLigature_X1_checkRange rfl rfl rfl (by decide +kernel) ⟨Nat.le_of_ble_eq_true rfl, Nat.le_of_ble_eq_true rfl⟩) (cx_S hP hD hA hK hX hS) rfl rfl hl.1 rfl (lv_room (Nat.le_of_ble_eq_true rfl)) dX1_checkLigature_11 ⟨Nat.le_of_ble_eq_true rfl, Nat.le_of_ble_eq_true rfl⟩) hno hlocks (fun E h => ⟨h.1, by unfold inL; rw [hk1, h.2]; rfl⟩) (Nat.le_of_ble_eq_true rfl) (Nat.le_of_ble_eq_true rfl) (fun hk2 => ?_)
  refine lv_iload_n (pc := 14) hx hb dX1_checkLigature_14 rfl (lv_at hl 2 rfl) ?_
  refine lv_iconst (v := (-1)) (pc := 15) hx hb dX1_checkLigature_15 (by decide) ?_
  refine lv_bipush (v := 9) (pc := 16) hx hb dX1_checkLigature_16 (by decide) ?_
  refine k_xv (pc := 18) (vx_runS (As := [.int c0, .int ((-1)), .int 9]) (rest := []) ⟨hx, hb, hml, hown, hts⟩ (cX1_checkRange_m l hfl g A σ rest c0 ((-1)) 9) (va_cwS 3 hts gX1_checkLigature_X1_checkRange rfl rfl rfl (by decide +kernel) ⟨Nat.le_of_ble_eq_true rfl, Nat.le_of_ble_eq_true rfl⟩) (cx_S hP hD hA hK hX hS) rfl rfl hl.1 rfl (lv_room (Nat.le_of_ble_eq_true rfl)) dX1_checkLigature_18 ⟨Nat.le_of_ble_eq_true rfl, Nat.le_of_ble_eq_true rfl⟩) hno hlocks (fun E h => ⟨h.1, by unfold inL; rw [hk1, hk2, h.2]; rfl⟩) (Nat.le_of_ble_eq_true rfl) (Nat.le_of_ble_eq_true rfl) (fun hk3 => ?_)
  refine lv_iload_n (pc := 21) hx hb dX1_checkLigature_21 rfl (lv_at hl 1 rfl) ?_
  refine lv_iload_n (pc := 22) hx hb dX1_checkLigature_22 rfl (lv_at hl 0 rfl) ?_
  refine lv_icmp_eq (tgt := 31) (pc := 23) hx hb dX1_checkLigature_23 (by decide) (fun c1 => ?_) (fun c1 => ?_)
  · refine k_throw (pc := 31) (cls := "java/lang/IllegalArgumentException") (text := "a ligature's note is on the place of the one ahead") (ik := 179) (is := 184) (ic := 183) hx hb hfl hown hts hX (by decide) (by decide +kernel) (by decide) (by decide +kernel) (by decide +kernel) (by decide +kernel) (by decide +kernel) (by decide +kernel) (hl.1.trans hml.symm) dX1_checkLigature_31 dX1_checkLigature_34 dX1_checkLigature_35 dX1_checkLigature_37 dX1_checkLigature_40 hno hlocks (Nat.le_of_ble_eq_true rfl) (Nat.le_of_ble_eq_true rfl) (Nat.le_of_ble_eq_true rfl) (Nat.le_of_ble_eq_true rfl) (Nat.le_of_ble_eq_true rfl) (Nat.le_of_ble_eq_true rfl) ?_
    exact ⟨rfl, by unfold inL; rw [hk1, hk2, hk3]; first | (rw [decide_eq_true c1]; rfl) | (rw [decide_eq_false c1, decide_eq_true c2]; rfl)⟩
  · refine lv_iload_n (pc := 26) hx hb dX1_checkLigature_26 rfl (lv_at hl 2 rfl) ?_
    refine lv_iload_n (pc := 27) hx hb dX1_checkLigature_27 rfl (lv_at hl 1 rfl) ?_
    refine lv_icmp_ne (tgt := 41) (pc := 28) hx hb dX1_checkLigature_28 (by decide) (fun c2 => ?_) (fun c2 => ?_)
    · refine vx_ret ?_
      refine W.widen (k := 4) (n := 24) (Nat.le_of_ble_eq_true rfl) (Nat.le_of_ble_eq_true rfl) ?_
      exact W.vret hx hb hr (fun t ht hW => ⟨rfl, (by unfold inL; rw [hk1, hk2, hk3, decide_eq_false c1, decide_eq_false c2]; rfl), ht⟩) (fun q hq => absurd hq List.not_mem_nil) dX1_checkLigature_41
    · refine k_throw (pc := 31) (cls := "java/lang/IllegalArgumentException") (text := "a ligature's note is on the place of the one ahead") (ik := 179) (is := 184) (ic := 183) hx hb hfl hown hts hX (by decide) (by decide +kernel) (by decide) (by decide +kernel) (by decide +kernel) (by decide +kernel) (by decide +kernel) (by decide +kernel) (hl.1.trans hml.symm) dX1_checkLigature_31 dX1_checkLigature_34 dX1_checkLigature_35 dX1_checkLigature_37 dX1_checkLigature_40 hno hlocks (Nat.le_of_ble_eq_true rfl) (Nat.le_of_ble_eq_true rfl) (Nat.le_of_ble_eq_true rfl) (Nat.le_of_ble_eq_true rfl) (Nat.le_of_ble_eq_true rfl) (Nat.le_of_ble_eq_true rfl) ?_
      exact ⟨rfl, by unfold inL; rw [hk1, hk2, hk3]; first | (rw [decide_eq_true c1]; rfl) | (rw [decide_eq_false c1, decide_eq_true c2]; rfl)⟩
set_option maxHeartbeats 4000000 in
set_option maxRecDepth 100000 in
/-- room for so many signs, or a refusal -/
theorem cX1_checkRoom_m (l : Launch) (hfl : l.stackTraces = false) (g : GA) (A : Nat → Prop) (σ : St) (rest : va_W) (v n0 : Nat) (hv : v < 4) (hC : sC σ v ≤ 24) (hn : n0 ≤ 3) : vx_Met l yX1_checkRoom wsX1_checkRoom ({ frames := 6, cells := 1, slots := 6, locals := 90 }) (va_Pc [.ref (gV g v), .int (nI n0)] (Cx g A (cw g σ ++ rest))) (kSv (sC σ v + n0 ≤ 24)) (kX (fun E => E = eS ∧ ¬ sC σ v + n0 ≤ 24)) 1 6 (fun _ => False) := by
  refine vx_ofW (cc := cX1_checkRoom) (maxL := 2) (ret := none) (by decide) rfl ?_
  intro p e s m args below meth c s₁ B hml hno hv0
  obtain ⟨rfl, hP, hD, hA, hK, hX⟩ := hv0
  have hx := B.exec
  have hb := B.bytes
  have hr := B.returns
  have hts := atoms_spec (ws := wsX1_checkRoom) B.pre
  have hown : s.vm.findClass RX1 = some m.cls := findClass_of_methodNamed B.named
  have hlocks := B.notSynchronized
  have hS : va_S A s.heap s.heap [] := va_S.rf
  have hinX0 : ∀ w ∈ u_ws RX0 TX0 10, w ∈ wsX1_checkRoom := by decide +kernel
  have hl := lv_entry ([.ref (gV g v), .int (nI n0)]) (n := 2) (Nat.le_of_ble_eq_true rfl)
  rw [lg_entry_eq]
  generalize (lg_sl ([.ref (gV g v), .int (nI n0)]) ++ List.replicate (2 - (lg_sl ([.ref (gV g v), .int (nI n0)])).length) Slot.unset).toArray = ls at hl ⊢
  have hl : lv_has ls 2 [(0, .ref (gV g v)), (1, .int (nI n0))] := hl
  refine lv_aload_n (pc := 0) hx hb dX1_checkRoom_0 rfl (lv_at hl 0 rfl) ?_
  refine va_getN (v := .int (nI (sC σ v))) (pc := 1) (D := gD g) (ci := 0) (C := RX0) (T := TX0) (N := 10) hx hb hts hinX0 hown hK hP (2 + 6 * v) (cv0 g σ rest hv) rfl 4 (by decide) (va_Nw.use rfl (nf_64 hX)) (fun _ h9 => h9) rfl dX1_checkRoom_1 ?_
  refine lv_iload_n (pc := 4) hx hb dX1_checkRoom_4 rfl (lv_at hl 1 rfl) ?_
  refine lv_iadd (pc := 5) hx hb dX1_checkRoom_5 ?_
  refine k_cong (y := nI (sC σ v + n0)) (nI_add _ _) ?_
  refine lv_bipush (v := 24) (pc := 6) hx hb dX1_checkRoom_6 (by decide) ?_
  refine lv_icmp_le (tgt := 21) (pc := 8) hx hb dX1_checkRoom_8 (by decide) (fun c1 => ?_) (fun c1 => ?_)
  · have c1 : sC σ v + n0 ≤ 24 := (nI_leI (a := sC σ v + n0) (b := 24) (by omega) (by omega)).mp c1
    refine vx_ret ?_
    refine W.widen (k := 1) (n := 6) (Nat.le_of_ble_eq_true rfl) (Nat.le_of_ble_eq_true rfl) ?_
    exact W.vret hx hb hr (fun t ht hW => ⟨rfl, c1, ht⟩) (fun q hq => absurd hq List.not_mem_nil) dX1_checkRoom_21
  · have c1 : ¬ (sC σ v + n0 ≤ 24) := fun z => c1 ((nI_leI (a := sC σ v + n0) (b := 24) (by omega) (by omega)).mpr z)
    refine k_throw (pc := 11) (cls := "java/lang/IllegalStateException") (text := "the voice has no room for so many signs") (ik := 24) (is := 186) (ic := 28) hx hb hfl hown hts hX (by decide) (by decide +kernel) (by decide) (by decide +kernel) (by decide +kernel) (by decide +kernel) (by decide +kernel) (by decide +kernel) (hl.1.trans hml.symm) dX1_checkRoom_11 dX1_checkRoom_14 dX1_checkRoom_15 dX1_checkRoom_17 dX1_checkRoom_20 hno hlocks (Nat.le_of_ble_eq_true rfl) (Nat.le_of_ble_eq_true rfl) (Nat.le_of_ble_eq_true rfl) (Nat.le_of_ble_eq_true rfl) (Nat.le_of_ble_eq_true rfl) (Nat.le_of_ble_eq_true rfl) ?_
    exact ⟨rfl, c1⟩
set_option maxHeartbeats 4000000 in
set_option maxRecDepth 100000 in
/-- a clef, or a refusal -/
theorem cX1_checkHasClef_m (l : Launch) (hfl : l.stackTraces = false) (g : GA) (A : Nat → Prop) (σ : St) (rest : va_W) (v : Nat) (hv : v < 4) : vx_Met l yX1_checkHasClef wsX1_checkHasClef ({ frames := 6, cells := 1, slots := 6, locals := 90 }) (va_Pc [.ref (gV g v)] (Cx g A (cw g σ ++ rest))) (kSv (¬ sL σ v = -1)) (kX (fun E => E = eS ∧ sL σ v = -1)) 1 6 (fun _ => False) := by
  refine vx_ofW (cc := cX1_checkHasClef) (maxL := 1) (ret := none) (by decide) rfl ?_
  intro p e s m args below meth c s₁ B hml hno hv0
  obtain ⟨rfl, hP, hD, hA, hK, hX⟩ := hv0
  have hx := B.exec
  have hb := B.bytes
  have hr := B.returns
  have hts := atoms_spec (ws := wsX1_checkHasClef) B.pre
  have hown : s.vm.findClass RX1 = some m.cls := findClass_of_methodNamed B.named
  have hlocks := B.notSynchronized
  have hS : va_S A s.heap s.heap [] := va_S.rf
  have hinX0 : ∀ w ∈ u_ws RX0 TX0 10, w ∈ wsX1_checkHasClef := by decide +kernel
  have hl := lv_entry ([.ref (gV g v)]) (n := 1) (Nat.le_of_ble_eq_true rfl)
  rw [lg_entry_eq]
  generalize (lg_sl ([.ref (gV g v)]) ++ List.replicate (1 - (lg_sl ([.ref (gV g v)])).length) Slot.unset).toArray = ls at hl ⊢
  have hl : lv_has ls 1 [(0, .ref (gV g v))] := hl
  refine lv_aload_n (pc := 0) hx hb dX1_checkHasClef_0 rfl (lv_at hl 0 rfl) ?_
  refine va_getN (v := .int (sL σ v)) (pc := 1) (D := gD g) (ci := 0) (C := RX0) (T := TX0) (N := 10) hx hb hts hinX0 hown hK hP (2 + 6 * v) (cv0 g σ rest hv) rfl 3 (by decide) (va_Nw.use rfl (nf_86 hX)) (fun _ h9 => h9) rfl dX1_checkHasClef_1 ?_
  refine lv_iconst (v := (-1)) (pc := 4) hx hb dX1_checkHasClef_4 (by decide) ?_
  refine lv_icmp_ne (tgt := 18) (pc := 5) hx hb dX1_checkHasClef_5 (by decide) (fun c1 => ?_) (fun c1 => ?_)
  · refine vx_ret ?_
    refine W.widen (k := 1) (n := 6) (Nat.le_of_ble_eq_true rfl) (Nat.le_of_ble_eq_true rfl) ?_
    exact W.vret hx hb hr (fun t ht hW => ⟨rfl, c1, ht⟩) (fun q hq => absurd hq List.not_mem_nil) dX1_checkHasClef_18
  · refine k_throw (pc := 8) (cls := "java/lang/IllegalStateException") (text := "the clef is missing") (ik := 24) (is := 188) (ic := 28) hx hb hfl hown hts hX (by decide) (by decide +kernel) (by decide) (by decide +kernel) (by decide +kernel) (by decide +kernel) (by decide +kernel) (by decide +kernel) (hl.1.trans hml.symm) dX1_checkHasClef_8 dX1_checkHasClef_11 dX1_checkHasClef_12 dX1_checkHasClef_14 dX1_checkHasClef_17 hno hlocks (Nat.le_of_ble_eq_true rfl) (Nat.le_of_ble_eq_true rfl) (Nat.le_of_ble_eq_true rfl) (Nat.le_of_ble_eq_true rfl) (Nat.le_of_ble_eq_true rfl) (Nat.le_of_ble_eq_true rfl) ?_
    exact ⟨rfl, c1⟩
set_option maxHeartbeats 4000000 in
set_option maxRecDepth 100000 in
/-- the kind of the last note -/
theorem cX1_lastKind_m (l : Launch) (g : GA) (A : Nat → Prop) (σ : St) (rest : va_W) (a b : Int32) : Met l yX1_lastKind wsX1_lastKind ({ frames := 0, cells := 0, slots := 0, locals := 0 }) (va_Pc [.int a, .int b] (Cx g A (cw g σ ++ rest))) (vp_Si (fun r : Int32 => r = nI (lk a b))) 0 0 (fun _ => False) := by
  refine Met.ofW (cc := cX1_lastKind) (maxL := 2) (ret := (some .int)) (by decide) rfl ?_
  intro p e s m args below meth c s₁ B hml hv0
  obtain ⟨rfl, hP, hD, hA, hK, hX⟩ := hv0
  have hx := B.exec
  have hb := B.bytes
  have hr := B.returns
  have hts := atoms_spec (ws := wsX1_lastKind) B.pre
  have hown : s.vm.findClass RX1 = some m.cls := findClass_of_methodNamed B.named
  have hlocks := B.notSynchronized
  have hS : va_S A s.heap s.heap [] := va_S.rf
  have hl := lv_entry ([.int a, .int b]) (n := 2) (Nat.le_of_ble_eq_true rfl)
  rw [lg_entry_eq]
  generalize (lg_sl ([.int a, .int b]) ++ List.replicate (2 - (lg_sl ([.int a, .int b])).length) Slot.unset).toArray = ls at hl ⊢
  have hl : lv_has ls 2 [(0, .int a), (1, .int b)] := hl
  refine lv_iload_n (pc := 0) hx hb dX1_lastKind_0 rfl (lv_at hl 1 rfl) ?_
  refine lv_iload_n (pc := 1) hx hb dX1_lastKind_1 rfl (lv_at hl 0 rfl) ?_
  refine lv_icmp_ge (tgt := 9) (pc := 2) hx hb dX1_lastKind_2 (by decide) (fun c1 => ?_) (fun c1 => ?_)
  · refine lv_iconst (v := 1) (pc := 9) hx hb dX1_lastKind_9 (by decide) ?_
    exact W.iret hx hb hr (fun t ht hW => ⟨_, rfl, (by unfold lk; first | (rw [if_pos (Int32.not_le.mp c1)]; rfl) | (rw [if_neg (Int32.not_lt.mpr c1)]; rfl)), ht⟩) (fun q hq => absurd hq List.not_mem_nil) dX1_lastKind_10
  · refine lv_iconst (v := 0) (pc := 5) hx hb dX1_lastKind_5 (by decide) ?_
    refine lv_goto (tgt := 10) (pc := 6) hx hb dX1_lastKind_6 (by decide) ?_
    exact W.iret hx hb hr (fun t ht hW => ⟨_, rfl, (by unfold lk; first | (rw [if_pos (Int32.not_le.mp c1)]; rfl) | (rw [if_neg (Int32.not_lt.mpr c1)]; rfl)), ht⟩) (fun q hq => absurd hq List.not_mem_nil) dX1_lastKind_10
set_option maxHeartbeats 4000000 in
set_option maxRecDepth 100000 in
/-- the kind of the first note -/
theorem cX1_firstKind_m (l : Launch) (g : GA) (A : Nat → Prop) (σ : St) (rest : va_W) (a b : Int32) (z : Bool) : Met l yX1_firstKind wsX1_firstKind ({ frames := 1, cells := 0, slots := 0, locals := 21 }) (va_Pc [.int a, .int b, .int (bI z)] (Cx g A (cw g σ ++ rest))) (vp_Si (fun r : Int32 => r = nI (lg1 a b z))) 0 0 (fun _ => False) := by
  refine Met.ofW (cc := cX1_firstKind) (maxL := 3) (ret := (some .int)) (by decide) rfl ?_
  intro p e s m args below meth c s₁ B hml hv0
  obtain ⟨rfl, hP, hD, hA, hK, hX⟩ := hv0
  have hx := B.exec
  have hb := B.bytes
  have hr := B.returns
  have hts := atoms_spec (ws := wsX1_firstKind) B.pre
  have hown : s.vm.findClass RX1 = some m.cls := findClass_of_methodNamed B.named
  have hlocks := B.notSynchronized
  have hS : va_S A s.heap s.heap [] := va_S.rf
  have hl := lv_entry ([.int a, .int b, .int (bI z)]) (n := 3) (Nat.le_of_ble_eq_true rfl)
  rw [lg_entry_eq]
  generalize (lg_sl ([.int a, .int b, .int (bI z)]) ++ List.replicate (3 - (lg_sl ([.int a, .int b, .int (bI z)])).length) Slot.unset).toArray = ls at hl ⊢
  have hl : lv_has ls 3 [(0, .int a), (1, .int b), (2, .int (bI z))] := hl
  refine lv_iload_n (pc := 0) hx hb dX1_firstKind_0 rfl (lv_at hl 2 rfl) ?_
  refine lv_if_eq (tgt := 8) (pc := 1) hx hb dX1_firstKind_1 (by decide) (fun c1 => ?_) (fun c1 => ?_)
  · have c1 := bI_0.mp c1
    refine lv_iload_n (pc := 8) hx hb dX1_firstKind_8 rfl (lv_at hl 0 rfl) ?_
    refine lv_iload_n (pc := 9) hx hb dX1_firstKind_9 rfl (lv_at hl 1 rfl) ?_
    refine k_ri (pc := 10) (va_runS (As := [.int a, .int b]) (rest := []) ⟨hx, hb, hml, hown, hts⟩ (cX1_lastKind_m l g A σ rest a b) (va_cwS 2 hts gX1_firstKind_X1_lastKind rfl rfl rfl (by decide +kernel) ⟨Nat.le_of_ble_eq_true rfl, Nat.le_of_ble_eq_true rfl⟩) (cx_S hP hD hA hK hX hS) rfl rfl hl.1 rfl (lv_room (Nat.le_of_ble_eq_true rfl)) dX1_firstKind_10 ⟨Nat.le_of_ble_eq_true rfl, Nat.le_of_ble_eq_true rfl⟩) (fun r_2 hr_2 => ?_)
    subst hr_2
    exact W.iret hx hb hr (fun t ht hW => ⟨_, rfl, (by unfold lg1; rw [c1]; rfl), ht⟩) (fun q hq => absurd hq List.not_mem_nil) dX1_firstKind_13
  · have c1 := bI_n0.mp c1
    refine lv_iconst (v := 2) (pc := 4) hx hb dX1_firstKind_4 (by decide) ?_
    refine lv_goto (tgt := 13) (pc := 5) hx hb dX1_firstKind_5 (by decide) ?_
    exact W.iret hx hb hr (fun t ht hW => ⟨_, rfl, (by unfold lg1; rw [c1]; rfl), ht⟩) (fun q hq => absurd hq List.not_mem_nil) dX1_firstKind_13
set_option maxHeartbeats 4000000 in
set_option maxRecDepth 100000 in
/-- the kind of the second note -/
theorem cX1_secondKind_m (l : Launch) (g : GA) (A : Nat → Prop) (σ : St) (rest : va_W) (a b : Int32) (y z : Bool) : Met l yX1_secondKind wsX1_secondKind ({ frames := 1, cells := 0, slots := 0, locals := 21 }) (va_Pc [.int a, .int b, .int (bI y), .int (bI z)] (Cx g A (cw g σ ++ rest))) (vp_Si (fun r : Int32 => r = nI (lg2 a b y z))) 0 0 (fun _ => False) := by
  refine Met.ofW (cc := cX1_secondKind) (maxL := 4) (ret := (some .int)) (by decide) rfl ?_
  intro p e s m args below meth c s₁ B hml hv0
  obtain ⟨rfl, hP, hD, hA, hK, hX⟩ := hv0
  have hx := B.exec
  have hb := B.bytes
  have hr := B.returns
  have hts := atoms_spec (ws := wsX1_secondKind) B.pre
  have hown : s.vm.findClass RX1 = some m.cls := findClass_of_methodNamed B.named
  have hlocks := B.notSynchronized
  have hS : va_S A s.heap s.heap [] := va_S.rf
  have hl := lv_entry ([.int a, .int b, .int (bI y), .int (bI z)]) (n := 4) (Nat.le_of_ble_eq_true rfl)
  rw [lg_entry_eq]
  generalize (lg_sl ([.int a, .int b, .int (bI y), .int (bI z)]) ++ List.replicate (4 - (lg_sl ([.int a, .int b, .int (bI y), .int (bI z)])).length) Slot.unset).toArray = ls at hl ⊢
  have hl : lv_has ls 4 [(0, .int a), (1, .int b), (2, .int (bI y)), (3, .int (bI z))] := hl
  refine lv_iload_n (pc := 0) hx hb dX1_secondKind_0 rfl (lv_at hl 3 rfl) ?_
  refine lv_if_eq (tgt := 6) (pc := 1) hx hb dX1_secondKind_1 (by decide) (fun c1 => ?_) (fun c1 => ?_)
  · have c1 := bI_0.mp c1
    refine lv_iload_n (pc := 6) hx hb dX1_secondKind_6 rfl (lv_at hl 2 rfl) ?_
    refine lv_if_eq (tgt := 14) (pc := 7) hx hb dX1_secondKind_7 (by decide) (fun c2 => ?_) (fun c2 => ?_)
    · have c2 := bI_0.mp c2
      refine lv_iload_n (pc := 14) hx hb dX1_secondKind_14 rfl (lv_at hl 0 rfl) ?_
      refine lv_iload_n (pc := 15) hx hb dX1_secondKind_15 rfl (lv_at hl 1 rfl) ?_
      refine k_ri (pc := 16) (va_runS (As := [.int a, .int b]) (rest := []) ⟨hx, hb, hml, hown, hts⟩ (cX1_lastKind_m l g A σ rest a b) (va_cwS 2 hts gX1_secondKind_X1_lastKind rfl rfl rfl (by decide +kernel) ⟨Nat.le_of_ble_eq_true rfl, Nat.le_of_ble_eq_true rfl⟩) (cx_S hP hD hA hK hX hS) rfl rfl hl.1 rfl (lv_room (Nat.le_of_ble_eq_true rfl)) dX1_secondKind_16 ⟨Nat.le_of_ble_eq_true rfl, Nat.le_of_ble_eq_true rfl⟩) (fun r_3 hr_3 => ?_)
      subst hr_3
      exact W.iret hx hb hr (fun t ht hW => ⟨_, rfl, (by unfold lg2; first | (rw [c1, c2]; rfl) | (rw [c1]; rfl)), ht⟩) (fun q hq => absurd hq List.not_mem_nil) dX1_secondKind_19
    · have c2 := bI_n0.mp c2
      refine lv_iconst (v := 1) (pc := 10) hx hb dX1_secondKind_10 (by decide) ?_
      refine lv_goto (tgt := 19) (pc := 11) hx hb dX1_secondKind_11 (by decide) ?_
      exact W.iret hx hb hr (fun t ht hW => ⟨_, rfl, (by unfold lg2; first | (rw [c1, c2]; rfl) | (rw [c1]; rfl)), ht⟩) (fun q hq => absurd hq List.not_mem_nil) dX1_secondKind_19
  · have c1 := bI_n0.mp c1
    refine lv_iconst (v := 2) (pc := 4) hx hb dX1_secondKind_4 (by decide) ?_
    exact W.iret hx hb hr (fun t ht hW => ⟨_, rfl, (by unfold lg2; first | (rw [c1, c2]; rfl) | (rw [c1]; rfl)), ht⟩) (fun q hq => absurd hq List.not_mem_nil) dX1_secondKind_5
set_option maxHeartbeats 4000000 in
set_option maxRecDepth 100000 in
/-- whether two signs clash -/
theorem cX1_signsClash_m (l : Launch) (g : GA) (A : Nat → Prop) (σ : St) (rest : va_W) (v w i0 j0 : Nat) (u0 : Int32) (hv : v < 4) (hw : w < 4) (hi : i0 < 24) (hj : j0 < 24) : Met l yX1_signsClash wsX1_signsClash ({ frames := 1, cells := 0, slots := 0, locals := 21 }) (va_Pc [.ref (gV g v), .int (nI i0), .ref (gV g w), .int (nI j0), .int u0] (Cx g A (cw g σ ++ rest))) (vp_Si (fun r : Int32 => r = bI (cls (sP σ v i0) (sP σ w j0) u0))) 0 0 (fun _ => False) := by
  refine Met.ofW (cc := cX1_signsClash) (maxL := 6) (ret := (some .boolean)) (by decide) rfl ?_
  intro p e s m args below meth c s₁ B hml hv0
  obtain ⟨rfl, hP, hD, hA, hK, hX⟩ := hv0
  have hx := B.exec
  have hb := B.bytes
  have hr := B.returns
  have hts := atoms_spec (ws := wsX1_signsClash) B.pre
  have hown : s.vm.findClass RX1 = some m.cls := findClass_of_methodNamed B.named
  have hlocks := B.notSynchronized
  have hS : va_S A s.heap s.heap [] := va_S.rf
  have hinX0 : ∀ w ∈ u_ws RX0 TX0 10, w ∈ wsX1_signsClash := by decide +kernel
  have hl := lv_entry ([.ref (gV g v), .int (nI i0), .ref (gV g w), .int (nI j0), .int u0]) (n := 6) (Nat.le_of_ble_eq_true rfl)
  rw [lg_entry_eq]
  generalize (lg_sl ([.ref (gV g v), .int (nI i0), .ref (gV g w), .int (nI j0), .int u0]) ++ List.replicate (6 - (lg_sl ([.ref (gV g v), .int (nI i0), .ref (gV g w), .int (nI j0), .int u0])).length) Slot.unset).toArray = ls at hl ⊢
  have hl : lv_has ls 6 [(0, .ref (gV g v)), (1, .int (nI i0)), (2, .ref (gV g w)), (3, .int (nI j0)), (4, .int u0)] := hl
  refine lv_aload_n (pc := 0) hx hb dX1_signsClash_0 rfl (lv_at hl 0 rfl) ?_
  refine lv_iload_n (pc := 1) hx hb dX1_signsClash_1 rfl (lv_at hl 1 rfl) ?_
  refine k_ri (pc := 2) (va_runVN (As := [.int (nI i0)]) (rest := []) ⟨hx, hb, hml, hown, hts⟩ (cX0_isRest_m l g A σ rest v i0 hv (by omega)) ⟨va_cnB 1 hts gX1_signsClash_X0_isRest_n77 rfl rfl rfl (nm_77 hX) (hts (.initialized RX0) (by decide +kernel)) (by decide +kernel) ⟨Nat.le_of_ble_eq_true rfl, Nat.le_of_ble_eq_true rfl⟩, hts (.instanceMethod yX0_isRest) (by decide +kernel), hts (.selects RX0 yX0_isRest yX0_isRest) (by decide +kernel)⟩ (cx_V (q0 := (2 + 6 * v)) (ci := 0) (r := (RX0, TX0, 10)) rfl (cv0 g σ rest hv) hP hD hA hK hX hS) rfl rfl hl.1 rfl (lv_room (Nat.le_of_ble_eq_true rfl)) dX1_signsClash_2 ⟨Nat.le_of_ble_eq_true rfl, Nat.le_of_ble_eq_true rfl⟩) (fun r_1 hr_1 => ?_)
  subst hr_1
  refine lv_if_ne (tgt := 16) (pc := 5) hx hb dX1_signsClash_5 (by decide) (fun c1 => ?_) (fun c1 => ?_)
  · have c1 : isNt σ v i0 = false := by simpa using bI_n0.mp c1
    refine lv_iconst (v := 0) (pc := 16) hx hb dX1_signsClash_16 (by decide) ?_
    exact W.zret (v := 0) hx hb hr rfl (fun t ht hW => ⟨_, rfl, (by first | (rw [cls_1 c1]; rfl) | (rw [cls_2 c2]; rfl)), ht⟩) (fun q hq => absurd hq List.not_mem_nil) dX1_signsClash_17
  · have c1 : isNt σ v i0 = true := by simpa using bI_0.mp c1
    refine lv_aload_n (pc := 8) hx hb dX1_signsClash_8 rfl (lv_at hl 2 rfl) ?_
    refine lv_iload_n (pc := 9) hx hb dX1_signsClash_9 rfl (lv_at hl 3 rfl) ?_
    refine k_ri (pc := 10) (va_runVN (As := [.int (nI j0)]) (rest := []) ⟨hx, hb, hml, hown, hts⟩ (cX0_isRest_m l g A σ rest w j0 hw (by omega)) ⟨va_cnB 1 hts gX1_signsClash_X0_isRest_n77 rfl rfl rfl (nm_77 hX) (hts (.initialized RX0) (by decide +kernel)) (by decide +kernel) ⟨Nat.le_of_ble_eq_true rfl, Nat.le_of_ble_eq_true rfl⟩, hts (.instanceMethod yX0_isRest) (by decide +kernel), hts (.selects RX0 yX0_isRest yX0_isRest) (by decide +kernel)⟩ (cx_V (q0 := (2 + 6 * w)) (ci := 0) (r := (RX0, TX0, 10)) rfl (cv0 g σ rest hw) hP hD hA hK hX hS) rfl rfl hl.1 rfl (lv_room (Nat.le_of_ble_eq_true rfl)) dX1_signsClash_10 ⟨Nat.le_of_ble_eq_true rfl, Nat.le_of_ble_eq_true rfl⟩) (fun r_3 hr_3 => ?_)
    subst hr_3
    refine lv_if_eq (tgt := 18) (pc := 13) hx hb dX1_signsClash_13 (by decide) (fun c2 => ?_) (fun c2 => ?_)
    · have c2 : isNt σ w j0 = true := by simpa using bI_0.mp c2
      refine lv_aload_n (pc := 18) hx hb dX1_signsClash_18 rfl (lv_at hl 0 rfl) ?_
      refine va_getN (v := .ref (gA g v 1)) (pc := 19) (D := gD g) (ci := 0) (C := RX0) (T := TX0) (N := 10) hx hb hts hinX0 hown hK hP (2 + 6 * v) (cv0 g σ rest hv) rfl 6 (by decide) (va_Nw.use rfl (nf_102 hX)) (fun _ h9 => h9) rfl dX1_signsClash_19 ?_
      refine lv_iload_n (pc := 22) hx hb dX1_signsClash_22 rfl (lv_at hl 1 rfl) ?_
      refine k_iald (pc := 23) (x := sP σ v i0) hx hb hK hP (4 + 6 * v) 0 (cv2 g σ rest hv) rfl i0 rfl (by omega) (by decide) rfl dX1_signsClash_23 ?_
      refine lv_aload_n (pc := 24) hx hb dX1_signsClash_24 rfl (lv_at hl 2 rfl) ?_
      refine va_getN (v := .ref (gA g w 1)) (pc := 25) (D := gD g) (ci := 0) (C := RX0) (T := TX0) (N := 10) hx hb hts hinX0 hown hK hP (2 + 6 * w) (cv0 g σ rest hw) rfl 6 (by decide) (va_Nw.use rfl (nf_102 hX)) (fun _ h9 => h9) rfl dX1_signsClash_25 ?_
      refine lv_iload_n (pc := 28) hx hb dX1_signsClash_28 rfl (lv_at hl 3 rfl) ?_
      refine k_iald (pc := 29) (x := sP σ w j0) hx hb hK hP (4 + 6 * w) 0 (cv2 g σ rest hw) rfl j0 rfl (by omega) (by decide) rfl dX1_signsClash_29 ?_
      refine lv_isub (pc := 30) hx hb dX1_signsClash_30 ?_
      refine lv_iload (pc := 31) hx hb dX1_signsClash_31 (lv_at hl 4 rfl) ?_
      refine lv_isub (pc := 33) hx hb dX1_signsClash_33 ?_
      refine va_mabs (pc := 34) hx hb (hml.trans hl.1.symm) hown (hts (.methodLink RX1 197 Lib.Math.abs.name) (by decide +kernel)) (hts (.static Lib.Math.abs.name) (by decide +kernel)) (hts (.initialized "java/lang/Math") (by decide +kernel)) (hts (.code Lib.Math.abs.name Lib.Math.abs.code 1 (some .int)) (by decide +kernel)) (Nat.le_of_ble_eq_true rfl) (Nat.le_of_ble_eq_true rfl) (Nat.le_of_ble_eq_true rfl) (Nat.le_of_ble_eq_true rfl) dX1_signsClash_34 ?_
      refine lv_bipush (v := 7) (pc := 37) hx hb dX1_signsClash_37 (by decide) ?_
      refine lv_irem (pc := 39) hx hb dX1_signsClash_39 (by decide) ?_
      refine k_cong (y := rs7 (sP σ v i0 - sP σ w j0 - u0)) rfl ?_
      refine lv_istore (lv' := [(5, .int (rs7 (sP σ v i0 - sP σ w j0 - u0))), (0, .ref (gV g v)), (1, .int (nI i0)), (2, .ref (gV g w)), (3, .int (nI j0)), (4, .int u0)]) (pc := 40) hx hb dX1_signsClash_40 hl (by decide) rfl (fun ls hl => ?_)
      refine lv_iload (pc := 42) hx hb dX1_signsClash_42 (lv_at hl 0 rfl) ?_
      refine lv_iconst (v := 1) (pc := 44) hx hb dX1_signsClash_44 (by decide) ?_
      refine lv_icmp_eq (tgt := 61) (pc := 45) hx hb dX1_signsClash_45 (by decide) (fun c3 => ?_) (fun c3 => ?_)
      · refine lv_iconst (v := 1) (pc := 61) hx hb dX1_signsClash_61 (by decide) ?_
        refine lv_goto (tgt := 66) (pc := 62) hx hb dX1_signsClash_62 (by decide) ?_
        exact W.zret (v := 1) hx hb hr rfl (fun t ht hW => ⟨_, rfl, (by rw [cls_3 c1 c2]; unfold isCl; first | (rw [decide_eq_true c3]; rfl) | (rw [decide_eq_false c3, decide_eq_true c4]; rfl) | (rw [decide_eq_false c3, decide_eq_false c4, decide_eq_true c5]; rfl) | (rw [decide_eq_false c3, decide_eq_false c4, decide_eq_false c5]; rfl)), ht⟩) (fun q hq => absurd hq List.not_mem_nil) dX1_signsClash_66
      · refine lv_iload (pc := 48) hx hb dX1_signsClash_48 (lv_at hl 0 rfl) ?_
        refine lv_iconst (v := 3) (pc := 50) hx hb dX1_signsClash_50 (by decide) ?_
        refine lv_icmp_eq (tgt := 61) (pc := 51) hx hb dX1_signsClash_51 (by decide) (fun c4 => ?_) (fun c4 => ?_)
        · refine lv_iconst (v := 1) (pc := 61) hx hb dX1_signsClash_61 (by decide) ?_
          refine lv_goto (tgt := 66) (pc := 62) hx hb dX1_signsClash_62 (by decide) ?_
          exact W.zret (v := 1) hx hb hr rfl (fun t ht hW => ⟨_, rfl, (by rw [cls_3 c1 c2]; unfold isCl; first | (rw [decide_eq_true c3]; rfl) | (rw [decide_eq_false c3, decide_eq_true c4]; rfl) | (rw [decide_eq_false c3, decide_eq_false c4, decide_eq_true c5]; rfl) | (rw [decide_eq_false c3, decide_eq_false c4, decide_eq_false c5]; rfl)), ht⟩) (fun q hq => absurd hq List.not_mem_nil) dX1_signsClash_66
        · refine lv_iload (pc := 54) hx hb dX1_signsClash_54 (lv_at hl 0 rfl) ?_
          refine lv_bipush (v := 6) (pc := 56) hx hb dX1_signsClash_56 (by decide) ?_
          refine lv_icmp_ne (tgt := 65) (pc := 58) hx hb dX1_signsClash_58 (by decide) (fun c5 => ?_) (fun c5 => ?_)
          · refine lv_iconst (v := 0) (pc := 65) hx hb dX1_signsClash_65 (by decide) ?_
            exact W.zret (v := 0) hx hb hr rfl (fun t ht hW => ⟨_, rfl, (by rw [cls_3 c1 c2]; unfold isCl; first | (rw [decide_eq_true c3]; rfl) | (rw [decide_eq_false c3, decide_eq_true c4]; rfl) | (rw [decide_eq_false c3, decide_eq_false c4, decide_eq_true c5]; rfl) | (rw [decide_eq_false c3, decide_eq_false c4, decide_eq_false c5]; rfl)), ht⟩) (fun q hq => absurd hq List.not_mem_nil) dX1_signsClash_66
          · refine lv_iconst (v := 1) (pc := 61) hx hb dX1_signsClash_61 (by decide) ?_
            refine lv_goto (tgt := 66) (pc := 62) hx hb dX1_signsClash_62 (by decide) ?_
            exact W.zret (v := 1) hx hb hr rfl (fun t ht hW => ⟨_, rfl, (by rw [cls_3 c1 c2]; unfold isCl; first | (rw [decide_eq_true c3]; rfl) | (rw [decide_eq_false c3, decide_eq_true c4]; rfl) | (rw [decide_eq_false c3, decide_eq_false c4, decide_eq_true c5]; rfl) | (rw [decide_eq_false c3, decide_eq_false c4, decide_eq_false c5]; rfl)), ht⟩) (fun q hq => absurd hq List.not_mem_nil) dX1_signsClash_66
    · have c2 : isNt σ w j0 = false := by simpa using bI_n0.mp c2
      refine lv_iconst (v := 0) (pc := 16) hx hb dX1_signsClash_16 (by decide) ?_
      exact W.zret (v := 0) hx hb hr rfl (fun t ht hW => ⟨_, rfl, (by first | (rw [cls_1 c1]; rfl) | (rw [cls_2 c2]; rfl)), ht⟩) (fun q hq => absurd hq List.not_mem_nil) dX1_signsClash_17
