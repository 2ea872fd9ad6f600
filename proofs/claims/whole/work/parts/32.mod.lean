/-! THE REFERENCE: what reads alone -/
theorem cntI_z {p : Nat → Bool} {n : Nat} {x : Int32} (hx : x = nI (cnt p n)) (h : p n = false) : x + 0 = nI (cnt p (n + 1)) := by
  rw [Int32.add_zero]; exact cntI_f hx h
section CN
variable {σ : St} {v d t : Nat} {u x y : Int32}
theorem cn_pre : cnt (clT σ v v d u) d = 0 := by
  have := cnt_seg (F := clT σ v v d u) (q := false) (a := 0) (n := d) (fun t _ h => clT_pre (by omega))
  rw [show 0 + d = d by omega] at this
  rw [this]; rfl
theorem cn_end {i : Nat} (h : i = max (len σ v) d) : cnt (clT σ v v d u) i = clN σ v v d u := by
  subst h
  exact cnt_const (fun t ht => clT_outA ht) (by omega)
theorem cn_t (hd : d ≤ t) (h1 : ¬ x = -1) (h2 : ¬ y = -1) (hx : x = plc σ v t) (hy : y = plc σ v (t - d)) (h : isCl (x - y - u) = true) : clT σ v v d u t = true := by
  unfold clT
  rw [decide_eq_true hd, ← hx, ← hy, cls_c h1 h2, h]; rfl
theorem cn_n (hd : d ≤ t) (h1 : ¬ x = -1) (h2 : ¬ y = -1) (hx : x = plc σ v t) (hy : y = plc σ v (t - d)) (h : isCl (x - y - u) = false) : clT σ v v d u t = false := by
  unfold clT
  rw [decide_eq_true hd, ← hx, ← hy, cls_c h1 h2, h]; rfl
theorem cn_a (h1 : x = -1) (hx : x = plc σ v t) : clT σ v v d u t = false := by
  unfold clT
  rw [← hx, h1, cls_l, Bool.and_false]
theorem cn_b (h1 : y = -1) (hy : y = plc σ v (t - d)) : clT σ v v d u t = false := by
  unfold clT
  rw [← hy, h1, cls_r, Bool.and_false]
end CN
set_option maxHeartbeats 4000000 in
set_option maxRecDepth 100000 in
/-- a number in its range -/
theorem cX2_isIn_m (l : Launch) (g : GA) (A : Nat → Prop) (σ : St) (rest : va_W) (th : Int32) (mi ti : Nat → Int32) (a lo hi : Int32) : Met l yX2_isIn wsX2_isIn ({ frames := 0, cells := 0, slots := 0, locals := 0 }) (va_Pc [.int a, .int lo, .int hi] (Cx g A (mw g σ th mi ti ++ rest))) (vp_Si (fun r : Int32 => r = bI (inr lo hi a))) 0 0 (fun _ => False) := by
  refine Met.ofW (cc := cX2_isIn) (maxL := 3) (ret := (some .boolean)) (by decide) rfl ?_
  intro p e s m args below meth c s₁ B hml hv0
  obtain ⟨rfl, hP, hD, hA, hK, hX⟩ := hv0
  have hx := B.exec
  have hb := B.bytes
  have hr := B.returns
  have hts := atoms_spec (ws := wsX2_isIn) B.pre
  have hown : s.vm.findClass RX2 = some m.cls := findClass_of_methodNamed B.named
  have hlocks := B.notSynchronized
  have hS : va_S A s.heap s.heap [] := va_S.rf
  have hl := lv_entry ([.int a, .int lo, .int hi]) (n := 3) (Nat.le_of_ble_eq_true rfl)
  rw [lg_entry_eq]
  generalize (lg_sl ([.int a, .int lo, .int hi]) ++ List.replicate (3 - (lg_sl ([.int a, .int lo, .int hi])).length) Slot.unset).toArray = ls at hl ⊢
  have hl : lv_has ls 3 [(0, .int a), (1, .int lo), (2, .int hi)] := hl
  refine lv_iload_n (pc := 0) hx hb dX2_isIn_0 rfl (lv_at hl 0 rfl) ?_
  refine lv_iload_n (pc := 1) hx hb dX2_isIn_1 rfl (lv_at hl 1 rfl) ?_
  refine lv_icmp_lt (tgt := 14) (pc := 2) hx hb dX2_isIn_2 (by decide) (fun c1 => ?_) (fun c1 => ?_)
  · refine lv_iconst (v := 0) (pc := 14) hx hb dX2_isIn_14 (by decide) ?_
    exact W.zret (v := 0) hx hb hr rfl (fun t ht hW => ⟨_, rfl, (by first | (rw [inr_f1 c1]; rfl) | (rw [inr_f2 (Int32.not_le.mpr c2)]; rfl) | (rw [inr_t c1 (Int32.not_lt.mp c2)]; rfl)), ht⟩) (fun q hq => absurd hq List.not_mem_nil) dX2_isIn_15
  · refine lv_iload_n (pc := 5) hx hb dX2_isIn_5 rfl (lv_at hl 0 rfl) ?_
    refine lv_iload_n (pc := 6) hx hb dX2_isIn_6 rfl (lv_at hl 2 rfl) ?_
    refine lv_icmp_gt (tgt := 14) (pc := 7) hx hb dX2_isIn_7 (by decide) (fun c2 => ?_) (fun c2 => ?_)
    · refine lv_iconst (v := 0) (pc := 14) hx hb dX2_isIn_14 (by decide) ?_
      exact W.zret (v := 0) hx hb hr rfl (fun t ht hW => ⟨_, rfl, (by first | (rw [inr_f1 c1]; rfl) | (rw [inr_f2 (Int32.not_le.mpr c2)]; rfl) | (rw [inr_t c1 (Int32.not_lt.mp c2)]; rfl)), ht⟩) (fun q hq => absurd hq List.not_mem_nil) dX2_isIn_15
    · refine lv_iconst (v := 1) (pc := 10) hx hb dX2_isIn_10 (by decide) ?_
      refine lv_goto (tgt := 15) (pc := 11) hx hb dX2_isIn_11 (by decide) ?_
      exact W.zret (v := 1) hx hb hr rfl (fun t ht hW => ⟨_, rfl, (by first | (rw [inr_f1 c1]; rfl) | (rw [inr_f2 (Int32.not_le.mpr c2)]; rfl) | (rw [inr_t c1 (Int32.not_lt.mp c2)]; rfl)), ht⟩) (fun q hq => absurd hq List.not_mem_nil) dX2_isIn_15
set_option maxHeartbeats 4000000 in
set_option maxRecDepth 100000 in
/-- a voice of this number -/
theorem cX2_isVoice_m (l : Launch) (g : GA) (A : Nat → Prop) (σ : St) (rest : va_W) (th : Int32) (mi ti : Nat → Int32) (p0 : Int32) (hI : Inv σ) : Met l yX2_isVoice wsX2_isVoice ({ frames := 1, cells := 0, slots := 0, locals := 22 }) (va_Pc [.ref (gM g), .int p0] (Cx g A (mw g σ th mi ti ++ rest))) (vp_Si (fun r : Int32 => r = bI (okV σ p0))) 0 0 (fun _ => False) := by
  refine Met.ofW (cc := cX2_isVoice) (maxL := 2) (ret := (some .boolean)) (by decide) rfl ?_
  intro p e s m args below meth c s₁ B hml hv0
  obtain ⟨rfl, hP, hD, hA, hK, hX⟩ := hv0
  have hx := B.exec
  have hb := B.bytes
  have hr := B.returns
  have hts := atoms_spec (ws := wsX2_isVoice) B.pre
  have hown : s.vm.findClass RX2 = some m.cls := findClass_of_methodNamed B.named
  have hlocks := B.notSynchronized
  have hS : va_S A s.heap s.heap [] := va_S.rf
  have hinX2 : ∀ w ∈ u_ws RX2 TX2 11, w ∈ wsX2_isVoice := by decide +kernel
  have hl := lv_entry ([.ref (gM g), .int p0]) (n := 2) (Nat.le_of_ble_eq_true rfl)
  rw [lg_entry_eq]
  generalize (lg_sl ([.ref (gM g), .int p0]) ++ List.replicate (2 - (lg_sl ([.ref (gM g), .int p0])).length) Slot.unset).toArray = ls at hl ⊢
  have hl : lv_has ls 2 [(0, .ref (gM g)), (1, .int p0)] := hl
  refine lv_iload_n (pc := 0) hx hb dX2_isVoice_0 rfl (lv_at hl 1 rfl) ?_
  refine lv_iconst (v := 0) (pc := 1) hx hb dX2_isVoice_1 (by decide) ?_
  refine lv_aload_n (pc := 2) hx hb dX2_isVoice_2 rfl (lv_at hl 0 rfl) ?_
  refine va_get (v := .int (nI (sN σ))) (pc := 3) (D := gD g) (ci := 2) (C := RX2) (T := TX2) (N := 11) hx hb hts hinX2 hown hK hP 0 (ma0 g σ th mi ti rest) rfl 1 (by decide) (hts (.fieldLink RX2 42 "ChoirNotesModel" "voices" "I") (by decide +kernel)) (fun _ h9 => h9) rfl dX2_isVoice_3 ?_
  refine lv_iconst (v := 1) (pc := 6) hx hb dX2_isVoice_6 (by decide) ?_
  refine lv_isub (pc := 7) hx hb dX2_isVoice_7 ?_
  refine k_ri (pc := 8) (va_runS (As := [.int p0, .int 0, .int ((nI (sN σ)) - 1)]) (rest := []) ⟨hx, hb, hml, hown, hts⟩ (cX2_isIn_m l g A σ rest th mi ti p0 0 ((nI (sN σ)) - 1)) (va_cwS 3 hts gX2_isVoice_X2_isIn rfl rfl rfl (by decide +kernel) ⟨Nat.le_of_ble_eq_true rfl, Nat.le_of_ble_eq_true rfl⟩) (cx_S hP hD hA hK hX hS) rfl rfl hl.1 rfl (lv_room (Nat.le_of_ble_eq_true rfl)) dX2_isVoice_8 ⟨Nat.le_of_ble_eq_true rfl, Nat.le_of_ble_eq_true rfl⟩) (fun r_1 hr_1 => ?_)
  subst hr_1
  exact W.zret (v := bI (inr 0 ((nI (sN σ)) - 1) p0)) hx hb hr (bI_nar _) (fun t ht hW => ⟨_, rfl, (by rw [inr_V hI.N]), ht⟩) (fun q hq => absurd hq List.not_mem_nil) dX2_isVoice_11
set_option maxHeartbeats 4000000 in
set_option maxRecDepth 100000 in
/-- a sign of this number -/
theorem cX2_isSign_m (l : Launch) (g : GA) (A : Nat → Prop) (σ : St) (rest : va_W) (th : Int32) (mi ti : Nat → Int32) (p0 q0 : Int32) (hI : Inv σ) : Met l yX2_isSign wsX2_isSign ({ frames := 2, cells := 0, slots := 0, locals := 43 }) (va_Pc [.ref (gM g), .int p0, .int q0] (Cx g A (mw g σ th mi ti ++ rest))) (vp_Si (fun r : Int32 => r = bI (okV σ p0 && okS σ (ix p0) q0))) 0 0 (fun _ => False) := by
  refine Met.ofW (cc := cX2_isSign) (maxL := 3) (ret := (some .boolean)) (by decide) rfl ?_
  intro p e s m args below meth c s₁ B hml hv0
  obtain ⟨rfl, hP, hD, hA, hK, hX⟩ := hv0
  have hx := B.exec
  have hb := B.bytes
  have hr := B.returns
  have hts := atoms_spec (ws := wsX2_isSign) B.pre
  have hown : s.vm.findClass RX2 = some m.cls := findClass_of_methodNamed B.named
  have hlocks := B.notSynchronized
  have hS : va_S A s.heap s.heap [] := va_S.rf
  have hinX2 : ∀ w ∈ u_ws RX2 TX2 11, w ∈ wsX2_isSign := by decide +kernel
  have hl := lv_entry ([.ref (gM g), .int p0, .int q0]) (n := 3) (Nat.le_of_ble_eq_true rfl)
  rw [lg_entry_eq]
  generalize (lg_sl ([.ref (gM g), .int p0, .int q0]) ++ List.replicate (3 - (lg_sl ([.ref (gM g), .int p0, .int q0])).length) Slot.unset).toArray = ls at hl ⊢
  have hl : lv_has ls 3 [(0, .ref (gM g)), (1, .int p0), (2, .int q0)] := hl
  refine lv_aload_n (pc := 0) hx hb dX2_isSign_0 rfl (lv_at hl 0 rfl) ?_
  refine lv_iload_n (pc := 1) hx hb dX2_isSign_1 rfl (lv_at hl 1 rfl) ?_
  refine k_ri (pc := 2) (va_runV (As := [.int p0]) (rest := []) ⟨hx, hb, hml, hown, hts⟩ (cX2_isVoice_m l g A σ rest th mi ti p0 hI) (cwV 1 hts gX2_isSign_X2_isVoice rfl rfl rfl (by decide +kernel) ⟨Nat.le_of_ble_eq_true rfl, Nat.le_of_ble_eq_true rfl⟩) (cx_V (q0 := 0) (ci := 2) (r := (RX2, TX2, 11)) rfl (ma0 g σ th mi ti rest) hP hD hA hK hX hS) rfl rfl hl.1 rfl (lv_room (Nat.le_of_ble_eq_true rfl)) dX2_isSign_2 ⟨Nat.le_of_ble_eq_true rfl, Nat.le_of_ble_eq_true rfl⟩) (fun r_1 hr_1 => ?_)
  subst hr_1
  refine lv_if_eq (tgt := 28) (pc := 5) hx hb dX2_isSign_5 (by decide) (fun c1 => ?_) (fun c1 => ?_)
  · have c1 := bI_0.mp c1
    refine lv_iconst (v := 0) (pc := 28) hx hb dX2_isSign_28 (by decide) ?_
    exact W.zret (v := 0) hx hb hr rfl (fun t ht hW => ⟨_, rfl, (by first | (rw [c1, hixv, c2]; rfl) | (rw [c1]; rfl)), ht⟩) (fun q hq => absurd hq List.not_mem_nil) dX2_isSign_29
  · have c1 := bI_n0.mp c1
    obtain ⟨v, hvn, rfl⟩ := okV_o hI.N c1
    have hv4 : v < 4 := hI.v4 hvn
    have hixv : ix (nI v) = v := ix_n (by omega)
    have hCv := hI.C v
    refine lv_iload_n (pc := 8) hx hb dX2_isSign_8 rfl (lv_at hl 2 rfl) ?_
    refine lv_iconst (v := 0) (pc := 9) hx hb dX2_isSign_9 (by decide) ?_
    refine lv_aload_n (pc := 10) hx hb dX2_isSign_10 rfl (lv_at hl 0 rfl) ?_
    refine va_get (v := .ref (gB g 0)) (pc := 11) (D := gD g) (ci := 2) (C := RX2) (T := TX2) (N := 11) hx hb hts hinX2 hown hK hP 0 (ma0 g σ th mi ti rest) rfl 2 (by decide) (hts (.fieldLink RX2 9 "ChoirNotesModel" "many" "[I") (by decide +kernel)) (fun _ h9 => h9) rfl dX2_isSign_11 ?_
    refine lv_iload_n (pc := 14) hx hb dX2_isSign_14 rfl (lv_at hl 1 rfl) ?_
    refine k_iald (pc := 15) (x := nI (sC σ v)) hx hb hK hP 1 0 (ma1 g σ th mi ti rest) rfl v rfl (by omega) (by decide) rfl dX2_isSign_15 ?_
    refine lv_iconst (v := 1) (pc := 16) hx hb dX2_isSign_16 (by decide) ?_
    refine lv_isub (pc := 17) hx hb dX2_isSign_17 ?_
    refine k_ri (pc := 18) (va_runS (As := [.int q0, .int 0, .int ((nI (sC σ v)) - 1)]) (rest := []) ⟨hx, hb, hml, hown, hts⟩ (cX2_isIn_m l g A σ rest th mi ti q0 0 ((nI (sC σ v)) - 1)) (va_cwS 3 hts gX2_isSign_X2_isIn rfl rfl rfl (by decide +kernel) ⟨Nat.le_of_ble_eq_true rfl, Nat.le_of_ble_eq_true rfl⟩) (cx_S hP hD hA hK hX hS) rfl rfl hl.1 rfl (lv_room (Nat.le_of_ble_eq_true rfl)) dX2_isSign_18 ⟨Nat.le_of_ble_eq_true rfl, Nat.le_of_ble_eq_true rfl⟩) (fun r_3 hr_3 => ?_)
    subst hr_3
    refine lv_if_eq (tgt := 28) (pc := 21) hx hb dX2_isSign_21 (by decide) (fun c2 => ?_) (fun c2 => ?_)
    · have c2 := bI_0.mp c2
      rw [inr_S hCv] at c2
      refine lv_iconst (v := 0) (pc := 28) hx hb dX2_isSign_28 (by decide) ?_
      exact W.zret (v := 0) hx hb hr rfl (fun t ht hW => ⟨_, rfl, (by first | (rw [c1, hixv, c2]; rfl) | (rw [c1]; rfl)), ht⟩) (fun q hq => absurd hq List.not_mem_nil) dX2_isSign_29
    · have c2 := bI_n0.mp c2
      rw [inr_S hCv] at c2
      refine lv_iconst (v := 1) (pc := 24) hx hb dX2_isSign_24 (by decide) ?_
      refine lv_goto (tgt := 29) (pc := 25) hx hb dX2_isSign_25 (by decide) ?_
      exact W.zret (v := 1) hx hb hr rfl (fun t ht hW => ⟨_, rfl, (by first | (rw [c1, hixv, c2]; rfl) | (rw [c1]; rfl)), ht⟩) (fun q hq => absurd hq List.not_mem_nil) dX2_isSign_29
set_option maxHeartbeats 4000000 in
set_option maxRecDepth 100000 in
/-- a mensuration -/
theorem cX2_isMeasure_m (l : Launch) (g : GA) (A : Nat → Prop) (σ : St) (rest : va_W) (th : Int32) (mi ti : Nat → Int32) (a b c0 : Int32) : Met l yX2_isMeasure wsX2_isMeasure ({ frames := 1, cells := 0, slots := 0, locals := 22 }) (va_Pc [.int a, .int b, .int c0] (Cx g A (mw g σ th mi ti ++ rest))) (vp_Si (fun r : Int32 => r = bI (inM a b c0))) 0 0 (fun _ => False) := by
  refine Met.ofW (cc := cX2_isMeasure) (maxL := 3) (ret := (some .boolean)) (by decide) rfl ?_
  intro p e s m args below meth c s₁ B hml hv0
  obtain ⟨rfl, hP, hD, hA, hK, hX⟩ := hv0
  have hx := B.exec
  have hb := B.bytes
  have hr := B.returns
  have hts := atoms_spec (ws := wsX2_isMeasure) B.pre
  have hown : s.vm.findClass RX2 = some m.cls := findClass_of_methodNamed B.named
  have hlocks := B.notSynchronized
  have hS : va_S A s.heap s.heap [] := va_S.rf
  have hl := lv_entry ([.int a, .int b, .int c0]) (n := 3) (Nat.le_of_ble_eq_true rfl)
  rw [lg_entry_eq]
  generalize (lg_sl ([.int a, .int b, .int c0]) ++ List.replicate (3 - (lg_sl ([.int a, .int b, .int c0])).length) Slot.unset).toArray = ls at hl ⊢
  have hl : lv_has ls 3 [(0, .int a), (1, .int b), (2, .int c0)] := hl
  refine lv_iload_n (pc := 0) hx hb dX2_isMeasure_0 rfl (lv_at hl 0 rfl) ?_
  refine lv_iconst (v := 2) (pc := 1) hx hb dX2_isMeasure_1 (by decide) ?_
  refine lv_iconst (v := 3) (pc := 2) hx hb dX2_isMeasure_2 (by decide) ?_
  refine k_ri (pc := 3) (va_runS (As := [.int a, .int 2, .int 3]) (rest := []) ⟨hx, hb, hml, hown, hts⟩ (cX2_isIn_m l g A σ rest th mi ti a 2 3) (va_cwS 3 hts gX2_isMeasure_X2_isIn rfl rfl rfl (by decide +kernel) ⟨Nat.le_of_ble_eq_true rfl, Nat.le_of_ble_eq_true rfl⟩) (cx_S hP hD hA hK hX hS) rfl rfl hl.1 rfl (lv_room (Nat.le_of_ble_eq_true rfl)) dX2_isMeasure_3 ⟨Nat.le_of_ble_eq_true rfl, Nat.le_of_ble_eq_true rfl⟩) (fun r_1 hr_1 => ?_)
  subst hr_1
  refine lv_if_eq (tgt := 31) (pc := 6) hx hb dX2_isMeasure_6 (by decide) (fun c1 => ?_) (fun c1 => ?_)
  · have c1 := bI_0.mp c1
    refine lv_iconst (v := 0) (pc := 31) hx hb dX2_isMeasure_31 (by decide) ?_
    exact W.zret (v := 0) hx hb hr rfl (fun t ht hW => ⟨_, rfl, (by unfold inM; first | (rw [c1, c2, c3]; rfl) | (rw [c1, c2]; rfl) | (rw [c1]; rfl)), ht⟩) (fun q hq => absurd hq List.not_mem_nil) dX2_isMeasure_32
  · have c1 := bI_n0.mp c1
    refine lv_iload_n (pc := 9) hx hb dX2_isMeasure_9 rfl (lv_at hl 1 rfl) ?_
    refine lv_iconst (v := 2) (pc := 10) hx hb dX2_isMeasure_10 (by decide) ?_
    refine lv_iconst (v := 3) (pc := 11) hx hb dX2_isMeasure_11 (by decide) ?_
    refine k_ri (pc := 12) (va_runS (As := [.int b, .int 2, .int 3]) (rest := []) ⟨hx, hb, hml, hown, hts⟩ (cX2_isIn_m l g A σ rest th mi ti b 2 3) (va_cwS 3 hts gX2_isMeasure_X2_isIn rfl rfl rfl (by decide +kernel) ⟨Nat.le_of_ble_eq_true rfl, Nat.le_of_ble_eq_true rfl⟩) (cx_S hP hD hA hK hX hS) rfl rfl hl.1 rfl (lv_room (Nat.le_of_ble_eq_true rfl)) dX2_isMeasure_12 ⟨Nat.le_of_ble_eq_true rfl, Nat.le_of_ble_eq_true rfl⟩) (fun r_3 hr_3 => ?_)
    subst hr_3
    refine lv_if_eq (tgt := 31) (pc := 15) hx hb dX2_isMeasure_15 (by decide) (fun c2 => ?_) (fun c2 => ?_)
    · have c2 := bI_0.mp c2
      refine lv_iconst (v := 0) (pc := 31) hx hb dX2_isMeasure_31 (by decide) ?_
      exact W.zret (v := 0) hx hb hr rfl (fun t ht hW => ⟨_, rfl, (by unfold inM; first | (rw [c1, c2, c3]; rfl) | (rw [c1, c2]; rfl) | (rw [c1]; rfl)), ht⟩) (fun q hq => absurd hq List.not_mem_nil) dX2_isMeasure_32
    · have c2 := bI_n0.mp c2
      refine lv_iload_n (pc := 18) hx hb dX2_isMeasure_18 rfl (lv_at hl 2 rfl) ?_
      refine lv_iconst (v := 2) (pc := 19) hx hb dX2_isMeasure_19 (by decide) ?_
      refine lv_iconst (v := 3) (pc := 20) hx hb dX2_isMeasure_20 (by decide) ?_
      refine k_ri (pc := 21) (va_runS (As := [.int c0, .int 2, .int 3]) (rest := []) ⟨hx, hb, hml, hown, hts⟩ (cX2_isIn_m l g A σ rest th mi ti c0 2 3) (va_cwS 3 hts gX2_isMeasure_X2_isIn rfl rfl rfl (by decide +kernel) ⟨Nat.le_of_ble_eq_true rfl, Nat.le_of_ble_eq_true rfl⟩) (cx_S hP hD hA hK hX hS) rfl rfl hl.1 rfl (lv_room (Nat.le_of_ble_eq_true rfl)) dX2_isMeasure_21 ⟨Nat.le_of_ble_eq_true rfl, Nat.le_of_ble_eq_true rfl⟩) (fun r_5 hr_5 => ?_)
      subst hr_5
      refine lv_if_eq (tgt := 31) (pc := 24) hx hb dX2_isMeasure_24 (by decide) (fun c3 => ?_) (fun c3 => ?_)
      · have c3 := bI_0.mp c3
        refine lv_iconst (v := 0) (pc := 31) hx hb dX2_isMeasure_31 (by decide) ?_
        exact W.zret (v := 0) hx hb hr rfl (fun t ht hW => ⟨_, rfl, (by unfold inM; first | (rw [c1, c2, c3]; rfl) | (rw [c1, c2]; rfl) | (rw [c1]; rfl)), ht⟩) (fun q hq => absurd hq List.not_mem_nil) dX2_isMeasure_32
      · have c3 := bI_n0.mp c3
        refine lv_iconst (v := 1) (pc := 27) hx hb dX2_isMeasure_27 (by decide) ?_
        refine lv_goto (tgt := 32) (pc := 28) hx hb dX2_isMeasure_28 (by decide) ?_
        exact W.zret (v := 1) hx hb hr rfl (fun t ht hW => ⟨_, rfl, (by unfold inM; first | (rw [c1, c2, c3]; rfl) | (rw [c1, c2]; rfl) | (rw [c1]; rfl)), ht⟩) (fun q hq => absurd hq List.not_mem_nil) dX2_isMeasure_32
set_option maxHeartbeats 4000000 in
set_option maxRecDepth 100000 in
/-- a distance that clashes -/
theorem cX2_isClash_m (l : Launch) (g : GA) (A : Nat → Prop) (σ : St) (rest : va_W) (th : Int32) (mi ti : Nat → Int32) (d0 : Int32) : Met l yX2_isClash wsX2_isClash ({ frames := 1, cells := 0, slots := 0, locals := 21 }) (va_Pc [.int d0] (Cx g A (mw g σ th mi ti ++ rest))) (vp_Si (fun r : Int32 => r = bI (isCl d0))) 0 0 (fun _ => False) := by
  refine Met.ofW (cc := cX2_isClash) (maxL := 2) (ret := (some .boolean)) (by decide) rfl ?_
  intro p e s m args below meth c s₁ B hml hv0
  obtain ⟨rfl, hP, hD, hA, hK, hX⟩ := hv0
  have hx := B.exec
  have hb := B.bytes
  have hr := B.returns
  have hts := atoms_spec (ws := wsX2_isClash) B.pre
  have hown : s.vm.findClass RX2 = some m.cls := findClass_of_methodNamed B.named
  have hlocks := B.notSynchronized
  have hS : va_S A s.heap s.heap [] := va_S.rf
  have hl := lv_entry ([.int d0]) (n := 2) (Nat.le_of_ble_eq_true rfl)
  rw [lg_entry_eq]
  generalize (lg_sl ([.int d0]) ++ List.replicate (2 - (lg_sl ([.int d0])).length) Slot.unset).toArray = ls at hl ⊢
  have hl : lv_has ls 2 [(0, .int d0)] := hl
  refine lv_iload_n (pc := 0) hx hb dX2_isClash_0 rfl (lv_at hl 0 rfl) ?_
  refine va_mabs (pc := 1) hx hb (hml.trans hl.1.symm) hown (hts (.methodLink RX2 57 Lib.Math.abs.name) (by decide +kernel)) (hts (.static Lib.Math.abs.name) (by decide +kernel)) (hts (.initialized "java/lang/Math") (by decide +kernel)) (hts (.code Lib.Math.abs.name Lib.Math.abs.code 1 (some .int)) (by decide +kernel)) (Nat.le_of_ble_eq_true rfl) (Nat.le_of_ble_eq_true rfl) (Nat.le_of_ble_eq_true rfl) (Nat.le_of_ble_eq_true rfl) dX2_isClash_1 ?_
  refine lv_bipush (v := 7) (pc := 4) hx hb dX2_isClash_4 (by decide) ?_
  refine lv_irem (pc := 6) hx hb dX2_isClash_6 (by decide) ?_
  refine k_cong (y := rs7 d0) rfl ?_
  refine lv_istore_n (lv' := [(1, .int (rs7 d0)), (0, .int d0)]) (pc := 7) hx hb dX2_isClash_7 rfl hl (by decide) rfl (fun ls hl => ?_)
  refine lv_iload_n (pc := 8) hx hb dX2_isClash_8 rfl (lv_at hl 0 rfl) ?_
  refine lv_iconst (v := 1) (pc := 9) hx hb dX2_isClash_9 (by decide) ?_
  refine lv_icmp_eq (tgt := 24) (pc := 10) hx hb dX2_isClash_10 (by decide) (fun c3 => ?_) (fun c3 => ?_)
  · refine lv_iconst (v := 1) (pc := 24) hx hb dX2_isClash_24 (by decide) ?_
    refine lv_goto (tgt := 29) (pc := 25) hx hb dX2_isClash_25 (by decide) ?_
    exact W.zret (v := 1) hx hb hr rfl (fun t ht hW => ⟨_, rfl, (by unfold isCl; first | (rw [decide_eq_true c3]; rfl) | (rw [decide_eq_false c3, decide_eq_true c4]; rfl) | (rw [decide_eq_false c3, decide_eq_false c4, decide_eq_true c5]; rfl) | (rw [decide_eq_false c3, decide_eq_false c4, decide_eq_false c5]; rfl)), ht⟩) (fun q hq => absurd hq List.not_mem_nil) dX2_isClash_29
  · refine lv_iload_n (pc := 13) hx hb dX2_isClash_13 rfl (lv_at hl 0 rfl) ?_
    refine lv_iconst (v := 3) (pc := 14) hx hb dX2_isClash_14 (by decide) ?_
    refine lv_icmp_eq (tgt := 24) (pc := 15) hx hb dX2_isClash_15 (by decide) (fun c4 => ?_) (fun c4 => ?_)
    · refine lv_iconst (v := 1) (pc := 24) hx hb dX2_isClash_24 (by decide) ?_
      refine lv_goto (tgt := 29) (pc := 25) hx hb dX2_isClash_25 (by decide) ?_
      exact W.zret (v := 1) hx hb hr rfl (fun t ht hW => ⟨_, rfl, (by unfold isCl; first | (rw [decide_eq_true c3]; rfl) | (rw [decide_eq_false c3, decide_eq_true c4]; rfl) | (rw [decide_eq_false c3, decide_eq_false c4, decide_eq_true c5]; rfl) | (rw [decide_eq_false c3, decide_eq_false c4, decide_eq_false c5]; rfl)), ht⟩) (fun q hq => absurd hq List.not_mem_nil) dX2_isClash_29
    · refine lv_iload_n (pc := 18) hx hb dX2_isClash_18 rfl (lv_at hl 0 rfl) ?_
      refine lv_bipush (v := 6) (pc := 19) hx hb dX2_isClash_19 (by decide) ?_
      refine lv_icmp_ne (tgt := 28) (pc := 21) hx hb dX2_isClash_21 (by decide) (fun c5 => ?_) (fun c5 => ?_)
      · refine lv_iconst (v := 0) (pc := 28) hx hb dX2_isClash_28 (by decide) ?_
        exact W.zret (v := 0) hx hb hr rfl (fun t ht hW => ⟨_, rfl, (by unfold isCl; first | (rw [decide_eq_true c3]; rfl) | (rw [decide_eq_false c3, decide_eq_true c4]; rfl) | (rw [decide_eq_false c3, decide_eq_false c4, decide_eq_true c5]; rfl) | (rw [decide_eq_false c3, decide_eq_false c4, decide_eq_false c5]; rfl)), ht⟩) (fun q hq => absurd hq List.not_mem_nil) dX2_isClash_29
      · refine lv_iconst (v := 1) (pc := 24) hx hb dX2_isClash_24 (by decide) ?_
        refine lv_goto (tgt := 29) (pc := 25) hx hb dX2_isClash_25 (by decide) ?_
        exact W.zret (v := 1) hx hb hr rfl (fun t ht hW => ⟨_, rfl, (by unfold isCl; first | (rw [decide_eq_true c3]; rfl) | (rw [decide_eq_false c3, decide_eq_true c4]; rfl) | (rw [decide_eq_false c3, decide_eq_false c4, decide_eq_true c5]; rfl) | (rw [decide_eq_false c3, decide_eq_false c4, decide_eq_false c5]; rfl)), ht⟩) (fun q hq => absurd hq List.not_mem_nil) dX2_isClash_29
set_option maxHeartbeats 4000000 in
set_option maxRecDepth 100000 in
/-- how long a sign is -/
theorem cX2_lasts_m (l : Launch) (g : GA) (A : Nat → Prop) (σ : St) (rest : va_W) (th : Int32) (mi ti : Nat → Int32) (v s0 : Nat) (hv : v < 4) (hs : s0 < 24) (hI : Inv σ) : Met l yX2_lasts wsX2_lasts ({ frames := 0, cells := 0, slots := 0, locals := 0 }) (va_Pc [.ref (gM g), .int (nI v), .int (nI s0)] (Cx g A (mw g σ th mi ti ++ rest))) (vp_Si (fun r : Int32 => r = nI (lg σ v s0))) 0 0 (fun _ => False) := by
  refine Met.ofW (cc := cX2_lasts) (maxL := 6) (ret := (some .int)) (by decide) rfl ?_
  intro p e s m args below meth c s₁ B hml hv0
  obtain ⟨rfl, hP, hD, hA, hK, hX⟩ := hv0
  have hx := B.exec
  have hb := B.bytes
  have hr := B.returns
  have hts := atoms_spec (ws := wsX2_lasts) B.pre
  have hown : s.vm.findClass RX2 = some m.cls := findClass_of_methodNamed B.named
  have hlocks := B.notSynchronized
  have hS : va_S A s.heap s.heap [] := va_S.rf
  have hinX2 : ∀ w ∈ u_ws RX2 TX2 11, w ∈ wsX2_lasts := by decide +kernel
  have hl := lv_entry ([.ref (gM g), .int (nI v), .int (nI s0)]) (n := 6) (Nat.le_of_ble_eq_true rfl)
  rw [lg_entry_eq]
  generalize (lg_sl ([.ref (gM g), .int (nI v), .int (nI s0)]) ++ List.replicate (6 - (lg_sl ([.ref (gM g), .int (nI v), .int (nI s0)])).length) Slot.unset).toArray = ls at hl ⊢
  have hl : lv_has ls 6 [(0, .ref (gM g)), (1, .int (nI v)), (2, .int (nI s0))] := hl
  have hkk : sK σ v s0 = 0 ∨ sK σ v s0 = 1 ∨ sK σ v s0 = 2 ∨ sK σ v s0 = 3 := by have := hI.K v s0; omega
  rcases hkk with hk | hk | hk | hk <;> cases hrd : sR σ v s0
  · refine lv_bipush (v := 24) (pc := 0) hx hb dX2_lasts_0 (by decide) ?_
    refine lv_iload_n (pc := 2) hx hb dX2_lasts_2 rfl (lv_at hl 1 rfl) ?_
    refine lv_imul (pc := 3) hx hb dX2_lasts_3 ?_
    refine k_cong (y := nI (24 * v)) (pk_mul 24 v) ?_
    refine lv_iload_n (pc := 4) hx hb dX2_lasts_4 rfl (lv_at hl 2 rfl) ?_
    refine lv_iadd (pc := 5) hx hb dX2_lasts_5 ?_
    refine k_cong (y := nI (24 * v + s0)) (nI_add (24 * v) s0) ?_
    refine lv_istore_n (lv' := [(3, .int (nI (24 * v + s0))), (0, .ref (gM g)), (1, .int (nI v)), (2, .int (nI s0))]) (pc := 6) hx hb dX2_lasts_6 rfl hl (by decide) rfl (fun ls hl => ?_)
    refine lv_iconst (v := 1) (pc := 7) hx hb dX2_lasts_7 (by decide) ?_
    refine lv_istore (lv' := [(4, .int 1), (3, .int (nI (24 * v + s0))), (0, .ref (gM g)), (1, .int (nI v)), (2, .int (nI s0))]) (pc := 8) hx hb dX2_lasts_8 hl (by decide) rfl (fun ls hl => ?_)
    refine lv_iconst (v := 2) (pc := 10) hx hb dX2_lasts_10 (by decide) ?_
    refine lv_istore (lv' := [(5, .int 2), (4, .int 1), (3, .int (nI (24 * v + s0))), (0, .ref (gM g)), (1, .int (nI v)), (2, .int (nI s0))]) (pc := 11) hx hb dX2_lasts_11 hl (by decide) rfl (fun ls hl => ?_)
    refine lv_iload (pc := 13) hx hb dX2_lasts_13 (lv_at hl 0 rfl) ?_
    refine lv_aload_n (pc := 15) hx hb dX2_lasts_15 rfl (lv_at hl 3 rfl) ?_
    refine va_get (v := .ref (gB g 3)) (pc := 16) (D := gD g) (ci := 2) (C := RX2) (T := TX2) (N := 11) hx hb hts hinX2 hown hK hP 0 (ma0 g σ th mi ti rest) rfl 5 (by decide) (hts (.fieldLink RX2 19 "ChoirNotesModel" "kind" "[I") (by decide +kernel)) (fun _ h9 => h9) rfl dX2_lasts_16 ?_
    refine lv_iload_n (pc := 19) hx hb dX2_lasts_19 rfl (lv_at hl 2 rfl) ?_
    refine k_iald (pc := 20) (x := 0) hx hb hK hP 4 0 (ma4 g σ th mi ti rest) rfl (24 * v + s0) rfl (by omega) (by decide) ((a24 (fun a b => nI (sK σ a b)) (by omega)).trans (by rw [hk]; rfl)) dX2_lasts_20 ?_
    refine lv_icmp_lt (tgt := 70) (pc := 21) hx hb dX2_lasts_21 (by decide) (fun c_1 => ?_) (fun c_1 => ?_)
    · exact absurd c_1 (by decide)
    · refine lv_iload (pc := 24) hx hb dX2_lasts_24 (lv_at hl 1 rfl) ?_
      refine lv_aload_n (pc := 26) hx hb dX2_lasts_26 rfl (lv_at hl 3 rfl) ?_
      refine va_get (v := .ref (gB g 5)) (pc := 27) (D := gD g) (ci := 2) (C := RX2) (T := TX2) (N := 11) hx hb hts hinX2 hown hK hP 0 (ma0 g σ th mi ti rest) rfl 7 (by decide) (hts (.fieldLink RX2 25 "ChoirNotesModel" "isRed" "[Z") (by decide +kernel)) (fun _ h9 => h9) rfl dX2_lasts_27 ?_
      refine lv_iload_n (pc := 30) hx hb dX2_lasts_30 rfl (lv_at hl 2 rfl) ?_
      refine k_zald (pc := 31) (x := 0) hx hb hK hP 6 1 (ma6 g σ th mi ti rest) rfl (24 * v + s0) rfl (by omega) (by decide) ((a24 (fun a b => bI (sR σ a b)) (by omega)).trans (by rw [hrd]; rfl)) dX2_lasts_31 ?_
      refine lv_if_eq (tgt := 50) (pc := 32) hx hb dX2_lasts_32 (by decide) (fun c_2 => ?_) (fun c_2 => ?_)
      · refine lv_aload_n (pc := 50) hx hb dX2_lasts_50 rfl (lv_at hl 3 rfl) ?_
        refine va_get (v := .ref (gB g 2)) (pc := 51) (D := gD g) (ci := 2) (C := RX2) (T := TX2) (N := 11) hx hb hts hinX2 hown hK hP 0 (ma0 g σ th mi ti rest) rfl 4 (by decide) (hts (.fieldLink RX2 16 "ChoirNotesModel" "measure" "[I") (by decide +kernel)) (fun _ h9 => h9) rfl dX2_lasts_51 ?_
        refine lv_iconst (v := 3) (pc := 54) hx hb dX2_lasts_54 (by decide) ?_
        refine lv_iload_n (pc := 55) hx hb dX2_lasts_55 rfl (lv_at hl 4 rfl) ?_
        refine lv_imul (pc := 56) hx hb dX2_lasts_56 ?_
        refine k_cong (y := nI (3 * v)) (pk_mul 3 v) ?_
        refine lv_iload (pc := 57) hx hb dX2_lasts_57 (lv_at hl 0 rfl) ?_
        refine lv_iadd (pc := 59) hx hb dX2_lasts_59 ?_
        refine k_cong (y := nI (3 * v + 2)) (nI_add (3 * v) 2) ?_
        refine k_iald (pc := 60) (x := nI (sM σ v 2)) hx hb hK hP 3 0 (ma3 g σ th mi ti rest) rfl (3 * v + 2) rfl (by omega) (by decide) (a3 (fun a b => nI (sM σ a b)) (by omega)) dX2_lasts_60 ?_
        refine lv_imul (pc := 61) hx hb dX2_lasts_61 ?_
        refine k_cong (y := nI (1 * (sM σ v 2))) (pk_mul 1 (sM σ v 2)) ?_
        refine lv_istore (lv' := [(4, .int (nI (1 * (sM σ v 2)))), (5, .int 2), (3, .int (nI (24 * v + s0))), (0, .ref (gM g)), (1, .int (nI v)), (2, .int (nI s0))]) (pc := 62) hx hb dX2_lasts_62 hl (by decide) rfl (fun ls hl => ?_)
        refine lv_iinc (v := 1) (lv' := [(5, .int 1), (4, .int (nI (1 * (sM σ v 2)))), (3, .int (nI (24 * v + s0))), (0, .ref (gM g)), (1, .int (nI v)), (2, .int (nI s0))]) (pc := 64) hx hb dX2_lasts_64 hl (k := 1) rfl (by decide) (by decide) rfl (fun ls hl => ?_)
        refine lv_goto (tgt := 13) (pc := 67) hx hb dX2_lasts_67 (by decide) ?_
        refine lv_iload (pc := 13) hx hb dX2_lasts_13 (lv_at hl 0 rfl) ?_
        refine lv_aload_n (pc := 15) hx hb dX2_lasts_15 rfl (lv_at hl 3 rfl) ?_
        refine va_get (v := .ref (gB g 3)) (pc := 16) (D := gD g) (ci := 2) (C := RX2) (T := TX2) (N := 11) hx hb hts hinX2 hown hK hP 0 (ma0 g σ th mi ti rest) rfl 5 (by decide) (hts (.fieldLink RX2 19 "ChoirNotesModel" "kind" "[I") (by decide +kernel)) (fun _ h9 => h9) rfl dX2_lasts_16 ?_
        refine lv_iload_n (pc := 19) hx hb dX2_lasts_19 rfl (lv_at hl 2 rfl) ?_
        refine k_iald (pc := 20) (x := 0) hx hb hK hP 4 0 (ma4 g σ th mi ti rest) rfl (24 * v + s0) rfl (by omega) (by decide) ((a24 (fun a b => nI (sK σ a b)) (by omega)).trans (by rw [hk]; rfl)) dX2_lasts_20 ?_
        refine lv_icmp_lt (tgt := 70) (pc := 21) hx hb dX2_lasts_21 (by decide) (fun c_3 => ?_) (fun c_3 => ?_)
        · exact absurd c_3 (by decide)
        · refine lv_iload (pc := 24) hx hb dX2_lasts_24 (lv_at hl 1 rfl) ?_
          refine lv_aload_n (pc := 26) hx hb dX2_lasts_26 rfl (lv_at hl 3 rfl) ?_
          refine va_get (v := .ref (gB g 5)) (pc := 27) (D := gD g) (ci := 2) (C := RX2) (T := TX2) (N := 11) hx hb hts hinX2 hown hK hP 0 (ma0 g σ th mi ti rest) rfl 7 (by decide) (hts (.fieldLink RX2 25 "ChoirNotesModel" "isRed" "[Z") (by decide +kernel)) (fun _ h9 => h9) rfl dX2_lasts_27 ?_
          refine lv_iload_n (pc := 30) hx hb dX2_lasts_30 rfl (lv_at hl 2 rfl) ?_
          refine k_zald (pc := 31) (x := 0) hx hb hK hP 6 1 (ma6 g σ th mi ti rest) rfl (24 * v + s0) rfl (by omega) (by decide) ((a24 (fun a b => bI (sR σ a b)) (by omega)).trans (by rw [hrd]; rfl)) dX2_lasts_31 ?_
          refine lv_if_eq (tgt := 50) (pc := 32) hx hb dX2_lasts_32 (by decide) (fun c_4 => ?_) (fun c_4 => ?_)
          · refine lv_aload_n (pc := 50) hx hb dX2_lasts_50 rfl (lv_at hl 3 rfl) ?_
            refine va_get (v := .ref (gB g 2)) (pc := 51) (D := gD g) (ci := 2) (C := RX2) (T := TX2) (N := 11) hx hb hts hinX2 hown hK hP 0 (ma0 g σ th mi ti rest) rfl 4 (by decide) (hts (.fieldLink RX2 16 "ChoirNotesModel" "measure" "[I") (by decide +kernel)) (fun _ h9 => h9) rfl dX2_lasts_51 ?_
            refine lv_iconst (v := 3) (pc := 54) hx hb dX2_lasts_54 (by decide) ?_
            refine lv_iload_n (pc := 55) hx hb dX2_lasts_55 rfl (lv_at hl 4 rfl) ?_
            refine lv_imul (pc := 56) hx hb dX2_lasts_56 ?_
            refine k_cong (y := nI (3 * v)) (pk_mul 3 v) ?_
            refine lv_iload (pc := 57) hx hb dX2_lasts_57 (lv_at hl 0 rfl) ?_
            refine lv_iadd (pc := 59) hx hb dX2_lasts_59 ?_
            refine k_cong (y := nI (3 * v + 1)) (nI_add (3 * v) 1) ?_
            refine k_iald (pc := 60) (x := nI (sM σ v 1)) hx hb hK hP 3 0 (ma3 g σ th mi ti rest) rfl (3 * v + 1) rfl (by omega) (by decide) (a3 (fun a b => nI (sM σ a b)) (by omega)) dX2_lasts_60 ?_
            refine lv_imul (pc := 61) hx hb dX2_lasts_61 ?_
            refine k_cong (y := nI ((1 * (sM σ v 2)) * (sM σ v 1))) (pk_mul (1 * (sM σ v 2)) (sM σ v 1)) ?_
            refine lv_istore (lv' := [(4, .int (nI ((1 * (sM σ v 2)) * (sM σ v 1)))), (5, .int 1), (3, .int (nI (24 * v + s0))), (0, .ref (gM g)), (1, .int (nI v)), (2, .int (nI s0))]) (pc := 62) hx hb dX2_lasts_62 hl (by decide) rfl (fun ls hl => ?_)
            refine lv_iinc (v := 0) (lv' := [(5, .int 0), (4, .int (nI ((1 * (sM σ v 2)) * (sM σ v 1)))), (3, .int (nI (24 * v + s0))), (0, .ref (gM g)), (1, .int (nI v)), (2, .int (nI s0))]) (pc := 64) hx hb dX2_lasts_64 hl (k := 1) rfl (by decide) (by decide) rfl (fun ls hl => ?_)
            refine lv_goto (tgt := 13) (pc := 67) hx hb dX2_lasts_67 (by decide) ?_
            refine lv_iload (pc := 13) hx hb dX2_lasts_13 (lv_at hl 0 rfl) ?_
            refine lv_aload_n (pc := 15) hx hb dX2_lasts_15 rfl (lv_at hl 3 rfl) ?_
            refine va_get (v := .ref (gB g 3)) (pc := 16) (D := gD g) (ci := 2) (C := RX2) (T := TX2) (N := 11) hx hb hts hinX2 hown hK hP 0 (ma0 g σ th mi ti rest) rfl 5 (by decide) (hts (.fieldLink RX2 19 "ChoirNotesModel" "kind" "[I") (by decide +kernel)) (fun _ h9 => h9) rfl dX2_lasts_16 ?_
            refine lv_iload_n (pc := 19) hx hb dX2_lasts_19 rfl (lv_at hl 2 rfl) ?_
            refine k_iald (pc := 20) (x := 0) hx hb hK hP 4 0 (ma4 g σ th mi ti rest) rfl (24 * v + s0) rfl (by omega) (by decide) ((a24 (fun a b => nI (sK σ a b)) (by omega)).trans (by rw [hk]; rfl)) dX2_lasts_20 ?_
            refine lv_icmp_lt (tgt := 70) (pc := 21) hx hb dX2_lasts_21 (by decide) (fun c_5 => ?_) (fun c_5 => ?_)
            · exact absurd c_5 (by decide)
            · refine lv_iload (pc := 24) hx hb dX2_lasts_24 (lv_at hl 1 rfl) ?_
              refine lv_aload_n (pc := 26) hx hb dX2_lasts_26 rfl (lv_at hl 3 rfl) ?_
              refine va_get (v := .ref (gB g 5)) (pc := 27) (D := gD g) (ci := 2) (C := RX2) (T := TX2) (N := 11) hx hb hts hinX2 hown hK hP 0 (ma0 g σ th mi ti rest) rfl 7 (by decide) (hts (.fieldLink RX2 25 "ChoirNotesModel" "isRed" "[Z") (by decide +kernel)) (fun _ h9 => h9) rfl dX2_lasts_27 ?_
              refine lv_iload_n (pc := 30) hx hb dX2_lasts_30 rfl (lv_at hl 2 rfl) ?_
              refine k_zald (pc := 31) (x := 0) hx hb hK hP 6 1 (ma6 g σ th mi ti rest) rfl (24 * v + s0) rfl (by omega) (by decide) ((a24 (fun a b => bI (sR σ a b)) (by omega)).trans (by rw [hrd]; rfl)) dX2_lasts_31 ?_
              refine lv_if_eq (tgt := 50) (pc := 32) hx hb dX2_lasts_32 (by decide) (fun c_6 => ?_) (fun c_6 => ?_)
              · refine lv_aload_n (pc := 50) hx hb dX2_lasts_50 rfl (lv_at hl 3 rfl) ?_
                refine va_get (v := .ref (gB g 2)) (pc := 51) (D := gD g) (ci := 2) (C := RX2) (T := TX2) (N := 11) hx hb hts hinX2 hown hK hP 0 (ma0 g σ th mi ti rest) rfl 4 (by decide) (hts (.fieldLink RX2 16 "ChoirNotesModel" "measure" "[I") (by decide +kernel)) (fun _ h9 => h9) rfl dX2_lasts_51 ?_
                refine lv_iconst (v := 3) (pc := 54) hx hb dX2_lasts_54 (by decide) ?_
                refine lv_iload_n (pc := 55) hx hb dX2_lasts_55 rfl (lv_at hl 4 rfl) ?_
                refine lv_imul (pc := 56) hx hb dX2_lasts_56 ?_
                refine k_cong (y := nI (3 * v)) (pk_mul 3 v) ?_
                refine lv_iload (pc := 57) hx hb dX2_lasts_57 (lv_at hl 0 rfl) ?_
                refine lv_iadd (pc := 59) hx hb dX2_lasts_59 ?_
                refine k_cong (y := nI (3 * v + 0)) (nI_add (3 * v) 0) ?_
                refine k_iald (pc := 60) (x := nI (sM σ v 0)) hx hb hK hP 3 0 (ma3 g σ th mi ti rest) rfl (3 * v + 0) rfl (by omega) (by decide) (a3 (fun a b => nI (sM σ a b)) (by omega)) dX2_lasts_60 ?_
                refine lv_imul (pc := 61) hx hb dX2_lasts_61 ?_
                refine k_cong (y := nI (((1 * (sM σ v 2)) * (sM σ v 1)) * (sM σ v 0))) (pk_mul ((1 * (sM σ v 2)) * (sM σ v 1)) (sM σ v 0)) ?_
                refine lv_istore (lv' := [(4, .int (nI (((1 * (sM σ v 2)) * (sM σ v 1)) * (sM σ v 0)))), (5, .int 0), (3, .int (nI (24 * v + s0))), (0, .ref (gM g)), (1, .int (nI v)), (2, .int (nI s0))]) (pc := 62) hx hb dX2_lasts_62 hl (by decide) rfl (fun ls hl => ?_)
                refine lv_iinc (v := (-1)) (lv' := [(5, .int ((-1))), (4, .int (nI (((1 * (sM σ v 2)) * (sM σ v 1)) * (sM σ v 0)))), (3, .int (nI (24 * v + s0))), (0, .ref (gM g)), (1, .int (nI v)), (2, .int (nI s0))]) (pc := 64) hx hb dX2_lasts_64 hl (k := 1) rfl (by decide) (by decide) rfl (fun ls hl => ?_)
                refine lv_goto (tgt := 13) (pc := 67) hx hb dX2_lasts_67 (by decide) ?_
                refine lv_iload (pc := 13) hx hb dX2_lasts_13 (lv_at hl 0 rfl) ?_
                refine lv_aload_n (pc := 15) hx hb dX2_lasts_15 rfl (lv_at hl 3 rfl) ?_
                refine va_get (v := .ref (gB g 3)) (pc := 16) (D := gD g) (ci := 2) (C := RX2) (T := TX2) (N := 11) hx hb hts hinX2 hown hK hP 0 (ma0 g σ th mi ti rest) rfl 5 (by decide) (hts (.fieldLink RX2 19 "ChoirNotesModel" "kind" "[I") (by decide +kernel)) (fun _ h9 => h9) rfl dX2_lasts_16 ?_
                refine lv_iload_n (pc := 19) hx hb dX2_lasts_19 rfl (lv_at hl 2 rfl) ?_
                refine k_iald (pc := 20) (x := 0) hx hb hK hP 4 0 (ma4 g σ th mi ti rest) rfl (24 * v + s0) rfl (by omega) (by decide) ((a24 (fun a b => nI (sK σ a b)) (by omega)).trans (by rw [hk]; rfl)) dX2_lasts_20 ?_
                refine lv_icmp_lt (tgt := 70) (pc := 21) hx hb dX2_lasts_21 (by decide) (fun c_7 => ?_) (fun c_7 => ?_)
                · refine lv_iload (pc := 70) hx hb dX2_lasts_70 (lv_at hl 1 rfl) ?_
                  exact W.iret hx hb hr (fun t ht hW => ⟨_, rfl, (congrArg nI (by unfold lg lenK; rw [hk, hrd]; first | rfl | exact lg_3 _ _ _ | exact lg_2 _ _ | exact Nat.one_mul _)), ht⟩) (fun q hq => absurd hq List.not_mem_nil) dX2_lasts_72
                · exact absurd c_7 (by decide)
              · exact absurd c_6 (by decide)
          · exact absurd c_4 (by decide)
      · exact absurd c_2 (by decide)
  · refine lv_bipush (v := 24) (pc := 0) hx hb dX2_lasts_0 (by decide) ?_
    refine lv_iload_n (pc := 2) hx hb dX2_lasts_2 rfl (lv_at hl 1 rfl) ?_
    refine lv_imul (pc := 3) hx hb dX2_lasts_3 ?_
    refine k_cong (y := nI (24 * v)) (pk_mul 24 v) ?_
    refine lv_iload_n (pc := 4) hx hb dX2_lasts_4 rfl (lv_at hl 2 rfl) ?_
    refine lv_iadd (pc := 5) hx hb dX2_lasts_5 ?_
    refine k_cong (y := nI (24 * v + s0)) (nI_add (24 * v) s0) ?_
    refine lv_istore_n (lv' := [(3, .int (nI (24 * v + s0))), (0, .ref (gM g)), (1, .int (nI v)), (2, .int (nI s0))]) (pc := 6) hx hb dX2_lasts_6 rfl hl (by decide) rfl (fun ls hl => ?_)
    refine lv_iconst (v := 1) (pc := 7) hx hb dX2_lasts_7 (by decide) ?_
    refine lv_istore (lv' := [(4, .int 1), (3, .int (nI (24 * v + s0))), (0, .ref (gM g)), (1, .int (nI v)), (2, .int (nI s0))]) (pc := 8) hx hb dX2_lasts_8 hl (by decide) rfl (fun ls hl => ?_)
    refine lv_iconst (v := 2) (pc := 10) hx hb dX2_lasts_10 (by decide) ?_
    refine lv_istore (lv' := [(5, .int 2), (4, .int 1), (3, .int (nI (24 * v + s0))), (0, .ref (gM g)), (1, .int (nI v)), (2, .int (nI s0))]) (pc := 11) hx hb dX2_lasts_11 hl (by decide) rfl (fun ls hl => ?_)
    refine lv_iload (pc := 13) hx hb dX2_lasts_13 (lv_at hl 0 rfl) ?_
    refine lv_aload_n (pc := 15) hx hb dX2_lasts_15 rfl (lv_at hl 3 rfl) ?_
    refine va_get (v := .ref (gB g 3)) (pc := 16) (D := gD g) (ci := 2) (C := RX2) (T := TX2) (N := 11) hx hb hts hinX2 hown hK hP 0 (ma0 g σ th mi ti rest) rfl 5 (by decide) (hts (.fieldLink RX2 19 "ChoirNotesModel" "kind" "[I") (by decide +kernel)) (fun _ h9 => h9) rfl dX2_lasts_16 ?_
    refine lv_iload_n (pc := 19) hx hb dX2_lasts_19 rfl (lv_at hl 2 rfl) ?_
    refine k_iald (pc := 20) (x := 0) hx hb hK hP 4 0 (ma4 g σ th mi ti rest) rfl (24 * v + s0) rfl (by omega) (by decide) ((a24 (fun a b => nI (sK σ a b)) (by omega)).trans (by rw [hk]; rfl)) dX2_lasts_20 ?_
    refine lv_icmp_lt (tgt := 70) (pc := 21) hx hb dX2_lasts_21 (by decide) (fun c_8 => ?_) (fun c_8 => ?_)
    · exact absurd c_8 (by decide)
    · refine lv_iload (pc := 24) hx hb dX2_lasts_24 (lv_at hl 1 rfl) ?_
      refine lv_aload_n (pc := 26) hx hb dX2_lasts_26 rfl (lv_at hl 3 rfl) ?_
      refine va_get (v := .ref (gB g 5)) (pc := 27) (D := gD g) (ci := 2) (C := RX2) (T := TX2) (N := 11) hx hb hts hinX2 hown hK hP 0 (ma0 g σ th mi ti rest) rfl 7 (by decide) (hts (.fieldLink RX2 25 "ChoirNotesModel" "isRed" "[Z") (by decide +kernel)) (fun _ h9 => h9) rfl dX2_lasts_27 ?_
      refine lv_iload_n (pc := 30) hx hb dX2_lasts_30 rfl (lv_at hl 2 rfl) ?_
      refine k_zald (pc := 31) (x := 1) hx hb hK hP 6 1 (ma6 g σ th mi ti rest) rfl (24 * v + s0) rfl (by omega) (by decide) ((a24 (fun a b => bI (sR σ a b)) (by omega)).trans (by rw [hrd]; rfl)) dX2_lasts_31 ?_
      refine lv_if_eq (tgt := 50) (pc := 32) hx hb dX2_lasts_32 (by decide) (fun c_9 => ?_) (fun c_9 => ?_)
      · exact absurd c_9 (by decide)
      · refine lv_iload (pc := 35) hx hb dX2_lasts_35 (lv_at hl 0 rfl) ?_
        refine lv_aload_n (pc := 37) hx hb dX2_lasts_37 rfl (lv_at hl 3 rfl) ?_
        refine va_get (v := .ref (gB g 3)) (pc := 38) (D := gD g) (ci := 2) (C := RX2) (T := TX2) (N := 11) hx hb hts hinX2 hown hK hP 0 (ma0 g σ th mi ti rest) rfl 5 (by decide) (hts (.fieldLink RX2 19 "ChoirNotesModel" "kind" "[I") (by decide +kernel)) (fun _ h9 => h9) rfl dX2_lasts_38 ?_
        refine lv_iload_n (pc := 41) hx hb dX2_lasts_41 rfl (lv_at hl 2 rfl) ?_
        refine k_iald (pc := 42) (x := 0) hx hb hK hP 4 0 (ma4 g σ th mi ti rest) rfl (24 * v + s0) rfl (by omega) (by decide) ((a24 (fun a b => nI (sK σ a b)) (by omega)).trans (by rw [hk]; rfl)) dX2_lasts_42 ?_
        refine lv_icmp_ne (tgt := 50) (pc := 43) hx hb dX2_lasts_43 (by decide) (fun c_10 => ?_) (fun c_10 => ?_)
        · refine lv_aload_n (pc := 50) hx hb dX2_lasts_50 rfl (lv_at hl 3 rfl) ?_
          refine va_get (v := .ref (gB g 2)) (pc := 51) (D := gD g) (ci := 2) (C := RX2) (T := TX2) (N := 11) hx hb hts hinX2 hown hK hP 0 (ma0 g σ th mi ti rest) rfl 4 (by decide) (hts (.fieldLink RX2 16 "ChoirNotesModel" "measure" "[I") (by decide +kernel)) (fun _ h9 => h9) rfl dX2_lasts_51 ?_
          refine lv_iconst (v := 3) (pc := 54) hx hb dX2_lasts_54 (by decide) ?_
          refine lv_iload_n (pc := 55) hx hb dX2_lasts_55 rfl (lv_at hl 4 rfl) ?_
          refine lv_imul (pc := 56) hx hb dX2_lasts_56 ?_
          refine k_cong (y := nI (3 * v)) (pk_mul 3 v) ?_
          refine lv_iload (pc := 57) hx hb dX2_lasts_57 (lv_at hl 0 rfl) ?_
          refine lv_iadd (pc := 59) hx hb dX2_lasts_59 ?_
          refine k_cong (y := nI (3 * v + 2)) (nI_add (3 * v) 2) ?_
          refine k_iald (pc := 60) (x := nI (sM σ v 2)) hx hb hK hP 3 0 (ma3 g σ th mi ti rest) rfl (3 * v + 2) rfl (by omega) (by decide) (a3 (fun a b => nI (sM σ a b)) (by omega)) dX2_lasts_60 ?_
          refine lv_imul (pc := 61) hx hb dX2_lasts_61 ?_
          refine k_cong (y := nI (1 * (sM σ v 2))) (pk_mul 1 (sM σ v 2)) ?_
          refine lv_istore (lv' := [(4, .int (nI (1 * (sM σ v 2)))), (5, .int 2), (3, .int (nI (24 * v + s0))), (0, .ref (gM g)), (1, .int (nI v)), (2, .int (nI s0))]) (pc := 62) hx hb dX2_lasts_62 hl (by decide) rfl (fun ls hl => ?_)
          refine lv_iinc (v := 1) (lv' := [(5, .int 1), (4, .int (nI (1 * (sM σ v 2)))), (3, .int (nI (24 * v + s0))), (0, .ref (gM g)), (1, .int (nI v)), (2, .int (nI s0))]) (pc := 64) hx hb dX2_lasts_64 hl (k := 1) rfl (by decide) (by decide) rfl (fun ls hl => ?_)
          refine lv_goto (tgt := 13) (pc := 67) hx hb dX2_lasts_67 (by decide) ?_
          refine lv_iload (pc := 13) hx hb dX2_lasts_13 (lv_at hl 0 rfl) ?_
          refine lv_aload_n (pc := 15) hx hb dX2_lasts_15 rfl (lv_at hl 3 rfl) ?_
          refine va_get (v := .ref (gB g 3)) (pc := 16) (D := gD g) (ci := 2) (C := RX2) (T := TX2) (N := 11) hx hb hts hinX2 hown hK hP 0 (ma0 g σ th mi ti rest) rfl 5 (by decide) (hts (.fieldLink RX2 19 "ChoirNotesModel" "kind" "[I") (by decide +kernel)) (fun _ h9 => h9) rfl dX2_lasts_16 ?_
          refine lv_iload_n (pc := 19) hx hb dX2_lasts_19 rfl (lv_at hl 2 rfl) ?_
          refine k_iald (pc := 20) (x := 0) hx hb hK hP 4 0 (ma4 g σ th mi ti rest) rfl (24 * v + s0) rfl (by omega) (by decide) ((a24 (fun a b => nI (sK σ a b)) (by omega)).trans (by rw [hk]; rfl)) dX2_lasts_20 ?_
          refine lv_icmp_lt (tgt := 70) (pc := 21) hx hb dX2_lasts_21 (by decide) (fun c_11 => ?_) (fun c_11 => ?_)
          · exact absurd c_11 (by decide)
          · refine lv_iload (pc := 24) hx hb dX2_lasts_24 (lv_at hl 1 rfl) ?_
            refine lv_aload_n (pc := 26) hx hb dX2_lasts_26 rfl (lv_at hl 3 rfl) ?_
            refine va_get (v := .ref (gB g 5)) (pc := 27) (D := gD g) (ci := 2) (C := RX2) (T := TX2) (N := 11) hx hb hts hinX2 hown hK hP 0 (ma0 g σ th mi ti rest) rfl 7 (by decide) (hts (.fieldLink RX2 25 "ChoirNotesModel" "isRed" "[Z") (by decide +kernel)) (fun _ h9 => h9) rfl dX2_lasts_27 ?_
            refine lv_iload_n (pc := 30) hx hb dX2_lasts_30 rfl (lv_at hl 2 rfl) ?_
            refine k_zald (pc := 31) (x := 1) hx hb hK hP 6 1 (ma6 g σ th mi ti rest) rfl (24 * v + s0) rfl (by omega) (by decide) ((a24 (fun a b => bI (sR σ a b)) (by omega)).trans (by rw [hrd]; rfl)) dX2_lasts_31 ?_
            refine lv_if_eq (tgt := 50) (pc := 32) hx hb dX2_lasts_32 (by decide) (fun c_12 => ?_) (fun c_12 => ?_)
            · exact absurd c_12 (by decide)
            · refine lv_iload (pc := 35) hx hb dX2_lasts_35 (lv_at hl 0 rfl) ?_
              refine lv_aload_n (pc := 37) hx hb dX2_lasts_37 rfl (lv_at hl 3 rfl) ?_
              refine va_get (v := .ref (gB g 3)) (pc := 38) (D := gD g) (ci := 2) (C := RX2) (T := TX2) (N := 11) hx hb hts hinX2 hown hK hP 0 (ma0 g σ th mi ti rest) rfl 5 (by decide) (hts (.fieldLink RX2 19 "ChoirNotesModel" "kind" "[I") (by decide +kernel)) (fun _ h9 => h9) rfl dX2_lasts_38 ?_
              refine lv_iload_n (pc := 41) hx hb dX2_lasts_41 rfl (lv_at hl 2 rfl) ?_
              refine k_iald (pc := 42) (x := 0) hx hb hK hP 4 0 (ma4 g σ th mi ti rest) rfl (24 * v + s0) rfl (by omega) (by decide) ((a24 (fun a b => nI (sK σ a b)) (by omega)).trans (by rw [hk]; rfl)) dX2_lasts_42 ?_
              refine lv_icmp_ne (tgt := 50) (pc := 43) hx hb dX2_lasts_43 (by decide) (fun c_13 => ?_) (fun c_13 => ?_)
              · refine lv_aload_n (pc := 50) hx hb dX2_lasts_50 rfl (lv_at hl 3 rfl) ?_
                refine va_get (v := .ref (gB g 2)) (pc := 51) (D := gD g) (ci := 2) (C := RX2) (T := TX2) (N := 11) hx hb hts hinX2 hown hK hP 0 (ma0 g σ th mi ti rest) rfl 4 (by decide) (hts (.fieldLink RX2 16 "ChoirNotesModel" "measure" "[I") (by decide +kernel)) (fun _ h9 => h9) rfl dX2_lasts_51 ?_
                refine lv_iconst (v := 3) (pc := 54) hx hb dX2_lasts_54 (by decide) ?_
                refine lv_iload_n (pc := 55) hx hb dX2_lasts_55 rfl (lv_at hl 4 rfl) ?_
                refine lv_imul (pc := 56) hx hb dX2_lasts_56 ?_
                refine k_cong (y := nI (3 * v)) (pk_mul 3 v) ?_
                refine lv_iload (pc := 57) hx hb dX2_lasts_57 (lv_at hl 0 rfl) ?_
                refine lv_iadd (pc := 59) hx hb dX2_lasts_59 ?_
                refine k_cong (y := nI (3 * v + 1)) (nI_add (3 * v) 1) ?_
                refine k_iald (pc := 60) (x := nI (sM σ v 1)) hx hb hK hP 3 0 (ma3 g σ th mi ti rest) rfl (3 * v + 1) rfl (by omega) (by decide) (a3 (fun a b => nI (sM σ a b)) (by omega)) dX2_lasts_60 ?_
                refine lv_imul (pc := 61) hx hb dX2_lasts_61 ?_
                refine k_cong (y := nI ((1 * (sM σ v 2)) * (sM σ v 1))) (pk_mul (1 * (sM σ v 2)) (sM σ v 1)) ?_
                refine lv_istore (lv' := [(4, .int (nI ((1 * (sM σ v 2)) * (sM σ v 1)))), (5, .int 1), (3, .int (nI (24 * v + s0))), (0, .ref (gM g)), (1, .int (nI v)), (2, .int (nI s0))]) (pc := 62) hx hb dX2_lasts_62 hl (by decide) rfl (fun ls hl => ?_)
                refine lv_iinc (v := 0) (lv' := [(5, .int 0), (4, .int (nI ((1 * (sM σ v 2)) * (sM σ v 1)))), (3, .int (nI (24 * v + s0))), (0, .ref (gM g)), (1, .int (nI v)), (2, .int (nI s0))]) (pc := 64) hx hb dX2_lasts_64 hl (k := 1) rfl (by decide) (by decide) rfl (fun ls hl => ?_)
                refine lv_goto (tgt := 13) (pc := 67) hx hb dX2_lasts_67 (by decide) ?_
                refine lv_iload (pc := 13) hx hb dX2_lasts_13 (lv_at hl 0 rfl) ?_
                refine lv_aload_n (pc := 15) hx hb dX2_lasts_15 rfl (lv_at hl 3 rfl) ?_
                refine va_get (v := .ref (gB g 3)) (pc := 16) (D := gD g) (ci := 2) (C := RX2) (T := TX2) (N := 11) hx hb hts hinX2 hown hK hP 0 (ma0 g σ th mi ti rest) rfl 5 (by decide) (hts (.fieldLink RX2 19 "ChoirNotesModel" "kind" "[I") (by decide +kernel)) (fun _ h9 => h9) rfl dX2_lasts_16 ?_
                refine lv_iload_n (pc := 19) hx hb dX2_lasts_19 rfl (lv_at hl 2 rfl) ?_
                refine k_iald (pc := 20) (x := 0) hx hb hK hP 4 0 (ma4 g σ th mi ti rest) rfl (24 * v + s0) rfl (by omega) (by decide) ((a24 (fun a b => nI (sK σ a b)) (by omega)).trans (by rw [hk]; rfl)) dX2_lasts_20 ?_
                refine lv_icmp_lt (tgt := 70) (pc := 21) hx hb dX2_lasts_21 (by decide) (fun c_14 => ?_) (fun c_14 => ?_)
                · exact absurd c_14 (by decide)
                · refine lv_iload (pc := 24) hx hb dX2_lasts_24 (lv_at hl 1 rfl) ?_
                  refine lv_aload_n (pc := 26) hx hb dX2_lasts_26 rfl (lv_at hl 3 rfl) ?_
                  refine va_get (v := .ref (gB g 5)) (pc := 27) (D := gD g) (ci := 2) (C := RX2) (T := TX2) (N := 11) hx hb hts hinX2 hown hK hP 0 (ma0 g σ th mi ti rest) rfl 7 (by decide) (hts (.fieldLink RX2 25 "ChoirNotesModel" "isRed" "[Z") (by decide +kernel)) (fun _ h9 => h9) rfl dX2_lasts_27 ?_
                  refine lv_iload_n (pc := 30) hx hb dX2_lasts_30 rfl (lv_at hl 2 rfl) ?_
                  refine k_zald (pc := 31) (x := 1) hx hb hK hP 6 1 (ma6 g σ th mi ti rest) rfl (24 * v + s0) rfl (by omega) (by decide) ((a24 (fun a b => bI (sR σ a b)) (by omega)).trans (by rw [hrd]; rfl)) dX2_lasts_31 ?_
                  refine lv_if_eq (tgt := 50) (pc := 32) hx hb dX2_lasts_32 (by decide) (fun c_15 => ?_) (fun c_15 => ?_)
                  · exact absurd c_15 (by decide)
                  · refine lv_iload (pc := 35) hx hb dX2_lasts_35 (lv_at hl 0 rfl) ?_
                    refine lv_aload_n (pc := 37) hx hb dX2_lasts_37 rfl (lv_at hl 3 rfl) ?_
                    refine va_get (v := .ref (gB g 3)) (pc := 38) (D := gD g) (ci := 2) (C := RX2) (T := TX2) (N := 11) hx hb hts hinX2 hown hK hP 0 (ma0 g σ th mi ti rest) rfl 5 (by decide) (hts (.fieldLink RX2 19 "ChoirNotesModel" "kind" "[I") (by decide +kernel)) (fun _ h9 => h9) rfl dX2_lasts_38 ?_
                    refine lv_iload_n (pc := 41) hx hb dX2_lasts_41 rfl (lv_at hl 2 rfl) ?_
                    refine k_iald (pc := 42) (x := 0) hx hb hK hP 4 0 (ma4 g σ th mi ti rest) rfl (24 * v + s0) rfl (by omega) (by decide) ((a24 (fun a b => nI (sK σ a b)) (by omega)).trans (by rw [hk]; rfl)) dX2_lasts_42 ?_
                    refine lv_icmp_ne (tgt := 50) (pc := 43) hx hb dX2_lasts_43 (by decide) (fun c_16 => ?_) (fun c_16 => ?_)
                    · exact absurd c_16 (by decide)
                    · refine lv_iconst (v := 2) (pc := 46) hx hb dX2_lasts_46 (by decide) ?_
                      refine lv_goto (tgt := 61) (pc := 47) hx hb dX2_lasts_47 (by decide) ?_
                      refine lv_imul (pc := 61) hx hb dX2_lasts_61 ?_
                      refine k_cong (y := nI (((1 * (sM σ v 2)) * (sM σ v 1)) * 2)) (pk_mul ((1 * (sM σ v 2)) * (sM σ v 1)) 2) ?_
                      refine lv_istore (lv' := [(4, .int (nI (((1 * (sM σ v 2)) * (sM σ v 1)) * 2))), (5, .int 0), (3, .int (nI (24 * v + s0))), (0, .ref (gM g)), (1, .int (nI v)), (2, .int (nI s0))]) (pc := 62) hx hb dX2_lasts_62 hl (by decide) rfl (fun ls hl => ?_)
                      refine lv_iinc (v := (-1)) (lv' := [(5, .int ((-1))), (4, .int (nI (((1 * (sM σ v 2)) * (sM σ v 1)) * 2))), (3, .int (nI (24 * v + s0))), (0, .ref (gM g)), (1, .int (nI v)), (2, .int (nI s0))]) (pc := 64) hx hb dX2_lasts_64 hl (k := 1) rfl (by decide) (by decide) rfl (fun ls hl => ?_)
                      refine lv_goto (tgt := 13) (pc := 67) hx hb dX2_lasts_67 (by decide) ?_
                      refine lv_iload (pc := 13) hx hb dX2_lasts_13 (lv_at hl 0 rfl) ?_
                      refine lv_aload_n (pc := 15) hx hb dX2_lasts_15 rfl (lv_at hl 3 rfl) ?_
                      refine va_get (v := .ref (gB g 3)) (pc := 16) (D := gD g) (ci := 2) (C := RX2) (T := TX2) (N := 11) hx hb hts hinX2 hown hK hP 0 (ma0 g σ th mi ti rest) rfl 5 (by decide) (hts (.fieldLink RX2 19 "ChoirNotesModel" "kind" "[I") (by decide +kernel)) (fun _ h9 => h9) rfl dX2_lasts_16 ?_
                      refine lv_iload_n (pc := 19) hx hb dX2_lasts_19 rfl (lv_at hl 2 rfl) ?_
                      refine k_iald (pc := 20) (x := 0) hx hb hK hP 4 0 (ma4 g σ th mi ti rest) rfl (24 * v + s0) rfl (by omega) (by decide) ((a24 (fun a b => nI (sK σ a b)) (by omega)).trans (by rw [hk]; rfl)) dX2_lasts_20 ?_
                      refine lv_icmp_lt (tgt := 70) (pc := 21) hx hb dX2_lasts_21 (by decide) (fun c_17 => ?_) (fun c_17 => ?_)
                      · refine lv_iload (pc := 70) hx hb dX2_lasts_70 (lv_at hl 1 rfl) ?_
                        exact W.iret hx hb hr (fun t ht hW => ⟨_, rfl, (congrArg nI (by unfold lg lenK; rw [hk, hrd]; first | rfl | exact lg_3 _ _ _ | exact lg_2 _ _ | exact Nat.one_mul _)), ht⟩) (fun q hq => absurd hq List.not_mem_nil) dX2_lasts_72
                      · exact absurd c_17 (by decide)
              · exact absurd c_13 (by decide)
        · exact absurd c_10 (by decide)
  · refine lv_bipush (v := 24) (pc := 0) hx hb dX2_lasts_0 (by decide) ?_
    refine lv_iload_n (pc := 2) hx hb dX2_lasts_2 rfl (lv_at hl 1 rfl) ?_
    refine lv_imul (pc := 3) hx hb dX2_lasts_3 ?_
    refine k_cong (y := nI (24 * v)) (pk_mul 24 v) ?_
    refine lv_iload_n (pc := 4) hx hb dX2_lasts_4 rfl (lv_at hl 2 rfl) ?_
    refine lv_iadd (pc := 5) hx hb dX2_lasts_5 ?_
    refine k_cong (y := nI (24 * v + s0)) (nI_add (24 * v) s0) ?_
    refine lv_istore_n (lv' := [(3, .int (nI (24 * v + s0))), (0, .ref (gM g)), (1, .int (nI v)), (2, .int (nI s0))]) (pc := 6) hx hb dX2_lasts_6 rfl hl (by decide) rfl (fun ls hl => ?_)
    refine lv_iconst (v := 1) (pc := 7) hx hb dX2_lasts_7 (by decide) ?_
    refine lv_istore (lv' := [(4, .int 1), (3, .int (nI (24 * v + s0))), (0, .ref (gM g)), (1, .int (nI v)), (2, .int (nI s0))]) (pc := 8) hx hb dX2_lasts_8 hl (by decide) rfl (fun ls hl => ?_)
    refine lv_iconst (v := 2) (pc := 10) hx hb dX2_lasts_10 (by decide) ?_
    refine lv_istore (lv' := [(5, .int 2), (4, .int 1), (3, .int (nI (24 * v + s0))), (0, .ref (gM g)), (1, .int (nI v)), (2, .int (nI s0))]) (pc := 11) hx hb dX2_lasts_11 hl (by decide) rfl (fun ls hl => ?_)
    refine lv_iload (pc := 13) hx hb dX2_lasts_13 (lv_at hl 0 rfl) ?_
    refine lv_aload_n (pc := 15) hx hb dX2_lasts_15 rfl (lv_at hl 3 rfl) ?_
    refine va_get (v := .ref (gB g 3)) (pc := 16) (D := gD g) (ci := 2) (C := RX2) (T := TX2) (N := 11) hx hb hts hinX2 hown hK hP 0 (ma0 g σ th mi ti rest) rfl 5 (by decide) (hts (.fieldLink RX2 19 "ChoirNotesModel" "kind" "[I") (by decide +kernel)) (fun _ h9 => h9) rfl dX2_lasts_16 ?_
    refine lv_iload_n (pc := 19) hx hb dX2_lasts_19 rfl (lv_at hl 2 rfl) ?_
    refine k_iald (pc := 20) (x := 1) hx hb hK hP 4 0 (ma4 g σ th mi ti rest) rfl (24 * v + s0) rfl (by omega) (by decide) ((a24 (fun a b => nI (sK σ a b)) (by omega)).trans (by rw [hk]; rfl)) dX2_lasts_20 ?_
    refine lv_icmp_lt (tgt := 70) (pc := 21) hx hb dX2_lasts_21 (by decide) (fun c_18 => ?_) (fun c_18 => ?_)
    · exact absurd c_18 (by decide)
    · refine lv_iload (pc := 24) hx hb dX2_lasts_24 (lv_at hl 1 rfl) ?_
      refine lv_aload_n (pc := 26) hx hb dX2_lasts_26 rfl (lv_at hl 3 rfl) ?_
      refine va_get (v := .ref (gB g 5)) (pc := 27) (D := gD g) (ci := 2) (C := RX2) (T := TX2) (N := 11) hx hb hts hinX2 hown hK hP 0 (ma0 g σ th mi ti rest) rfl 7 (by decide) (hts (.fieldLink RX2 25 "ChoirNotesModel" "isRed" "[Z") (by decide +kernel)) (fun _ h9 => h9) rfl dX2_lasts_27 ?_
      refine lv_iload_n (pc := 30) hx hb dX2_lasts_30 rfl (lv_at hl 2 rfl) ?_
      refine k_zald (pc := 31) (x := 0) hx hb hK hP 6 1 (ma6 g σ th mi ti rest) rfl (24 * v + s0) rfl (by omega) (by decide) ((a24 (fun a b => bI (sR σ a b)) (by omega)).trans (by rw [hrd]; rfl)) dX2_lasts_31 ?_
      refine lv_if_eq (tgt := 50) (pc := 32) hx hb dX2_lasts_32 (by decide) (fun c_19 => ?_) (fun c_19 => ?_)
      · refine lv_aload_n (pc := 50) hx hb dX2_lasts_50 rfl (lv_at hl 3 rfl) ?_
        refine va_get (v := .ref (gB g 2)) (pc := 51) (D := gD g) (ci := 2) (C := RX2) (T := TX2) (N := 11) hx hb hts hinX2 hown hK hP 0 (ma0 g σ th mi ti rest) rfl 4 (by decide) (hts (.fieldLink RX2 16 "ChoirNotesModel" "measure" "[I") (by decide +kernel)) (fun _ h9 => h9) rfl dX2_lasts_51 ?_
        refine lv_iconst (v := 3) (pc := 54) hx hb dX2_lasts_54 (by decide) ?_
        refine lv_iload_n (pc := 55) hx hb dX2_lasts_55 rfl (lv_at hl 4 rfl) ?_
        refine lv_imul (pc := 56) hx hb dX2_lasts_56 ?_
        refine k_cong (y := nI (3 * v)) (pk_mul 3 v) ?_
        refine lv_iload (pc := 57) hx hb dX2_lasts_57 (lv_at hl 0 rfl) ?_
        refine lv_iadd (pc := 59) hx hb dX2_lasts_59 ?_
        refine k_cong (y := nI (3 * v + 2)) (nI_add (3 * v) 2) ?_
        refine k_iald (pc := 60) (x := nI (sM σ v 2)) hx hb hK hP 3 0 (ma3 g σ th mi ti rest) rfl (3 * v + 2) rfl (by omega) (by decide) (a3 (fun a b => nI (sM σ a b)) (by omega)) dX2_lasts_60 ?_
        refine lv_imul (pc := 61) hx hb dX2_lasts_61 ?_
        refine k_cong (y := nI (1 * (sM σ v 2))) (pk_mul 1 (sM σ v 2)) ?_
        refine lv_istore (lv' := [(4, .int (nI (1 * (sM σ v 2)))), (5, .int 2), (3, .int (nI (24 * v + s0))), (0, .ref (gM g)), (1, .int (nI v)), (2, .int (nI s0))]) (pc := 62) hx hb dX2_lasts_62 hl (by decide) rfl (fun ls hl => ?_)
        refine lv_iinc (v := 1) (lv' := [(5, .int 1), (4, .int (nI (1 * (sM σ v 2)))), (3, .int (nI (24 * v + s0))), (0, .ref (gM g)), (1, .int (nI v)), (2, .int (nI s0))]) (pc := 64) hx hb dX2_lasts_64 hl (k := 1) rfl (by decide) (by decide) rfl (fun ls hl => ?_)
        refine lv_goto (tgt := 13) (pc := 67) hx hb dX2_lasts_67 (by decide) ?_
        refine lv_iload (pc := 13) hx hb dX2_lasts_13 (lv_at hl 0 rfl) ?_
        refine lv_aload_n (pc := 15) hx hb dX2_lasts_15 rfl (lv_at hl 3 rfl) ?_
        refine va_get (v := .ref (gB g 3)) (pc := 16) (D := gD g) (ci := 2) (C := RX2) (T := TX2) (N := 11) hx hb hts hinX2 hown hK hP 0 (ma0 g σ th mi ti rest) rfl 5 (by decide) (hts (.fieldLink RX2 19 "ChoirNotesModel" "kind" "[I") (by decide +kernel)) (fun _ h9 => h9) rfl dX2_lasts_16 ?_
        refine lv_iload_n (pc := 19) hx hb dX2_lasts_19 rfl (lv_at hl 2 rfl) ?_
        refine k_iald (pc := 20) (x := 1) hx hb hK hP 4 0 (ma4 g σ th mi ti rest) rfl (24 * v + s0) rfl (by omega) (by decide) ((a24 (fun a b => nI (sK σ a b)) (by omega)).trans (by rw [hk]; rfl)) dX2_lasts_20 ?_
        refine lv_icmp_lt (tgt := 70) (pc := 21) hx hb dX2_lasts_21 (by decide) (fun c_20 => ?_) (fun c_20 => ?_)
        · exact absurd c_20 (by decide)
        · refine lv_iload (pc := 24) hx hb dX2_lasts_24 (lv_at hl 1 rfl) ?_
          refine lv_aload_n (pc := 26) hx hb dX2_lasts_26 rfl (lv_at hl 3 rfl) ?_
          refine va_get (v := .ref (gB g 5)) (pc := 27) (D := gD g) (ci := 2) (C := RX2) (T := TX2) (N := 11) hx hb hts hinX2 hown hK hP 0 (ma0 g σ th mi ti rest) rfl 7 (by decide) (hts (.fieldLink RX2 25 "ChoirNotesModel" "isRed" "[Z") (by decide +kernel)) (fun _ h9 => h9) rfl dX2_lasts_27 ?_
          refine lv_iload_n (pc := 30) hx hb dX2_lasts_30 rfl (lv_at hl 2 rfl) ?_
          refine k_zald (pc := 31) (x := 0) hx hb hK hP 6 1 (ma6 g σ th mi ti rest) rfl (24 * v + s0) rfl (by omega) (by decide) ((a24 (fun a b => bI (sR σ a b)) (by omega)).trans (by rw [hrd]; rfl)) dX2_lasts_31 ?_
          refine lv_if_eq (tgt := 50) (pc := 32) hx hb dX2_lasts_32 (by decide) (fun c_21 => ?_) (fun c_21 => ?_)
          · refine lv_aload_n (pc := 50) hx hb dX2_lasts_50 rfl (lv_at hl 3 rfl) ?_
            refine va_get (v := .ref (gB g 2)) (pc := 51) (D := gD g) (ci := 2) (C := RX2) (T := TX2) (N := 11) hx hb hts hinX2 hown hK hP 0 (ma0 g σ th mi ti rest) rfl 4 (by decide) (hts (.fieldLink RX2 16 "ChoirNotesModel" "measure" "[I") (by decide +kernel)) (fun _ h9 => h9) rfl dX2_lasts_51 ?_
            refine lv_iconst (v := 3) (pc := 54) hx hb dX2_lasts_54 (by decide) ?_
            refine lv_iload_n (pc := 55) hx hb dX2_lasts_55 rfl (lv_at hl 4 rfl) ?_
            refine lv_imul (pc := 56) hx hb dX2_lasts_56 ?_
            refine k_cong (y := nI (3 * v)) (pk_mul 3 v) ?_
            refine lv_iload (pc := 57) hx hb dX2_lasts_57 (lv_at hl 0 rfl) ?_
            refine lv_iadd (pc := 59) hx hb dX2_lasts_59 ?_
            refine k_cong (y := nI (3 * v + 1)) (nI_add (3 * v) 1) ?_
            refine k_iald (pc := 60) (x := nI (sM σ v 1)) hx hb hK hP 3 0 (ma3 g σ th mi ti rest) rfl (3 * v + 1) rfl (by omega) (by decide) (a3 (fun a b => nI (sM σ a b)) (by omega)) dX2_lasts_60 ?_
            refine lv_imul (pc := 61) hx hb dX2_lasts_61 ?_
            refine k_cong (y := nI ((1 * (sM σ v 2)) * (sM σ v 1))) (pk_mul (1 * (sM σ v 2)) (sM σ v 1)) ?_
            refine lv_istore (lv' := [(4, .int (nI ((1 * (sM σ v 2)) * (sM σ v 1)))), (5, .int 1), (3, .int (nI (24 * v + s0))), (0, .ref (gM g)), (1, .int (nI v)), (2, .int (nI s0))]) (pc := 62) hx hb dX2_lasts_62 hl (by decide) rfl (fun ls hl => ?_)
            refine lv_iinc (v := 0) (lv' := [(5, .int 0), (4, .int (nI ((1 * (sM σ v 2)) * (sM σ v 1)))), (3, .int (nI (24 * v + s0))), (0, .ref (gM g)), (1, .int (nI v)), (2, .int (nI s0))]) (pc := 64) hx hb dX2_lasts_64 hl (k := 1) rfl (by decide) (by decide) rfl (fun ls hl => ?_)
            refine lv_goto (tgt := 13) (pc := 67) hx hb dX2_lasts_67 (by decide) ?_
            refine lv_iload (pc := 13) hx hb dX2_lasts_13 (lv_at hl 0 rfl) ?_
            refine lv_aload_n (pc := 15) hx hb dX2_lasts_15 rfl (lv_at hl 3 rfl) ?_
            refine va_get (v := .ref (gB g 3)) (pc := 16) (D := gD g) (ci := 2) (C := RX2) (T := TX2) (N := 11) hx hb hts hinX2 hown hK hP 0 (ma0 g σ th mi ti rest) rfl 5 (by decide) (hts (.fieldLink RX2 19 "ChoirNotesModel" "kind" "[I") (by decide +kernel)) (fun _ h9 => h9) rfl dX2_lasts_16 ?_
            refine lv_iload_n (pc := 19) hx hb dX2_lasts_19 rfl (lv_at hl 2 rfl) ?_
            refine k_iald (pc := 20) (x := 1) hx hb hK hP 4 0 (ma4 g σ th mi ti rest) rfl (24 * v + s0) rfl (by omega) (by decide) ((a24 (fun a b => nI (sK σ a b)) (by omega)).trans (by rw [hk]; rfl)) dX2_lasts_20 ?_
            refine lv_icmp_lt (tgt := 70) (pc := 21) hx hb dX2_lasts_21 (by decide) (fun c_22 => ?_) (fun c_22 => ?_)
            · refine lv_iload (pc := 70) hx hb dX2_lasts_70 (lv_at hl 1 rfl) ?_
              exact W.iret hx hb hr (fun t ht hW => ⟨_, rfl, (congrArg nI (by unfold lg lenK; rw [hk, hrd]; first | rfl | exact lg_3 _ _ _ | exact lg_2 _ _ | exact Nat.one_mul _)), ht⟩) (fun q hq => absurd hq List.not_mem_nil) dX2_lasts_72
            · exact absurd c_22 (by decide)
          · exact absurd c_21 (by decide)
      · exact absurd c_19 (by decide)
  · refine lv_bipush (v := 24) (pc := 0) hx hb dX2_lasts_0 (by decide) ?_
    refine lv_iload_n (pc := 2) hx hb dX2_lasts_2 rfl (lv_at hl 1 rfl) ?_
    refine lv_imul (pc := 3) hx hb dX2_lasts_3 ?_
    refine k_cong (y := nI (24 * v)) (pk_mul 24 v) ?_
    refine lv_iload_n (pc := 4) hx hb dX2_lasts_4 rfl (lv_at hl 2 rfl) ?_
    refine lv_iadd (pc := 5) hx hb dX2_lasts_5 ?_
    refine k_cong (y := nI (24 * v + s0)) (nI_add (24 * v) s0) ?_
    refine lv_istore_n (lv' := [(3, .int (nI (24 * v + s0))), (0, .ref (gM g)), (1, .int (nI v)), (2, .int (nI s0))]) (pc := 6) hx hb dX2_lasts_6 rfl hl (by decide) rfl (fun ls hl => ?_)
    refine lv_iconst (v := 1) (pc := 7) hx hb dX2_lasts_7 (by decide) ?_
    refine lv_istore (lv' := [(4, .int 1), (3, .int (nI (24 * v + s0))), (0, .ref (gM g)), (1, .int (nI v)), (2, .int (nI s0))]) (pc := 8) hx hb dX2_lasts_8 hl (by decide) rfl (fun ls hl => ?_)
    refine lv_iconst (v := 2) (pc := 10) hx hb dX2_lasts_10 (by decide) ?_
    refine lv_istore (lv' := [(5, .int 2), (4, .int 1), (3, .int (nI (24 * v + s0))), (0, .ref (gM g)), (1, .int (nI v)), (2, .int (nI s0))]) (pc := 11) hx hb dX2_lasts_11 hl (by decide) rfl (fun ls hl => ?_)
    refine lv_iload (pc := 13) hx hb dX2_lasts_13 (lv_at hl 0 rfl) ?_
    refine lv_aload_n (pc := 15) hx hb dX2_lasts_15 rfl (lv_at hl 3 rfl) ?_
    refine va_get (v := .ref (gB g 3)) (pc := 16) (D := gD g) (ci := 2) (C := RX2) (T := TX2) (N := 11) hx hb hts hinX2 hown hK hP 0 (ma0 g σ th mi ti rest) rfl 5 (by decide) (hts (.fieldLink RX2 19 "ChoirNotesModel" "kind" "[I") (by decide +kernel)) (fun _ h9 => h9) rfl dX2_lasts_16 ?_
    refine lv_iload_n (pc := 19) hx hb dX2_lasts_19 rfl (lv_at hl 2 rfl) ?_
    refine k_iald (pc := 20) (x := 1) hx hb hK hP 4 0 (ma4 g σ th mi ti rest) rfl (24 * v + s0) rfl (by omega) (by decide) ((a24 (fun a b => nI (sK σ a b)) (by omega)).trans (by rw [hk]; rfl)) dX2_lasts_20 ?_
    refine lv_icmp_lt (tgt := 70) (pc := 21) hx hb dX2_lasts_21 (by decide) (fun c_23 => ?_) (fun c_23 => ?_)
    · exact absurd c_23 (by decide)
    · refine lv_iload (pc := 24) hx hb dX2_lasts_24 (lv_at hl 1 rfl) ?_
      refine lv_aload_n (pc := 26) hx hb dX2_lasts_26 rfl (lv_at hl 3 rfl) ?_
      refine va_get (v := .ref (gB g 5)) (pc := 27) (D := gD g) (ci := 2) (C := RX2) (T := TX2) (N := 11) hx hb hts hinX2 hown hK hP 0 (ma0 g σ th mi ti rest) rfl 7 (by decide) (hts (.fieldLink RX2 25 "ChoirNotesModel" "isRed" "[Z") (by decide +kernel)) (fun _ h9 => h9) rfl dX2_lasts_27 ?_
      refine lv_iload_n (pc := 30) hx hb dX2_lasts_30 rfl (lv_at hl 2 rfl) ?_
      refine k_zald (pc := 31) (x := 1) hx hb hK hP 6 1 (ma6 g σ th mi ti rest) rfl (24 * v + s0) rfl (by omega) (by decide) ((a24 (fun a b => bI (sR σ a b)) (by omega)).trans (by rw [hrd]; rfl)) dX2_lasts_31 ?_
      refine lv_if_eq (tgt := 50) (pc := 32) hx hb dX2_lasts_32 (by decide) (fun c_24 => ?_) (fun c_24 => ?_)
      · exact absurd c_24 (by decide)
      · refine lv_iload (pc := 35) hx hb dX2_lasts_35 (lv_at hl 0 rfl) ?_
        refine lv_aload_n (pc := 37) hx hb dX2_lasts_37 rfl (lv_at hl 3 rfl) ?_
        refine va_get (v := .ref (gB g 3)) (pc := 38) (D := gD g) (ci := 2) (C := RX2) (T := TX2) (N := 11) hx hb hts hinX2 hown hK hP 0 (ma0 g σ th mi ti rest) rfl 5 (by decide) (hts (.fieldLink RX2 19 "ChoirNotesModel" "kind" "[I") (by decide +kernel)) (fun _ h9 => h9) rfl dX2_lasts_38 ?_
        refine lv_iload_n (pc := 41) hx hb dX2_lasts_41 rfl (lv_at hl 2 rfl) ?_
        refine k_iald (pc := 42) (x := 1) hx hb hK hP 4 0 (ma4 g σ th mi ti rest) rfl (24 * v + s0) rfl (by omega) (by decide) ((a24 (fun a b => nI (sK σ a b)) (by omega)).trans (by rw [hk]; rfl)) dX2_lasts_42 ?_
        refine lv_icmp_ne (tgt := 50) (pc := 43) hx hb dX2_lasts_43 (by decide) (fun c_25 => ?_) (fun c_25 => ?_)
        · refine lv_aload_n (pc := 50) hx hb dX2_lasts_50 rfl (lv_at hl 3 rfl) ?_
          refine va_get (v := .ref (gB g 2)) (pc := 51) (D := gD g) (ci := 2) (C := RX2) (T := TX2) (N := 11) hx hb hts hinX2 hown hK hP 0 (ma0 g σ th mi ti rest) rfl 4 (by decide) (hts (.fieldLink RX2 16 "ChoirNotesModel" "measure" "[I") (by decide +kernel)) (fun _ h9 => h9) rfl dX2_lasts_51 ?_
          refine lv_iconst (v := 3) (pc := 54) hx hb dX2_lasts_54 (by decide) ?_
          refine lv_iload_n (pc := 55) hx hb dX2_lasts_55 rfl (lv_at hl 4 rfl) ?_
          refine lv_imul (pc := 56) hx hb dX2_lasts_56 ?_
          refine k_cong (y := nI (3 * v)) (pk_mul 3 v) ?_
          refine lv_iload (pc := 57) hx hb dX2_lasts_57 (lv_at hl 0 rfl) ?_
          refine lv_iadd (pc := 59) hx hb dX2_lasts_59 ?_
          refine k_cong (y := nI (3 * v + 2)) (nI_add (3 * v) 2) ?_
          refine k_iald (pc := 60) (x := nI (sM σ v 2)) hx hb hK hP 3 0 (ma3 g σ th mi ti rest) rfl (3 * v + 2) rfl (by omega) (by decide) (a3 (fun a b => nI (sM σ a b)) (by omega)) dX2_lasts_60 ?_
          refine lv_imul (pc := 61) hx hb dX2_lasts_61 ?_
          refine k_cong (y := nI (1 * (sM σ v 2))) (pk_mul 1 (sM σ v 2)) ?_
          refine lv_istore (lv' := [(4, .int (nI (1 * (sM σ v 2)))), (5, .int 2), (3, .int (nI (24 * v + s0))), (0, .ref (gM g)), (1, .int (nI v)), (2, .int (nI s0))]) (pc := 62) hx hb dX2_lasts_62 hl (by decide) rfl (fun ls hl => ?_)
          refine lv_iinc (v := 1) (lv' := [(5, .int 1), (4, .int (nI (1 * (sM σ v 2)))), (3, .int (nI (24 * v + s0))), (0, .ref (gM g)), (1, .int (nI v)), (2, .int (nI s0))]) (pc := 64) hx hb dX2_lasts_64 hl (k := 1) rfl (by decide) (by decide) rfl (fun ls hl => ?_)
          refine lv_goto (tgt := 13) (pc := 67) hx hb dX2_lasts_67 (by decide) ?_
          refine lv_iload (pc := 13) hx hb dX2_lasts_13 (lv_at hl 0 rfl) ?_
          refine lv_aload_n (pc := 15) hx hb dX2_lasts_15 rfl (lv_at hl 3 rfl) ?_
          refine va_get (v := .ref (gB g 3)) (pc := 16) (D := gD g) (ci := 2) (C := RX2) (T := TX2) (N := 11) hx hb hts hinX2 hown hK hP 0 (ma0 g σ th mi ti rest) rfl 5 (by decide) (hts (.fieldLink RX2 19 "ChoirNotesModel" "kind" "[I") (by decide +kernel)) (fun _ h9 => h9) rfl dX2_lasts_16 ?_
          refine lv_iload_n (pc := 19) hx hb dX2_lasts_19 rfl (lv_at hl 2 rfl) ?_
          refine k_iald (pc := 20) (x := 1) hx hb hK hP 4 0 (ma4 g σ th mi ti rest) rfl (24 * v + s0) rfl (by omega) (by decide) ((a24 (fun a b => nI (sK σ a b)) (by omega)).trans (by rw [hk]; rfl)) dX2_lasts_20 ?_
          refine lv_icmp_lt (tgt := 70) (pc := 21) hx hb dX2_lasts_21 (by decide) (fun c_26 => ?_) (fun c_26 => ?_)
          · exact absurd c_26 (by decide)
          · refine lv_iload (pc := 24) hx hb dX2_lasts_24 (lv_at hl 1 rfl) ?_
            refine lv_aload_n (pc := 26) hx hb dX2_lasts_26 rfl (lv_at hl 3 rfl) ?_
            refine va_get (v := .ref (gB g 5)) (pc := 27) (D := gD g) (ci := 2) (C := RX2) (T := TX2) (N := 11) hx hb hts hinX2 hown hK hP 0 (ma0 g σ th mi ti rest) rfl 7 (by decide) (hts (.fieldLink RX2 25 "ChoirNotesModel" "isRed" "[Z") (by decide +kernel)) (fun _ h9 => h9) rfl dX2_lasts_27 ?_
            refine lv_iload_n (pc := 30) hx hb dX2_lasts_30 rfl (lv_at hl 2 rfl) ?_
            refine k_zald (pc := 31) (x := 1) hx hb hK hP 6 1 (ma6 g σ th mi ti rest) rfl (24 * v + s0) rfl (by omega) (by decide) ((a24 (fun a b => bI (sR σ a b)) (by omega)).trans (by rw [hrd]; rfl)) dX2_lasts_31 ?_
            refine lv_if_eq (tgt := 50) (pc := 32) hx hb dX2_lasts_32 (by decide) (fun c_27 => ?_) (fun c_27 => ?_)
            · exact absurd c_27 (by decide)
            · refine lv_iload (pc := 35) hx hb dX2_lasts_35 (lv_at hl 0 rfl) ?_
              refine lv_aload_n (pc := 37) hx hb dX2_lasts_37 rfl (lv_at hl 3 rfl) ?_
              refine va_get (v := .ref (gB g 3)) (pc := 38) (D := gD g) (ci := 2) (C := RX2) (T := TX2) (N := 11) hx hb hts hinX2 hown hK hP 0 (ma0 g σ th mi ti rest) rfl 5 (by decide) (hts (.fieldLink RX2 19 "ChoirNotesModel" "kind" "[I") (by decide +kernel)) (fun _ h9 => h9) rfl dX2_lasts_38 ?_
              refine lv_iload_n (pc := 41) hx hb dX2_lasts_41 rfl (lv_at hl 2 rfl) ?_
              refine k_iald (pc := 42) (x := 1) hx hb hK hP 4 0 (ma4 g σ th mi ti rest) rfl (24 * v + s0) rfl (by omega) (by decide) ((a24 (fun a b => nI (sK σ a b)) (by omega)).trans (by rw [hk]; rfl)) dX2_lasts_42 ?_
              refine lv_icmp_ne (tgt := 50) (pc := 43) hx hb dX2_lasts_43 (by decide) (fun c_28 => ?_) (fun c_28 => ?_)
              · exact absurd c_28 (by decide)
              · refine lv_iconst (v := 2) (pc := 46) hx hb dX2_lasts_46 (by decide) ?_
                refine lv_goto (tgt := 61) (pc := 47) hx hb dX2_lasts_47 (by decide) ?_
                refine lv_imul (pc := 61) hx hb dX2_lasts_61 ?_
                refine k_cong (y := nI ((1 * (sM σ v 2)) * 2)) (pk_mul (1 * (sM σ v 2)) 2) ?_
                refine lv_istore (lv' := [(4, .int (nI ((1 * (sM σ v 2)) * 2))), (5, .int 1), (3, .int (nI (24 * v + s0))), (0, .ref (gM g)), (1, .int (nI v)), (2, .int (nI s0))]) (pc := 62) hx hb dX2_lasts_62 hl (by decide) rfl (fun ls hl => ?_)
                refine lv_iinc (v := 0) (lv' := [(5, .int 0), (4, .int (nI ((1 * (sM σ v 2)) * 2))), (3, .int (nI (24 * v + s0))), (0, .ref (gM g)), (1, .int (nI v)), (2, .int (nI s0))]) (pc := 64) hx hb dX2_lasts_64 hl (k := 1) rfl (by decide) (by decide) rfl (fun ls hl => ?_)
                refine lv_goto (tgt := 13) (pc := 67) hx hb dX2_lasts_67 (by decide) ?_
                refine lv_iload (pc := 13) hx hb dX2_lasts_13 (lv_at hl 0 rfl) ?_
                refine lv_aload_n (pc := 15) hx hb dX2_lasts_15 rfl (lv_at hl 3 rfl) ?_
                refine va_get (v := .ref (gB g 3)) (pc := 16) (D := gD g) (ci := 2) (C := RX2) (T := TX2) (N := 11) hx hb hts hinX2 hown hK hP 0 (ma0 g σ th mi ti rest) rfl 5 (by decide) (hts (.fieldLink RX2 19 "ChoirNotesModel" "kind" "[I") (by decide +kernel)) (fun _ h9 => h9) rfl dX2_lasts_16 ?_
                refine lv_iload_n (pc := 19) hx hb dX2_lasts_19 rfl (lv_at hl 2 rfl) ?_
                refine k_iald (pc := 20) (x := 1) hx hb hK hP 4 0 (ma4 g σ th mi ti rest) rfl (24 * v + s0) rfl (by omega) (by decide) ((a24 (fun a b => nI (sK σ a b)) (by omega)).trans (by rw [hk]; rfl)) dX2_lasts_20 ?_
                refine lv_icmp_lt (tgt := 70) (pc := 21) hx hb dX2_lasts_21 (by decide) (fun c_29 => ?_) (fun c_29 => ?_)
                · refine lv_iload (pc := 70) hx hb dX2_lasts_70 (lv_at hl 1 rfl) ?_
                  exact W.iret hx hb hr (fun t ht hW => ⟨_, rfl, (congrArg nI (by unfold lg lenK; rw [hk, hrd]; first | rfl | exact lg_3 _ _ _ | exact lg_2 _ _ | exact Nat.one_mul _)), ht⟩) (fun q hq => absurd hq List.not_mem_nil) dX2_lasts_72
                · exact absurd c_29 (by decide)
        · exact absurd c_25 (by decide)
  · refine lv_bipush (v := 24) (pc := 0) hx hb dX2_lasts_0 (by decide) ?_
    refine lv_iload_n (pc := 2) hx hb dX2_lasts_2 rfl (lv_at hl 1 rfl) ?_
    refine lv_imul (pc := 3) hx hb dX2_lasts_3 ?_
    refine k_cong (y := nI (24 * v)) (pk_mul 24 v) ?_
    refine lv_iload_n (pc := 4) hx hb dX2_lasts_4 rfl (lv_at hl 2 rfl) ?_
    refine lv_iadd (pc := 5) hx hb dX2_lasts_5 ?_
    refine k_cong (y := nI (24 * v + s0)) (nI_add (24 * v) s0) ?_
    refine lv_istore_n (lv' := [(3, .int (nI (24 * v + s0))), (0, .ref (gM g)), (1, .int (nI v)), (2, .int (nI s0))]) (pc := 6) hx hb dX2_lasts_6 rfl hl (by decide) rfl (fun ls hl => ?_)
    refine lv_iconst (v := 1) (pc := 7) hx hb dX2_lasts_7 (by decide) ?_
    refine lv_istore (lv' := [(4, .int 1), (3, .int (nI (24 * v + s0))), (0, .ref (gM g)), (1, .int (nI v)), (2, .int (nI s0))]) (pc := 8) hx hb dX2_lasts_8 hl (by decide) rfl (fun ls hl => ?_)
    refine lv_iconst (v := 2) (pc := 10) hx hb dX2_lasts_10 (by decide) ?_
    refine lv_istore (lv' := [(5, .int 2), (4, .int 1), (3, .int (nI (24 * v + s0))), (0, .ref (gM g)), (1, .int (nI v)), (2, .int (nI s0))]) (pc := 11) hx hb dX2_lasts_11 hl (by decide) rfl (fun ls hl => ?_)
    refine lv_iload (pc := 13) hx hb dX2_lasts_13 (lv_at hl 0 rfl) ?_
    refine lv_aload_n (pc := 15) hx hb dX2_lasts_15 rfl (lv_at hl 3 rfl) ?_
    refine va_get (v := .ref (gB g 3)) (pc := 16) (D := gD g) (ci := 2) (C := RX2) (T := TX2) (N := 11) hx hb hts hinX2 hown hK hP 0 (ma0 g σ th mi ti rest) rfl 5 (by decide) (hts (.fieldLink RX2 19 "ChoirNotesModel" "kind" "[I") (by decide +kernel)) (fun _ h9 => h9) rfl dX2_lasts_16 ?_
    refine lv_iload_n (pc := 19) hx hb dX2_lasts_19 rfl (lv_at hl 2 rfl) ?_
    refine k_iald (pc := 20) (x := 2) hx hb hK hP 4 0 (ma4 g σ th mi ti rest) rfl (24 * v + s0) rfl (by omega) (by decide) ((a24 (fun a b => nI (sK σ a b)) (by omega)).trans (by rw [hk]; rfl)) dX2_lasts_20 ?_
    refine lv_icmp_lt (tgt := 70) (pc := 21) hx hb dX2_lasts_21 (by decide) (fun c_30 => ?_) (fun c_30 => ?_)
    · exact absurd c_30 (by decide)
    · refine lv_iload (pc := 24) hx hb dX2_lasts_24 (lv_at hl 1 rfl) ?_
      refine lv_aload_n (pc := 26) hx hb dX2_lasts_26 rfl (lv_at hl 3 rfl) ?_
      refine va_get (v := .ref (gB g 5)) (pc := 27) (D := gD g) (ci := 2) (C := RX2) (T := TX2) (N := 11) hx hb hts hinX2 hown hK hP 0 (ma0 g σ th mi ti rest) rfl 7 (by decide) (hts (.fieldLink RX2 25 "ChoirNotesModel" "isRed" "[Z") (by decide +kernel)) (fun _ h9 => h9) rfl dX2_lasts_27 ?_
      refine lv_iload_n (pc := 30) hx hb dX2_lasts_30 rfl (lv_at hl 2 rfl) ?_
      refine k_zald (pc := 31) (x := 0) hx hb hK hP 6 1 (ma6 g σ th mi ti rest) rfl (24 * v + s0) rfl (by omega) (by decide) ((a24 (fun a b => bI (sR σ a b)) (by omega)).trans (by rw [hrd]; rfl)) dX2_lasts_31 ?_
      refine lv_if_eq (tgt := 50) (pc := 32) hx hb dX2_lasts_32 (by decide) (fun c_31 => ?_) (fun c_31 => ?_)
      · refine lv_aload_n (pc := 50) hx hb dX2_lasts_50 rfl (lv_at hl 3 rfl) ?_
        refine va_get (v := .ref (gB g 2)) (pc := 51) (D := gD g) (ci := 2) (C := RX2) (T := TX2) (N := 11) hx hb hts hinX2 hown hK hP 0 (ma0 g σ th mi ti rest) rfl 4 (by decide) (hts (.fieldLink RX2 16 "ChoirNotesModel" "measure" "[I") (by decide +kernel)) (fun _ h9 => h9) rfl dX2_lasts_51 ?_
        refine lv_iconst (v := 3) (pc := 54) hx hb dX2_lasts_54 (by decide) ?_
        refine lv_iload_n (pc := 55) hx hb dX2_lasts_55 rfl (lv_at hl 4 rfl) ?_
        refine lv_imul (pc := 56) hx hb dX2_lasts_56 ?_
        refine k_cong (y := nI (3 * v)) (pk_mul 3 v) ?_
        refine lv_iload (pc := 57) hx hb dX2_lasts_57 (lv_at hl 0 rfl) ?_
        refine lv_iadd (pc := 59) hx hb dX2_lasts_59 ?_
        refine k_cong (y := nI (3 * v + 2)) (nI_add (3 * v) 2) ?_
        refine k_iald (pc := 60) (x := nI (sM σ v 2)) hx hb hK hP 3 0 (ma3 g σ th mi ti rest) rfl (3 * v + 2) rfl (by omega) (by decide) (a3 (fun a b => nI (sM σ a b)) (by omega)) dX2_lasts_60 ?_
        refine lv_imul (pc := 61) hx hb dX2_lasts_61 ?_
        refine k_cong (y := nI (1 * (sM σ v 2))) (pk_mul 1 (sM σ v 2)) ?_
        refine lv_istore (lv' := [(4, .int (nI (1 * (sM σ v 2)))), (5, .int 2), (3, .int (nI (24 * v + s0))), (0, .ref (gM g)), (1, .int (nI v)), (2, .int (nI s0))]) (pc := 62) hx hb dX2_lasts_62 hl (by decide) rfl (fun ls hl => ?_)
        refine lv_iinc (v := 1) (lv' := [(5, .int 1), (4, .int (nI (1 * (sM σ v 2)))), (3, .int (nI (24 * v + s0))), (0, .ref (gM g)), (1, .int (nI v)), (2, .int (nI s0))]) (pc := 64) hx hb dX2_lasts_64 hl (k := 1) rfl (by decide) (by decide) rfl (fun ls hl => ?_)
        refine lv_goto (tgt := 13) (pc := 67) hx hb dX2_lasts_67 (by decide) ?_
        refine lv_iload (pc := 13) hx hb dX2_lasts_13 (lv_at hl 0 rfl) ?_
        refine lv_aload_n (pc := 15) hx hb dX2_lasts_15 rfl (lv_at hl 3 rfl) ?_
        refine va_get (v := .ref (gB g 3)) (pc := 16) (D := gD g) (ci := 2) (C := RX2) (T := TX2) (N := 11) hx hb hts hinX2 hown hK hP 0 (ma0 g σ th mi ti rest) rfl 5 (by decide) (hts (.fieldLink RX2 19 "ChoirNotesModel" "kind" "[I") (by decide +kernel)) (fun _ h9 => h9) rfl dX2_lasts_16 ?_
        refine lv_iload_n (pc := 19) hx hb dX2_lasts_19 rfl (lv_at hl 2 rfl) ?_
        refine k_iald (pc := 20) (x := 2) hx hb hK hP 4 0 (ma4 g σ th mi ti rest) rfl (24 * v + s0) rfl (by omega) (by decide) ((a24 (fun a b => nI (sK σ a b)) (by omega)).trans (by rw [hk]; rfl)) dX2_lasts_20 ?_
        refine lv_icmp_lt (tgt := 70) (pc := 21) hx hb dX2_lasts_21 (by decide) (fun c_32 => ?_) (fun c_32 => ?_)
        · refine lv_iload (pc := 70) hx hb dX2_lasts_70 (lv_at hl 1 rfl) ?_
          exact W.iret hx hb hr (fun t ht hW => ⟨_, rfl, (congrArg nI (by unfold lg lenK; rw [hk, hrd]; first | rfl | exact lg_3 _ _ _ | exact lg_2 _ _ | exact Nat.one_mul _)), ht⟩) (fun q hq => absurd hq List.not_mem_nil) dX2_lasts_72
        · exact absurd c_32 (by decide)
      · exact absurd c_31 (by decide)
  · refine lv_bipush (v := 24) (pc := 0) hx hb dX2_lasts_0 (by decide) ?_
    refine lv_iload_n (pc := 2) hx hb dX2_lasts_2 rfl (lv_at hl 1 rfl) ?_
    refine lv_imul (pc := 3) hx hb dX2_lasts_3 ?_
    refine k_cong (y := nI (24 * v)) (pk_mul 24 v) ?_
    refine lv_iload_n (pc := 4) hx hb dX2_lasts_4 rfl (lv_at hl 2 rfl) ?_
    refine lv_iadd (pc := 5) hx hb dX2_lasts_5 ?_
    refine k_cong (y := nI (24 * v + s0)) (nI_add (24 * v) s0) ?_
    refine lv_istore_n (lv' := [(3, .int (nI (24 * v + s0))), (0, .ref (gM g)), (1, .int (nI v)), (2, .int (nI s0))]) (pc := 6) hx hb dX2_lasts_6 rfl hl (by decide) rfl (fun ls hl => ?_)
    refine lv_iconst (v := 1) (pc := 7) hx hb dX2_lasts_7 (by decide) ?_
    refine lv_istore (lv' := [(4, .int 1), (3, .int (nI (24 * v + s0))), (0, .ref (gM g)), (1, .int (nI v)), (2, .int (nI s0))]) (pc := 8) hx hb dX2_lasts_8 hl (by decide) rfl (fun ls hl => ?_)
    refine lv_iconst (v := 2) (pc := 10) hx hb dX2_lasts_10 (by decide) ?_
    refine lv_istore (lv' := [(5, .int 2), (4, .int 1), (3, .int (nI (24 * v + s0))), (0, .ref (gM g)), (1, .int (nI v)), (2, .int (nI s0))]) (pc := 11) hx hb dX2_lasts_11 hl (by decide) rfl (fun ls hl => ?_)
    refine lv_iload (pc := 13) hx hb dX2_lasts_13 (lv_at hl 0 rfl) ?_
    refine lv_aload_n (pc := 15) hx hb dX2_lasts_15 rfl (lv_at hl 3 rfl) ?_
    refine va_get (v := .ref (gB g 3)) (pc := 16) (D := gD g) (ci := 2) (C := RX2) (T := TX2) (N := 11) hx hb hts hinX2 hown hK hP 0 (ma0 g σ th mi ti rest) rfl 5 (by decide) (hts (.fieldLink RX2 19 "ChoirNotesModel" "kind" "[I") (by decide +kernel)) (fun _ h9 => h9) rfl dX2_lasts_16 ?_
    refine lv_iload_n (pc := 19) hx hb dX2_lasts_19 rfl (lv_at hl 2 rfl) ?_
    refine k_iald (pc := 20) (x := 2) hx hb hK hP 4 0 (ma4 g σ th mi ti rest) rfl (24 * v + s0) rfl (by omega) (by decide) ((a24 (fun a b => nI (sK σ a b)) (by omega)).trans (by rw [hk]; rfl)) dX2_lasts_20 ?_
    refine lv_icmp_lt (tgt := 70) (pc := 21) hx hb dX2_lasts_21 (by decide) (fun c_33 => ?_) (fun c_33 => ?_)
    · exact absurd c_33 (by decide)
    · refine lv_iload (pc := 24) hx hb dX2_lasts_24 (lv_at hl 1 rfl) ?_
      refine lv_aload_n (pc := 26) hx hb dX2_lasts_26 rfl (lv_at hl 3 rfl) ?_
      refine va_get (v := .ref (gB g 5)) (pc := 27) (D := gD g) (ci := 2) (C := RX2) (T := TX2) (N := 11) hx hb hts hinX2 hown hK hP 0 (ma0 g σ th mi ti rest) rfl 7 (by decide) (hts (.fieldLink RX2 25 "ChoirNotesModel" "isRed" "[Z") (by decide +kernel)) (fun _ h9 => h9) rfl dX2_lasts_27 ?_
      refine lv_iload_n (pc := 30) hx hb dX2_lasts_30 rfl (lv_at hl 2 rfl) ?_
      refine k_zald (pc := 31) (x := 1) hx hb hK hP 6 1 (ma6 g σ th mi ti rest) rfl (24 * v + s0) rfl (by omega) (by decide) ((a24 (fun a b => bI (sR σ a b)) (by omega)).trans (by rw [hrd]; rfl)) dX2_lasts_31 ?_
      refine lv_if_eq (tgt := 50) (pc := 32) hx hb dX2_lasts_32 (by decide) (fun c_34 => ?_) (fun c_34 => ?_)
      · exact absurd c_34 (by decide)
      · refine lv_iload (pc := 35) hx hb dX2_lasts_35 (lv_at hl 0 rfl) ?_
        refine lv_aload_n (pc := 37) hx hb dX2_lasts_37 rfl (lv_at hl 3 rfl) ?_
        refine va_get (v := .ref (gB g 3)) (pc := 38) (D := gD g) (ci := 2) (C := RX2) (T := TX2) (N := 11) hx hb hts hinX2 hown hK hP 0 (ma0 g σ th mi ti rest) rfl 5 (by decide) (hts (.fieldLink RX2 19 "ChoirNotesModel" "kind" "[I") (by decide +kernel)) (fun _ h9 => h9) rfl dX2_lasts_38 ?_
        refine lv_iload_n (pc := 41) hx hb dX2_lasts_41 rfl (lv_at hl 2 rfl) ?_
        refine k_iald (pc := 42) (x := 2) hx hb hK hP 4 0 (ma4 g σ th mi ti rest) rfl (24 * v + s0) rfl (by omega) (by decide) ((a24 (fun a b => nI (sK σ a b)) (by omega)).trans (by rw [hk]; rfl)) dX2_lasts_42 ?_
        refine lv_icmp_ne (tgt := 50) (pc := 43) hx hb dX2_lasts_43 (by decide) (fun c_35 => ?_) (fun c_35 => ?_)
        · exact absurd c_35 (by decide)
        · refine lv_iconst (v := 2) (pc := 46) hx hb dX2_lasts_46 (by decide) ?_
          refine lv_goto (tgt := 61) (pc := 47) hx hb dX2_lasts_47 (by decide) ?_
          refine lv_imul (pc := 61) hx hb dX2_lasts_61 ?_
          refine k_cong (y := nI (1 * 2)) (pk_mul 1 2) ?_
          refine lv_istore (lv' := [(4, .int (nI (1 * 2))), (5, .int 2), (3, .int (nI (24 * v + s0))), (0, .ref (gM g)), (1, .int (nI v)), (2, .int (nI s0))]) (pc := 62) hx hb dX2_lasts_62 hl (by decide) rfl (fun ls hl => ?_)
          refine lv_iinc (v := 1) (lv' := [(5, .int 1), (4, .int (nI (1 * 2))), (3, .int (nI (24 * v + s0))), (0, .ref (gM g)), (1, .int (nI v)), (2, .int (nI s0))]) (pc := 64) hx hb dX2_lasts_64 hl (k := 1) rfl (by decide) (by decide) rfl (fun ls hl => ?_)
          refine lv_goto (tgt := 13) (pc := 67) hx hb dX2_lasts_67 (by decide) ?_
          refine lv_iload (pc := 13) hx hb dX2_lasts_13 (lv_at hl 0 rfl) ?_
          refine lv_aload_n (pc := 15) hx hb dX2_lasts_15 rfl (lv_at hl 3 rfl) ?_
          refine va_get (v := .ref (gB g 3)) (pc := 16) (D := gD g) (ci := 2) (C := RX2) (T := TX2) (N := 11) hx hb hts hinX2 hown hK hP 0 (ma0 g σ th mi ti rest) rfl 5 (by decide) (hts (.fieldLink RX2 19 "ChoirNotesModel" "kind" "[I") (by decide +kernel)) (fun _ h9 => h9) rfl dX2_lasts_16 ?_
          refine lv_iload_n (pc := 19) hx hb dX2_lasts_19 rfl (lv_at hl 2 rfl) ?_
          refine k_iald (pc := 20) (x := 2) hx hb hK hP 4 0 (ma4 g σ th mi ti rest) rfl (24 * v + s0) rfl (by omega) (by decide) ((a24 (fun a b => nI (sK σ a b)) (by omega)).trans (by rw [hk]; rfl)) dX2_lasts_20 ?_
          refine lv_icmp_lt (tgt := 70) (pc := 21) hx hb dX2_lasts_21 (by decide) (fun c_36 => ?_) (fun c_36 => ?_)
          · refine lv_iload (pc := 70) hx hb dX2_lasts_70 (lv_at hl 1 rfl) ?_
            exact W.iret hx hb hr (fun t ht hW => ⟨_, rfl, (congrArg nI (by unfold lg lenK; rw [hk, hrd]; first | rfl | exact lg_3 _ _ _ | exact lg_2 _ _ | exact Nat.one_mul _)), ht⟩) (fun q hq => absurd hq List.not_mem_nil) dX2_lasts_72
          · exact absurd c_36 (by decide)
  · refine lv_bipush (v := 24) (pc := 0) hx hb dX2_lasts_0 (by decide) ?_
    refine lv_iload_n (pc := 2) hx hb dX2_lasts_2 rfl (lv_at hl 1 rfl) ?_
    refine lv_imul (pc := 3) hx hb dX2_lasts_3 ?_
    refine k_cong (y := nI (24 * v)) (pk_mul 24 v) ?_
    refine lv_iload_n (pc := 4) hx hb dX2_lasts_4 rfl (lv_at hl 2 rfl) ?_
    refine lv_iadd (pc := 5) hx hb dX2_lasts_5 ?_
    refine k_cong (y := nI (24 * v + s0)) (nI_add (24 * v) s0) ?_
    refine lv_istore_n (lv' := [(3, .int (nI (24 * v + s0))), (0, .ref (gM g)), (1, .int (nI v)), (2, .int (nI s0))]) (pc := 6) hx hb dX2_lasts_6 rfl hl (by decide) rfl (fun ls hl => ?_)
    refine lv_iconst (v := 1) (pc := 7) hx hb dX2_lasts_7 (by decide) ?_
    refine lv_istore (lv' := [(4, .int 1), (3, .int (nI (24 * v + s0))), (0, .ref (gM g)), (1, .int (nI v)), (2, .int (nI s0))]) (pc := 8) hx hb dX2_lasts_8 hl (by decide) rfl (fun ls hl => ?_)
    refine lv_iconst (v := 2) (pc := 10) hx hb dX2_lasts_10 (by decide) ?_
    refine lv_istore (lv' := [(5, .int 2), (4, .int 1), (3, .int (nI (24 * v + s0))), (0, .ref (gM g)), (1, .int (nI v)), (2, .int (nI s0))]) (pc := 11) hx hb dX2_lasts_11 hl (by decide) rfl (fun ls hl => ?_)
    refine lv_iload (pc := 13) hx hb dX2_lasts_13 (lv_at hl 0 rfl) ?_
    refine lv_aload_n (pc := 15) hx hb dX2_lasts_15 rfl (lv_at hl 3 rfl) ?_
    refine va_get (v := .ref (gB g 3)) (pc := 16) (D := gD g) (ci := 2) (C := RX2) (T := TX2) (N := 11) hx hb hts hinX2 hown hK hP 0 (ma0 g σ th mi ti rest) rfl 5 (by decide) (hts (.fieldLink RX2 19 "ChoirNotesModel" "kind" "[I") (by decide +kernel)) (fun _ h9 => h9) rfl dX2_lasts_16 ?_
    refine lv_iload_n (pc := 19) hx hb dX2_lasts_19 rfl (lv_at hl 2 rfl) ?_
    refine k_iald (pc := 20) (x := 3) hx hb hK hP 4 0 (ma4 g σ th mi ti rest) rfl (24 * v + s0) rfl (by omega) (by decide) ((a24 (fun a b => nI (sK σ a b)) (by omega)).trans (by rw [hk]; rfl)) dX2_lasts_20 ?_
    refine lv_icmp_lt (tgt := 70) (pc := 21) hx hb dX2_lasts_21 (by decide) (fun c_37 => ?_) (fun c_37 => ?_)
    · refine lv_iload (pc := 70) hx hb dX2_lasts_70 (lv_at hl 1 rfl) ?_
      exact W.iret hx hb hr (fun t ht hW => ⟨_, rfl, (congrArg nI (by unfold lg lenK; rw [hk, hrd]; first | rfl | exact lg_3 _ _ _ | exact lg_2 _ _ | exact Nat.one_mul _)), ht⟩) (fun q hq => absurd hq List.not_mem_nil) dX2_lasts_72
    · exact absurd c_37 (by decide)
  · refine lv_bipush (v := 24) (pc := 0) hx hb dX2_lasts_0 (by decide) ?_
    refine lv_iload_n (pc := 2) hx hb dX2_lasts_2 rfl (lv_at hl 1 rfl) ?_
    refine lv_imul (pc := 3) hx hb dX2_lasts_3 ?_
    refine k_cong (y := nI (24 * v)) (pk_mul 24 v) ?_
    refine lv_iload_n (pc := 4) hx hb dX2_lasts_4 rfl (lv_at hl 2 rfl) ?_
    refine lv_iadd (pc := 5) hx hb dX2_lasts_5 ?_
    refine k_cong (y := nI (24 * v + s0)) (nI_add (24 * v) s0) ?_
    refine lv_istore_n (lv' := [(3, .int (nI (24 * v + s0))), (0, .ref (gM g)), (1, .int (nI v)), (2, .int (nI s0))]) (pc := 6) hx hb dX2_lasts_6 rfl hl (by decide) rfl (fun ls hl => ?_)
    refine lv_iconst (v := 1) (pc := 7) hx hb dX2_lasts_7 (by decide) ?_
    refine lv_istore (lv' := [(4, .int 1), (3, .int (nI (24 * v + s0))), (0, .ref (gM g)), (1, .int (nI v)), (2, .int (nI s0))]) (pc := 8) hx hb dX2_lasts_8 hl (by decide) rfl (fun ls hl => ?_)
    refine lv_iconst (v := 2) (pc := 10) hx hb dX2_lasts_10 (by decide) ?_
    refine lv_istore (lv' := [(5, .int 2), (4, .int 1), (3, .int (nI (24 * v + s0))), (0, .ref (gM g)), (1, .int (nI v)), (2, .int (nI s0))]) (pc := 11) hx hb dX2_lasts_11 hl (by decide) rfl (fun ls hl => ?_)
    refine lv_iload (pc := 13) hx hb dX2_lasts_13 (lv_at hl 0 rfl) ?_
    refine lv_aload_n (pc := 15) hx hb dX2_lasts_15 rfl (lv_at hl 3 rfl) ?_
    refine va_get (v := .ref (gB g 3)) (pc := 16) (D := gD g) (ci := 2) (C := RX2) (T := TX2) (N := 11) hx hb hts hinX2 hown hK hP 0 (ma0 g σ th mi ti rest) rfl 5 (by decide) (hts (.fieldLink RX2 19 "ChoirNotesModel" "kind" "[I") (by decide +kernel)) (fun _ h9 => h9) rfl dX2_lasts_16 ?_
    refine lv_iload_n (pc := 19) hx hb dX2_lasts_19 rfl (lv_at hl 2 rfl) ?_
    refine k_iald (pc := 20) (x := 3) hx hb hK hP 4 0 (ma4 g σ th mi ti rest) rfl (24 * v + s0) rfl (by omega) (by decide) ((a24 (fun a b => nI (sK σ a b)) (by omega)).trans (by rw [hk]; rfl)) dX2_lasts_20 ?_
    refine lv_icmp_lt (tgt := 70) (pc := 21) hx hb dX2_lasts_21 (by decide) (fun c_38 => ?_) (fun c_38 => ?_)
    · refine lv_iload (pc := 70) hx hb dX2_lasts_70 (lv_at hl 1 rfl) ?_
      exact W.iret hx hb hr (fun t ht hW => ⟨_, rfl, (congrArg nI (by unfold lg lenK; rw [hk, hrd]; first | rfl | exact lg_3 _ _ _ | exact lg_2 _ _ | exact Nat.one_mul _)), ht⟩) (fun q hq => absurd hq List.not_mem_nil) dX2_lasts_72
    · exact absurd c_38 (by decide)
set_option maxHeartbeats 4000000 in
set_option maxRecDepth 100000 in
/-- how long a voice is -/
theorem cX2_all_m (l : Launch) (g : GA) (A : Nat → Prop) (σ : St) (rest : va_W) (th : Int32) (mi ti : Nat → Int32) (v : Nat) (hv : v < 4) (hI : Inv σ) : Met l yX2_all wsX2_all ({ frames := 1, cells := 0, slots := 0, locals := 25 }) (va_Pc [.ref (gM g), .int (nI v)] (Cx g A (mw g σ th mi ti ++ rest))) (vp_Si (fun r : Int32 => r = nI (len σ v))) 0 0 (fun _ => False) := by
  refine Met.ofW (cc := cX2_all) (maxL := 4) (ret := (some .int)) (by decide) rfl ?_
  intro p e s m args below meth c s₁ B hml hv0
  obtain ⟨rfl, hP, hD, hA, hK, hX⟩ := hv0
  have hx := B.exec
  have hb := B.bytes
  have hr := B.returns
  have hts := atoms_spec (ws := wsX2_all) B.pre
  have hown : s.vm.findClass RX2 = some m.cls := findClass_of_methodNamed B.named
  have hlocks := B.notSynchronized
  have hS : va_S A s.heap s.heap [] := va_S.rf
  have hinX2 : ∀ w ∈ u_ws RX2 TX2 11, w ∈ wsX2_all := by decide +kernel
  have hl := lv_entry ([.ref (gM g), .int (nI v)]) (n := 4) (Nat.le_of_ble_eq_true rfl)
  rw [lg_entry_eq]
  generalize (lg_sl ([.ref (gM g), .int (nI v)]) ++ List.replicate (4 - (lg_sl ([.ref (gM g), .int (nI v)])).length) Slot.unset).toArray = ls at hl ⊢
  have hl : lv_has ls 4 [(0, .ref (gM g)), (1, .int (nI v))] := hl
  have hC := hI.C v
  refine lv_iconst (v := 0) (pc := 0) hx hb dX2_all_0 (by decide) ?_
  refine lv_istore_n (lv' := [(2, .int 0), (0, .ref (gM g)), (1, .int (nI v))]) (pc := 1) hx hb dX2_all_1 rfl hl (by decide) rfl (fun ls hl => ?_)
  refine lv_iconst (v := 0) (pc := 2) hx hb dX2_all_2 (by decide) ?_
  refine lv_istore_n (lv' := [(3, .int 0), (2, .int 0), (0, .ref (gM g)), (1, .int (nI v))]) (pc := 3) hx hb dX2_all_3 rfl hl (by decide) rfl (fun ls hl => ?_)
  refine k_loop1 (pc := 4) (nL := 4) (fun (i : Nat) => i ≤ sC σ v) (fun (i : Nat) => sC σ v - i) (fun (i : Nat) => [(3, .int (nI i)), (2, .int (nI (bg σ v i))), (0, .ref (gM g)), (1, .int (nI v))]) (fun i hJ ih_4 ls hl => ?_) 0 (Nat.zero_le _) (lv_sub hl [0, 1, 2, 3] rfl)
  have hi := hJ
  have hl : lv_has ls 4 [(3, .int (nI i)), (2, .int (nI (bg σ v i))), (0, .ref (gM g)), (1, .int (nI v))] := hl
  refine lv_iload_n (pc := 4) hx hb dX2_all_4 rfl (lv_at hl 0 rfl) ?_
  refine lv_aload_n (pc := 5) hx hb dX2_all_5 rfl (lv_at hl 2 rfl) ?_
  refine va_get (v := .ref (gB g 0)) (pc := 6) (D := gD g) (ci := 2) (C := RX2) (T := TX2) (N := 11) hx hb hts hinX2 hown hK hP 0 (ma0 g σ th mi ti rest) rfl 2 (by decide) (hts (.fieldLink RX2 9 "ChoirNotesModel" "many" "[I") (by decide +kernel)) (fun _ h9 => h9) rfl dX2_all_6 ?_
  refine lv_iload_n (pc := 9) hx hb dX2_all_9 rfl (lv_at hl 3 rfl) ?_
  refine k_iald (pc := 10) (x := nI (sC σ v)) hx hb hK hP 1 0 (ma1 g σ th mi ti rest) rfl v rfl (by omega) (by decide) rfl dX2_all_10 ?_
  refine lv_icmp_ge (tgt := 29) (pc := 11) hx hb dX2_all_11 (by decide) (fun c1 => ?_) (fun c1 => ?_)
  · have c1 : sC σ v ≤ i := (nI_leI (a := sC σ v) (b := i) (by omega) (by omega)).mp c1
    refine lv_iload_n (pc := 29) hx hb dX2_all_29 rfl (lv_at hl 1 rfl) ?_
    exact W.iret hx hb hr (fun t ht hW => ⟨_, rfl, (by rw [show i = sC σ v by omega]; rfl), ht⟩) (fun q hq => absurd hq List.not_mem_nil) dX2_all_30
  · have c1 : ¬ (sC σ v ≤ i) := fun z => c1 ((nI_leI (a := sC σ v) (b := i) (by omega) (by omega)).mpr z)
    refine lv_iload_n (pc := 14) hx hb dX2_all_14 rfl (lv_at hl 1 rfl) ?_
    refine lv_aload_n (pc := 15) hx hb dX2_all_15 rfl (lv_at hl 2 rfl) ?_
    refine lv_iload_n (pc := 16) hx hb dX2_all_16 rfl (lv_at hl 3 rfl) ?_
    refine lv_iload_n (pc := 17) hx hb dX2_all_17 rfl (lv_at hl 0 rfl) ?_
    refine k_ri (pc := 18) (va_runV (As := [.int (nI v), .int (nI i)]) (rest := [.int (nI (bg σ v i))]) ⟨hx, hb, hml, hown, hts⟩ (cX2_lasts_m l g A σ rest th mi ti v i hv (by omega) hI) (cwV 2 hts gX2_all_X2_lasts rfl rfl rfl (by decide +kernel) ⟨Nat.le_of_ble_eq_true rfl, Nat.le_of_ble_eq_true rfl⟩) (cx_V (q0 := 0) (ci := 2) (r := (RX2, TX2, 11)) rfl (ma0 g σ th mi ti rest) hP hD hA hK hX hS) rfl rfl hl.1 rfl (lv_room (Nat.le_of_ble_eq_true rfl)) dX2_all_18 ⟨Nat.le_of_ble_eq_true rfl, Nat.le_of_ble_eq_true rfl⟩) (fun r_2 hr_2 => ?_)
    subst hr_2
    refine lv_iadd (pc := 21) hx hb dX2_all_21 ?_
    refine k_cong (y := nI (bg σ v i + (lg σ v i))) (nI_add (bg σ v i) (lg σ v i)) ?_
    refine lv_istore_n (lv' := [(2, .int (nI (bg σ v i + (lg σ v i)))), (3, .int (nI i)), (0, .ref (gM g)), (1, .int (nI v))]) (pc := 22) hx hb dX2_all_22 rfl hl (by decide) rfl (fun ls hl => ?_)
    refine lv_iinc (v := nI (i + 1)) (lv' := [(3, .int (nI (i + 1))), (2, .int (nI (bg σ v i + (lg σ v i)))), (0, .ref (gM g)), (1, .int (nI v))]) (pc := 23) hx hb dX2_all_23 hl (k := 1) rfl (nI_1 _) (by decide) rfl (fun ls hl => ?_)
    refine lv_goto (tgt := 4) (pc := 26) hx hb dX2_all_26 (by decide) ?_
    exact ih_4 (i + 1) (by omega) (by omega) _ (lv_sub hl [0, 1, 2, 3] rfl)
set_option maxHeartbeats 4000000 in
set_option maxRecDepth 100000 in
/-- when a sign begins -/
theorem cX2_begins_m (l : Launch) (g : GA) (A : Nat → Prop) (σ : St) (rest : va_W) (th : Int32) (mi ti : Nat → Int32) (v s0 : Nat) (hv : v < 4) (hs : s0 ≤ 24) (hI : Inv σ) : Met l yX2_begins wsX2_begins ({ frames := 1, cells := 0, slots := 0, locals := 25 }) (va_Pc [.ref (gM g), .int (nI v), .int (nI s0)] (Cx g A (mw g σ th mi ti ++ rest))) (vp_Si (fun r : Int32 => r = nI (bg σ v s0))) 0 0 (fun _ => False) := by
  refine Met.ofW (cc := cX2_begins) (maxL := 5) (ret := (some .int)) (by decide) rfl ?_
  intro p e s m args below meth c s₁ B hml hv0
  obtain ⟨rfl, hP, hD, hA, hK, hX⟩ := hv0
  have hx := B.exec
  have hb := B.bytes
  have hr := B.returns
  have hts := atoms_spec (ws := wsX2_begins) B.pre
  have hown : s.vm.findClass RX2 = some m.cls := findClass_of_methodNamed B.named
  have hlocks := B.notSynchronized
  have hS : va_S A s.heap s.heap [] := va_S.rf
  have hl := lv_entry ([.ref (gM g), .int (nI v), .int (nI s0)]) (n := 5) (Nat.le_of_ble_eq_true rfl)
  rw [lg_entry_eq]
  generalize (lg_sl ([.ref (gM g), .int (nI v), .int (nI s0)]) ++ List.replicate (5 - (lg_sl ([.ref (gM g), .int (nI v), .int (nI s0)])).length) Slot.unset).toArray = ls at hl ⊢
  have hl : lv_has ls 5 [(0, .ref (gM g)), (1, .int (nI v)), (2, .int (nI s0))] := hl
  refine lv_iconst (v := 0) (pc := 0) hx hb dX2_begins_0 (by decide) ?_
  refine lv_istore_n (lv' := [(3, .int 0), (0, .ref (gM g)), (1, .int (nI v)), (2, .int (nI s0))]) (pc := 1) hx hb dX2_begins_1 rfl hl (by decide) rfl (fun ls hl => ?_)
  refine lv_iconst (v := 0) (pc := 2) hx hb dX2_begins_2 (by decide) ?_
  refine lv_istore (lv' := [(4, .int 0), (3, .int 0), (0, .ref (gM g)), (1, .int (nI v)), (2, .int (nI s0))]) (pc := 3) hx hb dX2_begins_3 hl (by decide) rfl (fun ls hl => ?_)
  refine k_loop1 (pc := 5) (nL := 5) (fun (i : Nat) => i ≤ s0) (fun (i : Nat) => s0 - i) (fun (i : Nat) => [(4, .int (nI i)), (3, .int (nI (bg σ v i))), (0, .ref (gM g)), (1, .int (nI v)), (2, .int (nI s0))]) (fun i hJ ih_5 ls hl => ?_) 0 (Nat.zero_le _) (lv_sub hl [0, 1, 2, 3, 4] rfl)
  have hi := hJ
  have hl : lv_has ls 5 [(4, .int (nI i)), (3, .int (nI (bg σ v i))), (0, .ref (gM g)), (1, .int (nI v)), (2, .int (nI s0))] := hl
  refine lv_iload (pc := 5) hx hb dX2_begins_5 (lv_at hl 0 rfl) ?_
  refine lv_iload_n (pc := 7) hx hb dX2_begins_7 rfl (lv_at hl 4 rfl) ?_
  refine lv_icmp_ge (tgt := 27) (pc := 8) hx hb dX2_begins_8 (by decide) (fun c1 => ?_) (fun c1 => ?_)
  · have c1 : s0 ≤ i := (nI_leI (a := s0) (b := i) (by omega) (by omega)).mp c1
    refine lv_iload_n (pc := 27) hx hb dX2_begins_27 rfl (lv_at hl 1 rfl) ?_
    exact W.iret hx hb hr (fun t ht hW => ⟨_, rfl, (by rw [show i = s0 by omega]), ht⟩) (fun q hq => absurd hq List.not_mem_nil) dX2_begins_28
  · have c1 : ¬ (s0 ≤ i) := fun z => c1 ((nI_leI (a := s0) (b := i) (by omega) (by omega)).mpr z)
    refine lv_iload_n (pc := 11) hx hb dX2_begins_11 rfl (lv_at hl 1 rfl) ?_
    refine lv_aload_n (pc := 12) hx hb dX2_begins_12 rfl (lv_at hl 2 rfl) ?_
    refine lv_iload_n (pc := 13) hx hb dX2_begins_13 rfl (lv_at hl 3 rfl) ?_
    refine lv_iload (pc := 14) hx hb dX2_begins_14 (lv_at hl 0 rfl) ?_
    refine k_ri (pc := 16) (va_runV (As := [.int (nI v), .int (nI i)]) (rest := [.int (nI (bg σ v i))]) ⟨hx, hb, hml, hown, hts⟩ (cX2_lasts_m l g A σ rest th mi ti v i hv (by omega) hI) (cwV 2 hts gX2_begins_X2_lasts rfl rfl rfl (by decide +kernel) ⟨Nat.le_of_ble_eq_true rfl, Nat.le_of_ble_eq_true rfl⟩) (cx_V (q0 := 0) (ci := 2) (r := (RX2, TX2, 11)) rfl (ma0 g σ th mi ti rest) hP hD hA hK hX hS) rfl rfl hl.1 rfl (lv_room (Nat.le_of_ble_eq_true rfl)) dX2_begins_16 ⟨Nat.le_of_ble_eq_true rfl, Nat.le_of_ble_eq_true rfl⟩) (fun r_2 hr_2 => ?_)
    subst hr_2
    refine lv_iadd (pc := 19) hx hb dX2_begins_19 ?_
    refine k_cong (y := nI (bg σ v i + (lg σ v i))) (nI_add (bg σ v i) (lg σ v i)) ?_
    refine lv_istore_n (lv' := [(3, .int (nI (bg σ v i + (lg σ v i)))), (4, .int (nI i)), (0, .ref (gM g)), (1, .int (nI v)), (2, .int (nI s0))]) (pc := 20) hx hb dX2_begins_20 rfl hl (by decide) rfl (fun ls hl => ?_)
    refine lv_iinc (v := nI (i + 1)) (lv' := [(4, .int (nI (i + 1))), (3, .int (nI (bg σ v i + (lg σ v i)))), (0, .ref (gM g)), (1, .int (nI v)), (2, .int (nI s0))]) (pc := 21) hx hb dX2_begins_21 hl (k := 1) rfl (nI_1 _) (by decide) rfl (fun ls hl => ?_)
    refine lv_goto (tgt := 5) (pc := 24) hx hb dX2_begins_24 (by decide) ?_
    exact ih_5 (i + 1) (by omega) (by omega) _ (lv_sub hl [0, 1, 2, 3, 4] rfl)
set_option maxHeartbeats 4000000 in
set_option maxRecDepth 100000 in
/-- how long the longest is -/
theorem cX2_most_m (l : Launch) (g : GA) (A : Nat → Prop) (σ : St) (rest : va_W) (th : Int32) (mi ti : Nat → Int32) (hI : Inv σ) : Met l yX2_most wsX2_most ({ frames := 2, cells := 0, slots := 0, locals := 48 }) (va_Pc [.ref (gM g)] (Cx g A (mw g σ th mi ti ++ rest))) (vp_Si (fun r : Int32 => r = nI (lngst σ))) 0 0 (fun _ => False) := by
  refine Met.ofW (cc := cX2_most) (maxL := 3) (ret := (some .int)) (by decide) rfl ?_
  intro p e s m args below meth c s₁ B hml hv0
  obtain ⟨rfl, hP, hD, hA, hK, hX⟩ := hv0
  have hx := B.exec
  have hb := B.bytes
  have hr := B.returns
  have hts := atoms_spec (ws := wsX2_most) B.pre
  have hown : s.vm.findClass RX2 = some m.cls := findClass_of_methodNamed B.named
  have hlocks := B.notSynchronized
  have hS : va_S A s.heap s.heap [] := va_S.rf
  have hinX2 : ∀ w ∈ u_ws RX2 TX2 11, w ∈ wsX2_most := by decide +kernel
  have hl := lv_entry ([.ref (gM g)]) (n := 3) (Nat.le_of_ble_eq_true rfl)
  rw [lg_entry_eq]
  generalize (lg_sl ([.ref (gM g)]) ++ List.replicate (3 - (lg_sl ([.ref (gM g)])).length) Slot.unset).toArray = ls at hl ⊢
  have hl : lv_has ls 3 [(0, .ref (gM g))] := hl
  have hN := hI.N
  refine lv_iconst (v := 0) (pc := 0) hx hb dX2_most_0 (by decide) ?_
  refine lv_istore_n (lv' := [(1, .int 0), (0, .ref (gM g))]) (pc := 1) hx hb dX2_most_1 rfl hl (by decide) rfl (fun ls hl => ?_)
  refine lv_iconst (v := 0) (pc := 2) hx hb dX2_most_2 (by decide) ?_
  refine lv_istore_n (lv' := [(2, .int 0), (1, .int 0), (0, .ref (gM g))]) (pc := 3) hx hb dX2_most_3 rfl hl (by decide) rfl (fun ls hl => ?_)
  refine k_loop1 (pc := 4) (nL := 3) (fun (i : Nat) => i ≤ sN σ) (fun (i : Nat) => sN σ - i) (fun (i : Nat) => [(2, .int (nI i)), (1, .int (nI (lngF σ i))), (0, .ref (gM g))]) (fun i hJ ih_4 ls hl => ?_) 0 (Nat.zero_le _) (lv_sub hl [0, 1, 2] rfl)
  have hi := hJ
  have hl : lv_has ls 3 [(2, .int (nI i)), (1, .int (nI (lngF σ i))), (0, .ref (gM g))] := hl
  refine lv_iload_n (pc := 4) hx hb dX2_most_4 rfl (lv_at hl 0 rfl) ?_
  refine lv_aload_n (pc := 5) hx hb dX2_most_5 rfl (lv_at hl 2 rfl) ?_
  refine va_get (v := .int (nI (sN σ))) (pc := 6) (D := gD g) (ci := 2) (C := RX2) (T := TX2) (N := 11) hx hb hts hinX2 hown hK hP 0 (ma0 g σ th mi ti rest) rfl 1 (by decide) (hts (.fieldLink RX2 42 "ChoirNotesModel" "voices" "I") (by decide +kernel)) (fun _ h9 => h9) rfl dX2_most_6 ?_
  refine lv_icmp_ge (tgt := 28) (pc := 9) hx hb dX2_most_9 (by decide) (fun c1 => ?_) (fun c1 => ?_)
  · have c1 : sN σ ≤ i := (nI_leI (a := sN σ) (b := i) (by omega) (by omega)).mp c1
    refine lv_iload_n (pc := 28) hx hb dX2_most_28 rfl (lv_at hl 1 rfl) ?_
    exact W.iret hx hb hr (fun t ht hW => ⟨_, rfl, (by rw [show i = sN σ by omega]; rfl), ht⟩) (fun q hq => absurd hq List.not_mem_nil) dX2_most_29
  · have c1 : ¬ (sN σ ≤ i) := fun z => c1 ((nI_leI (a := sN σ) (b := i) (by omega) (by omega)).mpr z)
    refine lv_iload_n (pc := 12) hx hb dX2_most_12 rfl (lv_at hl 1 rfl) ?_
    refine lv_aload_n (pc := 13) hx hb dX2_most_13 rfl (lv_at hl 2 rfl) ?_
    refine lv_iload_n (pc := 14) hx hb dX2_most_14 rfl (lv_at hl 0 rfl) ?_
    refine k_ri (pc := 15) (va_runV (As := [.int (nI i)]) (rest := [.int (nI (lngF σ i))]) ⟨hx, hb, hml, hown, hts⟩ (cX2_all_m l g A σ rest th mi ti i (by omega) hI) (cwV 1 hts gX2_most_X2_all rfl rfl rfl (by decide +kernel) ⟨Nat.le_of_ble_eq_true rfl, Nat.le_of_ble_eq_true rfl⟩) (cx_V (q0 := 0) (ci := 2) (r := (RX2, TX2, 11)) rfl (ma0 g σ th mi ti rest) hP hD hA hK hX hS) rfl rfl hl.1 rfl (lv_room (Nat.le_of_ble_eq_true rfl)) dX2_most_15 ⟨Nat.le_of_ble_eq_true rfl, Nat.le_of_ble_eq_true rfl⟩) (fun r_2 hr_2 => ?_)
    subst hr_2
    refine va_mmax (pc := 18) hx hb (hml.trans hl.1.symm) hown (hts (.methodLink RX2 87 Lib.Math.max.name) (by decide +kernel)) (hts (.static Lib.Math.max.name) (by decide +kernel)) (hts (.initialized "java/lang/Math") (by decide +kernel)) (hts (.code Lib.Math.max.name Lib.Math.max.code 2 (some .int)) (by decide +kernel)) (Nat.le_of_ble_eq_true rfl) (Nat.le_of_ble_eq_true rfl) (Nat.le_of_ble_eq_true rfl) (Nat.le_of_ble_eq_true rfl) dX2_most_18 ?_
    refine k_cong (y := nI (lngF σ (i + 1))) (lng_mx hI i) ?_
    refine lv_istore_n (lv' := [(1, .int (nI (lngF σ (i + 1)))), (2, .int (nI i)), (0, .ref (gM g))]) (pc := 21) hx hb dX2_most_21 rfl hl (by decide) rfl (fun ls hl => ?_)
    refine lv_iinc (v := nI (i + 1)) (lv' := [(2, .int (nI (i + 1))), (1, .int (nI (lngF σ (i + 1)))), (0, .ref (gM g))]) (pc := 22) hx hb dX2_most_22 hl (k := 1) rfl (nI_1 _) (by decide) rfl (fun ls hl => ?_)
    refine lv_goto (tgt := 4) (pc := 25) hx hb dX2_most_25 (by decide) ?_
    exact ih_4 (i + 1) (by omega) (by omega) _ (lv_sub hl [0, 1, 2] rfl)
set_option maxHeartbeats 4000000 in
set_option maxRecDepth 100000 in
/-- how many notes, or ligatures -/
theorem cX2_count_m (l : Launch) (g : GA) (A : Nat → Prop) (σ : St) (rest : va_W) (th : Int32) (mi ti : Nat → Int32) (v : Nat) (z0 : Bool) (hv : v < 4) (hI : Inv σ) : Met l yX2_count wsX2_count ({ frames := 0, cells := 0, slots := 0, locals := 0 }) (va_Pc [.ref (gM g), .int (nI v), .int (bI z0)] (Cx g A (mw g σ th mi ti ++ rest))) (vp_Si (fun r : Int32 => r = nI (cnt (if z0 then isNt σ v else isLg σ v) (sC σ v)))) 0 0 (fun _ => False) := by
  refine Met.ofW (cc := cX2_count) (maxL := 5) (ret := (some .int)) (by decide) rfl ?_
  intro p e s m args below meth c s₁ B hml hv0
  obtain ⟨rfl, hP, hD, hA, hK, hX⟩ := hv0
  have hx := B.exec
  have hb := B.bytes
  have hr := B.returns
  have hts := atoms_spec (ws := wsX2_count) B.pre
  have hown : s.vm.findClass RX2 = some m.cls := findClass_of_methodNamed B.named
  have hlocks := B.notSynchronized
  have hS : va_S A s.heap s.heap [] := va_S.rf
  have hinX2 : ∀ w ∈ u_ws RX2 TX2 11, w ∈ wsX2_count := by decide +kernel
  have hl := lv_entry ([.ref (gM g), .int (nI v), .int (bI z0)]) (n := 5) (Nat.le_of_ble_eq_true rfl)
  rw [lg_entry_eq]
  generalize (lg_sl ([.ref (gM g), .int (nI v), .int (bI z0)]) ++ List.replicate (5 - (lg_sl ([.ref (gM g), .int (nI v), .int (bI z0)])).length) Slot.unset).toArray = ls at hl ⊢
  have hl : lv_has ls 5 [(0, .ref (gM g)), (1, .int (nI v)), (2, .int (bI z0))] := hl
  have hC := hI.C v
  refine lv_iconst (v := 0) (pc := 0) hx hb dX2_count_0 (by decide) ?_
  refine lv_istore_n (lv' := [(3, .int 0), (0, .ref (gM g)), (1, .int (nI v)), (2, .int (bI z0))]) (pc := 1) hx hb dX2_count_1 rfl hl (by decide) rfl (fun ls hl => ?_)
  refine lv_bipush (v := 24) (pc := 2) hx hb dX2_count_2 (by decide) ?_
  refine lv_iload_n (pc := 4) hx hb dX2_count_4 rfl (lv_at hl 2 rfl) ?_
  refine lv_imul (pc := 5) hx hb dX2_count_5 ?_
  refine k_cong (y := nI (24 * v)) (pk_mul 24 v) ?_
  refine lv_istore (lv' := [(4, .int (nI (24 * v))), (3, .int 0), (0, .ref (gM g)), (1, .int (nI v)), (2, .int (bI z0))]) (pc := 6) hx hb dX2_count_6 hl (by decide) rfl (fun ls hl => ?_)
  refine k_loop2 (pc := 8) (nL := 5) (fun (i : Nat) (x : Int32) => i ≤ sC σ v ∧ x = nI (cnt (if z0 then isNt σ v else isLg σ v) i)) (fun (i : Nat) (x : Int32) => sC σ v - i) (fun (i : Nat) (x : Int32) => [(4, .int (nI (24 * v + i))), (3, .int x), (0, .ref (gM g)), (1, .int (nI v)), (2, .int (bI z0))]) (fun i x hJ ih_8 ls hl => ?_) 0 0 ⟨Nat.zero_le _, rfl⟩ (lv_sub hl [0, 1, 2, 3, 4] rfl)
  obtain ⟨hi, hf⟩ := hJ
  have hl : lv_has ls 5 [(4, .int (nI (24 * v + i))), (3, .int x), (0, .ref (gM g)), (1, .int (nI v)), (2, .int (bI z0))] := hl
  refine lv_iload (pc := 8) hx hb dX2_count_8 (lv_at hl 0 rfl) ?_
  refine lv_bipush (v := 24) (pc := 10) hx hb dX2_count_10 (by decide) ?_
  refine lv_iload_n (pc := 12) hx hb dX2_count_12 rfl (lv_at hl 3 rfl) ?_
  refine lv_imul (pc := 13) hx hb dX2_count_13 ?_
  refine k_cong (y := nI (24 * v)) (pk_mul 24 v) ?_
  refine lv_aload_n (pc := 14) hx hb dX2_count_14 rfl (lv_at hl 2 rfl) ?_
  refine va_get (v := .ref (gB g 0)) (pc := 15) (D := gD g) (ci := 2) (C := RX2) (T := TX2) (N := 11) hx hb hts hinX2 hown hK hP 0 (ma0 g σ th mi ti rest) rfl 2 (by decide) (hts (.fieldLink RX2 9 "ChoirNotesModel" "many" "[I") (by decide +kernel)) (fun _ h9 => h9) rfl dX2_count_15 ?_
  refine lv_iload_n (pc := 18) hx hb dX2_count_18 rfl (lv_at hl 3 rfl) ?_
  refine k_iald (pc := 19) (x := nI (sC σ v)) hx hb hK hP 1 0 (ma1 g σ th mi ti rest) rfl v rfl (by omega) (by decide) rfl dX2_count_19 ?_
  refine lv_iadd (pc := 20) hx hb dX2_count_20 ?_
  refine k_cong (y := nI (24 * v + (sC σ v))) (nI_add (24 * v) (sC σ v)) ?_
  refine lv_icmp_ge (tgt := 66) (pc := 21) hx hb dX2_count_21 (by decide) (fun c1 => ?_) (fun c1 => ?_)
  · have c1 : 24 * v + (sC σ v) ≤ 24 * v + i := (nI_leI (a := 24 * v + (sC σ v)) (b := 24 * v + i) (by omega) (by omega)).mp c1
    refine lv_iload_n (pc := 66) hx hb dX2_count_66 rfl (lv_at hl 1 rfl) ?_
    exact W.iret hx hb hr (fun t ht hW => ⟨_, rfl, (by rw [hf, show i = sC σ v by omega]), ht⟩) (fun q hq => absurd hq List.not_mem_nil) dX2_count_67
  · have c1 : ¬ (24 * v + (sC σ v) ≤ 24 * v + i) := fun z => c1 ((nI_leI (a := 24 * v + (sC σ v)) (b := 24 * v + i) (by omega) (by omega)).mpr z)
    refine lv_iload_n (pc := 24) hx hb dX2_count_24 rfl (lv_at hl 1 rfl) ?_
    refine lv_iload_n (pc := 25) hx hb dX2_count_25 rfl (lv_at hl 4 rfl) ?_
    refine lv_if_eq (tgt := 43) (pc := 26) hx hb dX2_count_26 (by decide) (fun c2 => ?_) (fun c2 => ?_)
    · have c2 := bI_0.mp c2
      refine lv_aload_n (pc := 43) hx hb dX2_count_43 rfl (lv_at hl 2 rfl) ?_
      refine va_get (v := .ref (gB g 6)) (pc := 44) (D := gD g) (ci := 2) (C := RX2) (T := TX2) (N := 11) hx hb hts hinX2 hown hK hP 0 (ma0 g σ th mi ti rest) rfl 8 (by decide) (hts (.fieldLink RX2 29 "ChoirNotesModel" "tied" "[I") (by decide +kernel)) (fun _ h9 => h9) rfl dX2_count_44 ?_
      refine lv_iload (pc := 47) hx hb dX2_count_47 (lv_at hl 0 rfl) ?_
      refine k_iald (pc := 49) (x := sT σ v i) hx hb hK hP 7 0 (ma7 g σ th mi ti rest) rfl (24 * v + i) rfl (by omega) (by decide) (a24 (sT σ) (by omega)) dX2_count_49 ?_
      refine lv_if_ne (tgt := 57) (pc := 50) hx hb dX2_count_50 (by decide) (fun c3 => ?_) (fun c3 => ?_)
      · have c3 : isLg σ v i = false := decide_eq_false c3
        refine lv_iconst (v := 0) (pc := 57) hx hb dX2_count_57 (by decide) ?_
        refine lv_iadd (pc := 58) hx hb dX2_count_58 ?_
        refine lv_istore_n (lv' := [(3, .int (x + 0)), (4, .int (nI (24 * v + i))), (0, .ref (gM g)), (1, .int (nI v)), (2, .int (bI z0))]) (pc := 59) hx hb dX2_count_59 rfl hl (by decide) rfl (fun ls hl => ?_)
        refine lv_iinc (v := nI (24 * v + (i + 1))) (lv' := [(4, .int (nI (24 * v + (i + 1)))), (3, .int (x + 0)), (0, .ref (gM g)), (1, .int (nI v)), (2, .int (bI z0))]) (pc := 60) hx hb dX2_count_60 hl (k := 1) rfl (nI_1 _) (by decide) rfl (fun ls hl => ?_)
        refine lv_goto (tgt := 8) (pc := 63) hx hb dX2_count_63 (by decide) ?_
        exact ih_8 (i + 1) (x + 0) ⟨by omega, by first | exact cntI_t hf (by rw [c2]; exact c3) | exact cntI_z hf (by rw [c2]; exact c3)⟩ (by omega) _ (lv_sub hl [0, 1, 2, 3, 4] rfl)
      · have c3 : isLg σ v i = true := decide_eq_true c3
        refine lv_iconst (v := 1) (pc := 53) hx hb dX2_count_53 (by decide) ?_
        refine lv_goto (tgt := 58) (pc := 54) hx hb dX2_count_54 (by decide) ?_
        refine lv_iadd (pc := 58) hx hb dX2_count_58 ?_
        refine lv_istore_n (lv' := [(3, .int (x + 1)), (4, .int (nI (24 * v + i))), (0, .ref (gM g)), (1, .int (nI v)), (2, .int (bI z0))]) (pc := 59) hx hb dX2_count_59 rfl hl (by decide) rfl (fun ls hl => ?_)
        refine lv_iinc (v := nI (24 * v + (i + 1))) (lv' := [(4, .int (nI (24 * v + (i + 1)))), (3, .int (x + 1)), (0, .ref (gM g)), (1, .int (nI v)), (2, .int (bI z0))]) (pc := 60) hx hb dX2_count_60 hl (k := 1) rfl (nI_1 _) (by decide) rfl (fun ls hl => ?_)
        refine lv_goto (tgt := 8) (pc := 63) hx hb dX2_count_63 (by decide) ?_
        exact ih_8 (i + 1) (x + 1) ⟨by omega, by first | exact cntI_t hf (by rw [c2]; exact c3) | exact cntI_z hf (by rw [c2]; exact c3)⟩ (by omega) _ (lv_sub hl [0, 1, 2, 3, 4] rfl)
    · have c2 := bI_n0.mp c2
      refine lv_aload_n (pc := 29) hx hb dX2_count_29 rfl (lv_at hl 2 rfl) ?_
      refine va_get (v := .ref (gB g 4)) (pc := 30) (D := gD g) (ci := 2) (C := RX2) (T := TX2) (N := 11) hx hb hts hinX2 hown hK hP 0 (ma0 g σ th mi ti rest) rfl 6 (by decide) (hts (.fieldLink RX2 22 "ChoirNotesModel" "place" "[I") (by decide +kernel)) (fun _ h9 => h9) rfl dX2_count_30 ?_
      refine lv_iload (pc := 33) hx hb dX2_count_33 (lv_at hl 0 rfl) ?_
      refine k_iald (pc := 35) (x := sP σ v i) hx hb hK hP 5 0 (ma5 g σ th mi ti rest) rfl (24 * v + i) rfl (by omega) (by decide) (a24 (sP σ) (by omega)) dX2_count_35 ?_
      refine lv_iconst (v := (-1)) (pc := 36) hx hb dX2_count_36 (by decide) ?_
      refine lv_icmp_eq (tgt := 57) (pc := 37) hx hb dX2_count_37 (by decide) (fun c3 => ?_) (fun c3 => ?_)
      · have c3 : isNt σ v i = false := by unfold isNt; rw [decide_eq_true c3]; rfl
        refine lv_iconst (v := 0) (pc := 57) hx hb dX2_count_57 (by decide) ?_
        refine lv_iadd (pc := 58) hx hb dX2_count_58 ?_
        refine lv_istore_n (lv' := [(3, .int (x + 0)), (4, .int (nI (24 * v + i))), (0, .ref (gM g)), (1, .int (nI v)), (2, .int (bI z0))]) (pc := 59) hx hb dX2_count_59 rfl hl (by decide) rfl (fun ls hl => ?_)
        refine lv_iinc (v := nI (24 * v + (i + 1))) (lv' := [(4, .int (nI (24 * v + (i + 1)))), (3, .int (x + 0)), (0, .ref (gM g)), (1, .int (nI v)), (2, .int (bI z0))]) (pc := 60) hx hb dX2_count_60 hl (k := 1) rfl (nI_1 _) (by decide) rfl (fun ls hl => ?_)
        refine lv_goto (tgt := 8) (pc := 63) hx hb dX2_count_63 (by decide) ?_
        exact ih_8 (i + 1) (x + 0) ⟨by omega, by first | exact cntI_t hf (by rw [c2]; exact c3) | exact cntI_z hf (by rw [c2]; exact c3)⟩ (by omega) _ (lv_sub hl [0, 1, 2, 3, 4] rfl)
      · have c3 : isNt σ v i = true := by unfold isNt; rw [decide_eq_false c3]; rfl
        refine lv_goto (tgt := 53) (pc := 40) hx hb dX2_count_40 (by decide) ?_
        refine lv_iconst (v := 1) (pc := 53) hx hb dX2_count_53 (by decide) ?_
        refine lv_goto (tgt := 58) (pc := 54) hx hb dX2_count_54 (by decide) ?_
        refine lv_iadd (pc := 58) hx hb dX2_count_58 ?_
        refine lv_istore_n (lv' := [(3, .int (x + 1)), (4, .int (nI (24 * v + i))), (0, .ref (gM g)), (1, .int (nI v)), (2, .int (bI z0))]) (pc := 59) hx hb dX2_count_59 rfl hl (by decide) rfl (fun ls hl => ?_)
        refine lv_iinc (v := nI (24 * v + (i + 1))) (lv' := [(4, .int (nI (24 * v + (i + 1)))), (3, .int (x + 1)), (0, .ref (gM g)), (1, .int (nI v)), (2, .int (bI z0))]) (pc := 60) hx hb dX2_count_60 hl (k := 1) rfl (nI_1 _) (by decide) rfl (fun ls hl => ?_)
        refine lv_goto (tgt := 8) (pc := 63) hx hb dX2_count_63 (by decide) ?_
        exact ih_8 (i + 1) (x + 1) ⟨by omega, by first | exact cntI_t hf (by rw [c2]; exact c3) | exact cntI_z hf (by rw [c2]; exact c3)⟩ (by omega) _ (lv_sub hl [0, 1, 2, 3, 4] rfl)
set_option maxHeartbeats 4000000 in
set_option maxRecDepth 100000 in
/-- whether a clef fits -/
theorem cX2_fit_m (l : Launch) (g : GA) (A : Nat → Prop) (σ : St) (rest : va_W) (th : Int32) (mi ti : Nat → Int32) (v : Nat) (c0 : Int32) (hv : v < 4) (hI : Inv σ) : Met l yX2_fit wsX2_fit ({ frames := 1, cells := 0, slots := 0, locals := 22 }) (va_Pc [.ref (gM g), .int (nI v), .int c0] (Cx g A (mw g σ th mi ti ++ rest))) (vp_Si (fun r : Int32 => r = bI (ft σ v c0))) 0 0 (fun _ => False) := by
  refine Met.ofW (cc := cX2_fit) (maxL := 4) (ret := (some .boolean)) (by decide) rfl ?_
  intro p e s m args below meth c s₁ B hml hv0
  obtain ⟨rfl, hP, hD, hA, hK, hX⟩ := hv0
  have hx := B.exec
  have hb := B.bytes
  have hr := B.returns
  have hts := atoms_spec (ws := wsX2_fit) B.pre
  have hown : s.vm.findClass RX2 = some m.cls := findClass_of_methodNamed B.named
  have hlocks := B.notSynchronized
  have hS : va_S A s.heap s.heap [] := va_S.rf
  have hinX2 : ∀ w ∈ u_ws RX2 TX2 11, w ∈ wsX2_fit := by decide +kernel
  have hl := lv_entry ([.ref (gM g), .int (nI v), .int c0]) (n := 4) (Nat.le_of_ble_eq_true rfl)
  rw [lg_entry_eq]
  generalize (lg_sl ([.ref (gM g), .int (nI v), .int c0]) ++ List.replicate (4 - (lg_sl ([.ref (gM g), .int (nI v), .int c0])).length) Slot.unset).toArray = ls at hl ⊢
  have hl : lv_has ls 4 [(0, .ref (gM g)), (1, .int (nI v)), (2, .int c0)] := hl
  have hC := hI.C v
  refine lv_bipush (v := 24) (pc := 0) hx hb dX2_fit_0 (by decide) ?_
  refine lv_iload_n (pc := 2) hx hb dX2_fit_2 rfl (lv_at hl 1 rfl) ?_
  refine lv_imul (pc := 3) hx hb dX2_fit_3 ?_
  refine k_cong (y := nI (24 * v)) (pk_mul 24 v) ?_
  refine lv_istore_n (lv' := [(3, .int (nI (24 * v))), (0, .ref (gM g)), (1, .int (nI v)), (2, .int c0)]) (pc := 4) hx hb dX2_fit_4 rfl hl (by decide) rfl (fun ls hl => ?_)
  refine k_loop1 (pc := 5) (nL := 4) (fun (i : Nat) => i ≤ sC σ v ∧ ftN σ v c0 i = true) (fun (i : Nat) => sC σ v - i) (fun (i : Nat) => [(3, .int (nI (24 * v + i))), (0, .ref (gM g)), (1, .int (nI v)), (2, .int c0)]) (fun i hJ ih_5 ls hl => ?_) 0 ⟨Nat.zero_le _, rfl⟩ (lv_sub hl [0, 1, 2, 3] rfl)
  obtain ⟨hi, hf⟩ := hJ
  have hl : lv_has ls 4 [(3, .int (nI (24 * v + i))), (0, .ref (gM g)), (1, .int (nI v)), (2, .int c0)] := hl
  refine lv_iload_n (pc := 5) hx hb dX2_fit_5 rfl (lv_at hl 0 rfl) ?_
  refine lv_bipush (v := 24) (pc := 6) hx hb dX2_fit_6 (by decide) ?_
  refine lv_iload_n (pc := 8) hx hb dX2_fit_8 rfl (lv_at hl 2 rfl) ?_
  refine lv_imul (pc := 9) hx hb dX2_fit_9 ?_
  refine k_cong (y := nI (24 * v)) (pk_mul 24 v) ?_
  refine lv_aload_n (pc := 10) hx hb dX2_fit_10 rfl (lv_at hl 1 rfl) ?_
  refine va_get (v := .ref (gB g 0)) (pc := 11) (D := gD g) (ci := 2) (C := RX2) (T := TX2) (N := 11) hx hb hts hinX2 hown hK hP 0 (ma0 g σ th mi ti rest) rfl 2 (by decide) (hts (.fieldLink RX2 9 "ChoirNotesModel" "many" "[I") (by decide +kernel)) (fun _ h9 => h9) rfl dX2_fit_11 ?_
  refine lv_iload_n (pc := 14) hx hb dX2_fit_14 rfl (lv_at hl 2 rfl) ?_
  refine k_iald (pc := 15) (x := nI (sC σ v)) hx hb hK hP 1 0 (ma1 g σ th mi ti rest) rfl v rfl (by omega) (by decide) rfl dX2_fit_15 ?_
  refine lv_iadd (pc := 16) hx hb dX2_fit_16 ?_
  refine k_cong (y := nI (24 * v + (sC σ v))) (nI_add (24 * v) (sC σ v)) ?_
  refine lv_icmp_ge (tgt := 57) (pc := 17) hx hb dX2_fit_17 (by decide) (fun c1 => ?_) (fun c1 => ?_)
  · have c1 : 24 * v + (sC σ v) ≤ 24 * v + i := (nI_leI (a := 24 * v + (sC σ v)) (b := 24 * v + i) (by omega) (by omega)).mp c1
    refine lv_iconst (v := 1) (pc := 57) hx hb dX2_fit_57 (by decide) ?_
    exact W.zret (v := 1) hx hb hr rfl (fun t ht hW => ⟨_, rfl, (by rw [show ft σ v c0 = true from (by unfold ft; rw [← (show i = sC σ v by omega)]; exact hf)]; rfl), ht⟩) (fun q hq => absurd hq List.not_mem_nil) dX2_fit_58
  · have c1 : ¬ (24 * v + (sC σ v) ≤ 24 * v + i) := fun z => c1 ((nI_leI (a := 24 * v + (sC σ v)) (b := 24 * v + i) (by omega) (by omega)).mpr z)
    refine lv_aload_n (pc := 20) hx hb dX2_fit_20 rfl (lv_at hl 1 rfl) ?_
    refine va_get (v := .ref (gB g 4)) (pc := 21) (D := gD g) (ci := 2) (C := RX2) (T := TX2) (N := 11) hx hb hts hinX2 hown hK hP 0 (ma0 g σ th mi ti rest) rfl 6 (by decide) (hts (.fieldLink RX2 22 "ChoirNotesModel" "place" "[I") (by decide +kernel)) (fun _ h9 => h9) rfl dX2_fit_21 ?_
    refine lv_iload_n (pc := 24) hx hb dX2_fit_24 rfl (lv_at hl 0 rfl) ?_
    refine k_iald (pc := 25) (x := sP σ v i) hx hb hK hP 5 0 (ma5 g σ th mi ti rest) rfl (24 * v + i) rfl (by omega) (by decide) (a24 (sP σ) (by omega)) dX2_fit_25 ?_
    refine lv_iconst (v := (-1)) (pc := 26) hx hb dX2_fit_26 (by decide) ?_
    refine lv_icmp_eq (tgt := 51) (pc := 27) hx hb dX2_fit_27 (by decide) (fun c2 => ?_) (fun c2 => ?_)
    · refine lv_iinc (v := nI (24 * v + (i + 1))) (lv' := [(3, .int (nI (24 * v + (i + 1)))), (0, .ref (gM g)), (1, .int (nI v)), (2, .int c0)]) (pc := 51) hx hb dX2_fit_51 hl (k := 0) rfl (nI_1 _) (by decide) rfl (fun ls hl => ?_)
      refine lv_goto (tgt := 5) (pc := 54) hx hb dX2_fit_54 (by decide) ?_
      exact ih_5 (i + 1) ⟨by omega, ftN_t hf (by unfold ftS isNt; first | (rw [decide_eq_true c2]; rfl) | (rw [decide_eq_false c2]; exact c3))⟩ (by omega) _ (lv_sub hl [0, 1, 2, 3] rfl)
    · refine lv_aload_n (pc := 30) hx hb dX2_fit_30 rfl (lv_at hl 1 rfl) ?_
      refine va_get (v := .ref (gB g 4)) (pc := 31) (D := gD g) (ci := 2) (C := RX2) (T := TX2) (N := 11) hx hb hts hinX2 hown hK hP 0 (ma0 g σ th mi ti rest) rfl 6 (by decide) (hts (.fieldLink RX2 22 "ChoirNotesModel" "place" "[I") (by decide +kernel)) (fun _ h9 => h9) rfl dX2_fit_31 ?_
      refine lv_iload_n (pc := 34) hx hb dX2_fit_34 rfl (lv_at hl 0 rfl) ?_
      refine k_iald (pc := 35) (x := sP σ v i) hx hb hK hP 5 0 (ma5 g σ th mi ti rest) rfl (24 * v + i) rfl (by omega) (by decide) (a24 (sP σ) (by omega)) dX2_fit_35 ?_
      refine lv_iconst (v := 2) (pc := 36) hx hb dX2_fit_36 (by decide) ?_
      refine lv_iload_n (pc := 37) hx hb dX2_fit_37 rfl (lv_at hl 3 rfl) ?_
      refine lv_imul (pc := 38) hx hb dX2_fit_38 ?_
      refine lv_iadd (pc := 39) hx hb dX2_fit_39 ?_
      refine lv_iconst (v := 3) (pc := 40) hx hb dX2_fit_40 (by decide) ?_
      refine lv_bipush (v := 16) (pc := 41) hx hb dX2_fit_41 (by decide) ?_
      refine k_ri (pc := 43) (va_runS (As := [.int ((sP σ v i) + (2 * c0)), .int 3, .int 16]) (rest := []) ⟨hx, hb, hml, hown, hts⟩ (cX2_isIn_m l g A σ rest th mi ti ((sP σ v i) + (2 * c0)) 3 16) (va_cwS 3 hts gX2_fit_X2_isIn rfl rfl rfl (by decide +kernel) ⟨Nat.le_of_ble_eq_true rfl, Nat.le_of_ble_eq_true rfl⟩) (cx_S hP hD hA hK hX hS) rfl rfl hl.1 rfl (lv_room (Nat.le_of_ble_eq_true rfl)) dX2_fit_43 ⟨Nat.le_of_ble_eq_true rfl, Nat.le_of_ble_eq_true rfl⟩) (fun r_3 hr_3 => ?_)
      subst hr_3
      refine lv_if_ne (tgt := 51) (pc := 46) hx hb dX2_fit_46 (by decide) (fun c3 => ?_) (fun c3 => ?_)
      · have c3 := bI_n0.mp c3
        refine lv_iinc (v := nI (24 * v + (i + 1))) (lv' := [(3, .int (nI (24 * v + (i + 1)))), (0, .ref (gM g)), (1, .int (nI v)), (2, .int c0)]) (pc := 51) hx hb dX2_fit_51 hl (k := 0) rfl (nI_1 _) (by decide) rfl (fun ls hl => ?_)
        refine lv_goto (tgt := 5) (pc := 54) hx hb dX2_fit_54 (by decide) ?_
        exact ih_5 (i + 1) ⟨by omega, ftN_t hf (by unfold ftS isNt; first | (rw [decide_eq_true c2]; rfl) | (rw [decide_eq_false c2]; exact c3))⟩ (by omega) _ (lv_sub hl [0, 1, 2, 3] rfl)
      · have c3 := bI_0.mp c3
        refine lv_iconst (v := 0) (pc := 49) hx hb dX2_fit_49 (by decide) ?_
        exact W.zret (v := 0) hx hb hr rfl (fun t ht hW => ⟨_, rfl, (by rw [show ft σ v c0 = false from ftN_f (i := i) (by omega) (by unfold ftS isNt; rw [decide_eq_false c2]; exact c3)]; rfl), ht⟩) (fun q hq => absurd hq List.not_mem_nil) dX2_fit_50
set_option maxHeartbeats 4000000 in
set_option maxRecDepth 100000 in
/-- how many clefs fit -/
theorem cX2_fitting_m (l : Launch) (g : GA) (A : Nat → Prop) (σ : St) (rest : va_W) (th : Int32) (mi ti : Nat → Int32) (v : Nat) (hv : v < 4) (hI : Inv σ) : Met l yX2_fitting wsX2_fitting ({ frames := 2, cells := 0, slots := 0, locals := 45 }) (va_Pc [.ref (gM g), .int (nI v)] (Cx g A (mw g σ th mi ti ++ rest))) (vp_Si (fun r : Int32 => r = nI (fct σ v))) 0 0 (fun _ => False) := by
  refine Met.ofW (cc := cX2_fitting) (maxL := 4) (ret := (some .int)) (by decide) rfl ?_
  intro p e s m args below meth c s₁ B hml hv0
  obtain ⟨rfl, hP, hD, hA, hK, hX⟩ := hv0
  have hx := B.exec
  have hb := B.bytes
  have hr := B.returns
  have hts := atoms_spec (ws := wsX2_fitting) B.pre
  have hown : s.vm.findClass RX2 = some m.cls := findClass_of_methodNamed B.named
  have hlocks := B.notSynchronized
  have hS : va_S A s.heap s.heap [] := va_S.rf
  have hl := lv_entry ([.ref (gM g), .int (nI v)]) (n := 4) (Nat.le_of_ble_eq_true rfl)
  rw [lg_entry_eq]
  generalize (lg_sl ([.ref (gM g), .int (nI v)]) ++ List.replicate (4 - (lg_sl ([.ref (gM g), .int (nI v)])).length) Slot.unset).toArray = ls at hl ⊢
  have hl : lv_has ls 4 [(0, .ref (gM g)), (1, .int (nI v))] := hl
  refine lv_iconst (v := 0) (pc := 0) hx hb dX2_fitting_0 (by decide) ?_
  refine lv_istore_n (lv' := [(2, .int 0), (0, .ref (gM g)), (1, .int (nI v))]) (pc := 1) hx hb dX2_fitting_1 rfl hl (by decide) rfl (fun ls hl => ?_)
  refine lv_iconst (v := 0) (pc := 2) hx hb dX2_fitting_2 (by decide) ?_
  refine lv_istore_n (lv' := [(3, .int 0), (2, .int 0), (0, .ref (gM g)), (1, .int (nI v))]) (pc := 3) hx hb dX2_fitting_3 rfl hl (by decide) rfl (fun ls hl => ?_)
  refine k_loop2 (pc := 4) (nL := 4) (fun (i : Nat) (x : Int32) => i ≤ 6 ∧ x = nI (cnt (fun c => ft σ v (nI c)) i)) (fun (i : Nat) (x : Int32) => 6 - i) (fun (i : Nat) (x : Int32) => [(3, .int (nI i)), (2, .int x), (0, .ref (gM g)), (1, .int (nI v))]) (fun i x hJ ih_4 ls hl => ?_) 0 0 ⟨Nat.zero_le _, rfl⟩ (lv_sub hl [0, 1, 2, 3] rfl)
  obtain ⟨hi, hf⟩ := hJ
  have hl : lv_has ls 4 [(3, .int (nI i)), (2, .int x), (0, .ref (gM g)), (1, .int (nI v))] := hl
  refine lv_iload_n (pc := 4) hx hb dX2_fitting_4 rfl (lv_at hl 0 rfl) ?_
  refine lv_bipush (v := 6) (pc := 5) hx hb dX2_fitting_5 (by decide) ?_
  refine lv_icmp_ge (tgt := 33) (pc := 7) hx hb dX2_fitting_7 (by decide) (fun c1 => ?_) (fun c1 => ?_)
  · have c1 : 6 ≤ i := (nI_leI (a := 6) (b := i) (by omega) (by omega)).mp c1
    refine lv_iload_n (pc := 33) hx hb dX2_fitting_33 rfl (lv_at hl 1 rfl) ?_
    exact W.iret hx hb hr (fun t ht hW => ⟨_, rfl, (by rw [hf, show i = 6 by omega]; rfl), ht⟩) (fun q hq => absurd hq List.not_mem_nil) dX2_fitting_34
  · have c1 : ¬ (6 ≤ i) := fun z => c1 ((nI_leI (a := 6) (b := i) (by omega) (by omega)).mpr z)
    refine lv_iload_n (pc := 10) hx hb dX2_fitting_10 rfl (lv_at hl 1 rfl) ?_
    refine lv_aload_n (pc := 11) hx hb dX2_fitting_11 rfl (lv_at hl 2 rfl) ?_
    refine lv_iload_n (pc := 12) hx hb dX2_fitting_12 rfl (lv_at hl 3 rfl) ?_
    refine lv_iload_n (pc := 13) hx hb dX2_fitting_13 rfl (lv_at hl 0 rfl) ?_
    refine k_ri (pc := 14) (va_runV (As := [.int (nI v), .int (nI i)]) (rest := [.int x]) ⟨hx, hb, hml, hown, hts⟩ (cX2_fit_m l g A σ rest th mi ti v (nI i) hv hI) (cwV 2 hts gX2_fitting_X2_fit rfl rfl rfl (by decide +kernel) ⟨Nat.le_of_ble_eq_true rfl, Nat.le_of_ble_eq_true rfl⟩) (cx_V (q0 := 0) (ci := 2) (r := (RX2, TX2, 11)) rfl (ma0 g σ th mi ti rest) hP hD hA hK hX hS) rfl rfl hl.1 rfl (lv_room (Nat.le_of_ble_eq_true rfl)) dX2_fitting_14 ⟨Nat.le_of_ble_eq_true rfl, Nat.le_of_ble_eq_true rfl⟩) (fun r_2 hr_2 => ?_)
    subst hr_2
    refine lv_if_eq (tgt := 24) (pc := 17) hx hb dX2_fitting_17 (by decide) (fun c2 => ?_) (fun c2 => ?_)
    · have c2 : (fun c => ft σ v (nI c)) i = false := bI_0.mp c2
      refine lv_iconst (v := 0) (pc := 24) hx hb dX2_fitting_24 (by decide) ?_
      refine lv_iadd (pc := 25) hx hb dX2_fitting_25 ?_
      refine lv_istore_n (lv' := [(2, .int (x + 0)), (3, .int (nI i)), (0, .ref (gM g)), (1, .int (nI v))]) (pc := 26) hx hb dX2_fitting_26 rfl hl (by decide) rfl (fun ls hl => ?_)
      refine lv_iinc (v := nI (i + 1)) (lv' := [(3, .int (nI (i + 1))), (2, .int (x + 0)), (0, .ref (gM g)), (1, .int (nI v))]) (pc := 27) hx hb dX2_fitting_27 hl (k := 1) rfl (nI_1 _) (by decide) rfl (fun ls hl => ?_)
      refine lv_goto (tgt := 4) (pc := 30) hx hb dX2_fitting_30 (by decide) ?_
      exact ih_4 (i + 1) (x + 0) ⟨by omega, by first | exact cntI_t hf c2 | exact cntI_z hf c2⟩ (by omega) _ (lv_sub hl [0, 1, 2, 3] rfl)
    · have c2 : (fun c => ft σ v (nI c)) i = true := bI_n0.mp c2
      refine lv_iconst (v := 1) (pc := 20) hx hb dX2_fitting_20 (by decide) ?_
      refine lv_goto (tgt := 25) (pc := 21) hx hb dX2_fitting_21 (by decide) ?_
      refine lv_iadd (pc := 25) hx hb dX2_fitting_25 ?_
      refine lv_istore_n (lv' := [(2, .int (x + 1)), (3, .int (nI i)), (0, .ref (gM g)), (1, .int (nI v))]) (pc := 26) hx hb dX2_fitting_26 rfl hl (by decide) rfl (fun ls hl => ?_)
      refine lv_iinc (v := nI (i + 1)) (lv' := [(3, .int (nI (i + 1))), (2, .int (x + 1)), (0, .ref (gM g)), (1, .int (nI v))]) (pc := 27) hx hb dX2_fitting_27 hl (k := 1) rfl (nI_1 _) (by decide) rfl (fun ls hl => ?_)
      refine lv_goto (tgt := 4) (pc := 30) hx hb dX2_fitting_30 (by decide) ?_
      exact ih_4 (i + 1) (x + 1) ⟨by omega, by first | exact cntI_t hf c2 | exact cntI_z hf c2⟩ (by omega) _ (lv_sub hl [0, 1, 2, 3] rfl)
set_option maxHeartbeats 4000000 in
set_option maxRecDepth 100000 in
/-- clashes of a voice with itself, so much later -/
theorem cX2_canon_m (l : Launch) (g : GA) (A : Nat → Prop) (σ : St) (rest : va_W) (th : Int32) (mi ti : Nat → Int32) (v d0 : Nat) (u0 : Int32) (hv : v < 4) (hI : Inv σ) (hd : d0 ≤ 48) (hlay : LayOf σ v (len σ v) mi) : Met l yX2_canon wsX2_canon ({ frames := 2, cells := 0, slots := 0, locals := 42 }) (va_Pc [.ref (gM g), .int (nI (len σ v)), .int (nI d0), .int u0] (Cx g A (mw g σ th mi ti ++ rest))) (vp_Si (fun r : Int32 => r = nI (clN σ v v d0 u0))) 0 0 (fun _ => False) := by
  refine Met.ofW (cc := cX2_canon) (maxL := 6) (ret := (some .int)) (by decide) rfl ?_
  intro p e s m args below meth c s₁ B hml hv0
  obtain ⟨rfl, hP, hD, hA, hK, hX⟩ := hv0
  have hx := B.exec
  have hb := B.bytes
  have hr := B.returns
  have hts := atoms_spec (ws := wsX2_canon) B.pre
  have hown : s.vm.findClass RX2 = some m.cls := findClass_of_methodNamed B.named
  have hlocks := B.notSynchronized
  have hS : va_S A s.heap s.heap [] := va_S.rf
  have hinX2 : ∀ w ∈ u_ws RX2 TX2 11, w ∈ wsX2_canon := by decide +kernel
  have hl := lv_entry ([.ref (gM g), .int (nI (len σ v)), .int (nI d0), .int u0]) (n := 6) (Nat.le_of_ble_eq_true rfl)
  rw [lg_entry_eq]
  generalize (lg_sl ([.ref (gM g), .int (nI (len σ v)), .int (nI d0), .int u0]) ++ List.replicate (6 - (lg_sl ([.ref (gM g), .int (nI (len σ v)), .int (nI d0), .int u0])).length) Slot.unset).toArray = ls at hl ⊢
  have hl : lv_has ls 6 [(0, .ref (gM g)), (1, .int (nI (len σ v))), (2, .int (nI d0)), (3, .int u0)] := hl
  have hL : len σ v ≤ 648 := hI.bgC v (Nat.le_refl _)
  refine lv_iconst (v := 0) (pc := 0) hx hb dX2_canon_0 (by decide) ?_
  refine lv_istore (lv' := [(4, .int 0), (0, .ref (gM g)), (1, .int (nI (len σ v))), (2, .int (nI d0)), (3, .int u0)]) (pc := 1) hx hb dX2_canon_1 hl (by decide) rfl (fun ls hl => ?_)
  refine lv_iload_n (pc := 3) hx hb dX2_canon_3 rfl (lv_at hl 3 rfl) ?_
  refine lv_istore (lv' := [(5, .int (nI d0)), (4, .int 0), (0, .ref (gM g)), (1, .int (nI (len σ v))), (2, .int (nI d0)), (3, .int u0)]) (pc := 4) hx hb dX2_canon_4 hl (by decide) rfl (fun ls hl => ?_)
  refine k_loop2 (pc := 6) (nL := 6) (fun (i : Nat) (x : Int32) => (d0 ≤ i ∧ i ≤ max (len σ v) d0) ∧ x = nI (cnt (clT σ v v d0 u0) i)) (fun (i : Nat) (x : Int32) => len σ v - i) (fun (i : Nat) (x : Int32) => [(5, .int (nI i)), (4, .int x), (0, .ref (gM g)), (1, .int (nI (len σ v))), (2, .int (nI d0)), (3, .int u0)]) (fun i x hJ ih_6 ls hl => ?_) d0 0 ⟨⟨Nat.le_refl _, by omega⟩, by rw [cn_pre]; rfl⟩ (lv_sub hl [0, 1, 2, 3, 4, 5] rfl)
  obtain ⟨⟨hi0, hi⟩, hf⟩ := hJ
  have hl : lv_has ls 6 [(5, .int (nI i)), (4, .int x), (0, .ref (gM g)), (1, .int (nI (len σ v))), (2, .int (nI d0)), (3, .int u0)] := hl
  refine lv_iload (pc := 6) hx hb dX2_canon_6 (lv_at hl 0 rfl) ?_
  refine lv_iload_n (pc := 8) hx hb dX2_canon_8 rfl (lv_at hl 3 rfl) ?_
  refine lv_icmp_ge (tgt := 77) (pc := 9) hx hb dX2_canon_9 (by decide) (fun c1 => ?_) (fun c1 => ?_)
  · have c1 : len σ v ≤ i := (nI_leI (a := len σ v) (b := i) (by omega) (by omega)).mp c1
    refine lv_iload (pc := 77) hx hb dX2_canon_77 (lv_at hl 1 rfl) ?_
    exact W.iret hx hb hr (fun t ht hW => ⟨_, rfl, (by rw [hf, cn_end (by omega)]), ht⟩) (fun q hq => absurd hq List.not_mem_nil) dX2_canon_79
  · have c1 : ¬ (len σ v ≤ i) := fun z => c1 ((nI_leI (a := len σ v) (b := i) (by omega) (by omega)).mpr z)
    refine lv_iload (pc := 12) hx hb dX2_canon_12 (lv_at hl 1 rfl) ?_
    refine lv_aload_n (pc := 14) hx hb dX2_canon_14 rfl (lv_at hl 2 rfl) ?_
    refine va_get (v := .ref (gB g 7)) (pc := 15) (D := gD g) (ci := 2) (C := RX2) (T := TX2) (N := 11) hx hb hts hinX2 hown hK hP 0 (ma0 g σ th mi ti rest) rfl 9 (by decide) (hts (.fieldLink RX2 32 "ChoirNotesModel" "mine" "[I") (by decide +kernel)) (fun _ h9 => h9) rfl dX2_canon_15 ?_
    refine lv_iload (pc := 18) hx hb dX2_canon_18 (lv_at hl 0 rfl) ?_
    refine k_iald (pc := 20) (x := mi i) hx hb hK hP 8 0 (ma8 g σ th mi ti rest) rfl i rfl (by omega) (by decide) rfl dX2_canon_20 ?_
    refine lv_iconst (v := (-1)) (pc := 21) hx hb dX2_canon_21 (by decide) ?_
    refine lv_icmp_eq (tgt := 67) (pc := 22) hx hb dX2_canon_22 (by decide) (fun c2 => ?_) (fun c2 => ?_)
    · refine lv_iconst (v := 0) (pc := 67) hx hb dX2_canon_67 (by decide) ?_
      refine lv_iadd (pc := 68) hx hb dX2_canon_68 ?_
      refine lv_istore (lv' := [(4, .int (x + 0)), (5, .int (nI i)), (0, .ref (gM g)), (1, .int (nI (len σ v))), (2, .int (nI d0)), (3, .int u0)]) (pc := 69) hx hb dX2_canon_69 hl (by decide) rfl (fun ls hl => ?_)
      refine lv_iinc (v := nI (i + 1)) (lv' := [(5, .int (nI (i + 1))), (4, .int (x + 0)), (0, .ref (gM g)), (1, .int (nI (len σ v))), (2, .int (nI d0)), (3, .int u0)]) (pc := 71) hx hb dX2_canon_71 hl (k := 1) rfl (nI_1 _) (by decide) rfl (fun ls hl => ?_)
      refine lv_goto (tgt := 6) (pc := 74) hx hb dX2_canon_74 (by decide) ?_
      exact ih_6 (i + 1) (x + 0) ⟨⟨by omega, by omega⟩, by first | exact cntI_t hf (cn_t hi0 c2 c3 (hlay _ (by omega)) (hlay _ (by omega)) c4) | exact cntI_z hf (cn_n hi0 c2 c3 (hlay _ (by omega)) (hlay _ (by omega)) c4) | exact cntI_z hf (cn_a c2 (hlay _ (by omega))) | exact cntI_z hf (cn_b c3 (hlay _ (by omega)))⟩ (by omega) _ (lv_sub hl [0, 1, 2, 3, 4, 5] rfl)
    · refine lv_aload_n (pc := 25) hx hb dX2_canon_25 rfl (lv_at hl 2 rfl) ?_
      refine va_get (v := .ref (gB g 7)) (pc := 26) (D := gD g) (ci := 2) (C := RX2) (T := TX2) (N := 11) hx hb hts hinX2 hown hK hP 0 (ma0 g σ th mi ti rest) rfl 9 (by decide) (hts (.fieldLink RX2 32 "ChoirNotesModel" "mine" "[I") (by decide +kernel)) (fun _ h9 => h9) rfl dX2_canon_26 ?_
      refine lv_iload (pc := 29) hx hb dX2_canon_29 (lv_at hl 0 rfl) ?_
      refine lv_iload_n (pc := 31) hx hb dX2_canon_31 rfl (lv_at hl 4 rfl) ?_
      refine lv_isub (pc := 32) hx hb dX2_canon_32 ?_
      refine k_cong (y := nI (i - d0)) (pk_sub hi0) ?_
      refine k_iald (pc := 33) (x := mi (i - d0)) hx hb hK hP 8 0 (ma8 g σ th mi ti rest) rfl (i - d0) rfl (by omega) (by decide) rfl dX2_canon_33 ?_
      refine lv_iconst (v := (-1)) (pc := 34) hx hb dX2_canon_34 (by decide) ?_
      refine lv_icmp_eq (tgt := 67) (pc := 35) hx hb dX2_canon_35 (by decide) (fun c3 => ?_) (fun c3 => ?_)
      · refine lv_iconst (v := 0) (pc := 67) hx hb dX2_canon_67 (by decide) ?_
        refine lv_iadd (pc := 68) hx hb dX2_canon_68 ?_
        refine lv_istore (lv' := [(4, .int (x + 0)), (5, .int (nI i)), (0, .ref (gM g)), (1, .int (nI (len σ v))), (2, .int (nI d0)), (3, .int u0)]) (pc := 69) hx hb dX2_canon_69 hl (by decide) rfl (fun ls hl => ?_)
        refine lv_iinc (v := nI (i + 1)) (lv' := [(5, .int (nI (i + 1))), (4, .int (x + 0)), (0, .ref (gM g)), (1, .int (nI (len σ v))), (2, .int (nI d0)), (3, .int u0)]) (pc := 71) hx hb dX2_canon_71 hl (k := 1) rfl (nI_1 _) (by decide) rfl (fun ls hl => ?_)
        refine lv_goto (tgt := 6) (pc := 74) hx hb dX2_canon_74 (by decide) ?_
        exact ih_6 (i + 1) (x + 0) ⟨⟨by omega, by omega⟩, by first | exact cntI_t hf (cn_t hi0 c2 c3 (hlay _ (by omega)) (hlay _ (by omega)) c4) | exact cntI_z hf (cn_n hi0 c2 c3 (hlay _ (by omega)) (hlay _ (by omega)) c4) | exact cntI_z hf (cn_a c2 (hlay _ (by omega))) | exact cntI_z hf (cn_b c3 (hlay _ (by omega)))⟩ (by omega) _ (lv_sub hl [0, 1, 2, 3, 4, 5] rfl)
      · refine lv_aload_n (pc := 38) hx hb dX2_canon_38 rfl (lv_at hl 2 rfl) ?_
        refine va_get (v := .ref (gB g 7)) (pc := 39) (D := gD g) (ci := 2) (C := RX2) (T := TX2) (N := 11) hx hb hts hinX2 hown hK hP 0 (ma0 g σ th mi ti rest) rfl 9 (by decide) (hts (.fieldLink RX2 32 "ChoirNotesModel" "mine" "[I") (by decide +kernel)) (fun _ h9 => h9) rfl dX2_canon_39 ?_
        refine lv_iload (pc := 42) hx hb dX2_canon_42 (lv_at hl 0 rfl) ?_
        refine k_iald (pc := 44) (x := mi i) hx hb hK hP 8 0 (ma8 g σ th mi ti rest) rfl i rfl (by omega) (by decide) rfl dX2_canon_44 ?_
        refine lv_aload_n (pc := 45) hx hb dX2_canon_45 rfl (lv_at hl 2 rfl) ?_
        refine va_get (v := .ref (gB g 7)) (pc := 46) (D := gD g) (ci := 2) (C := RX2) (T := TX2) (N := 11) hx hb hts hinX2 hown hK hP 0 (ma0 g σ th mi ti rest) rfl 9 (by decide) (hts (.fieldLink RX2 32 "ChoirNotesModel" "mine" "[I") (by decide +kernel)) (fun _ h9 => h9) rfl dX2_canon_46 ?_
        refine lv_iload (pc := 49) hx hb dX2_canon_49 (lv_at hl 0 rfl) ?_
        refine lv_iload_n (pc := 51) hx hb dX2_canon_51 rfl (lv_at hl 4 rfl) ?_
        refine lv_isub (pc := 52) hx hb dX2_canon_52 ?_
        refine k_cong (y := nI (i - d0)) (pk_sub hi0) ?_
        refine k_iald (pc := 53) (x := mi (i - d0)) hx hb hK hP 8 0 (ma8 g σ th mi ti rest) rfl (i - d0) rfl (by omega) (by decide) rfl dX2_canon_53 ?_
        refine lv_isub (pc := 54) hx hb dX2_canon_54 ?_
        refine lv_iload_n (pc := 55) hx hb dX2_canon_55 rfl (lv_at hl 5 rfl) ?_
        refine lv_isub (pc := 56) hx hb dX2_canon_56 ?_
        refine k_ri (pc := 57) (va_runS (As := [.int (((mi i) - (mi (i - d0))) - u0)]) (rest := [.int x]) ⟨hx, hb, hml, hown, hts⟩ (cX2_isClash_m l g A σ rest th mi ti (((mi i) - (mi (i - d0))) - u0)) (va_cwS 1 hts gX2_canon_X2_isClash rfl rfl rfl (by decide +kernel) ⟨Nat.le_of_ble_eq_true rfl, Nat.le_of_ble_eq_true rfl⟩) (cx_S hP hD hA hK hX hS) rfl rfl hl.1 rfl (lv_room (Nat.le_of_ble_eq_true rfl)) dX2_canon_57 ⟨Nat.le_of_ble_eq_true rfl, Nat.le_of_ble_eq_true rfl⟩) (fun r_4 hr_4 => ?_)
        subst hr_4
        refine lv_if_eq (tgt := 67) (pc := 60) hx hb dX2_canon_60 (by decide) (fun c4 => ?_) (fun c4 => ?_)
        · have c4 := bI_0.mp c4
          refine lv_iconst (v := 0) (pc := 67) hx hb dX2_canon_67 (by decide) ?_
          refine lv_iadd (pc := 68) hx hb dX2_canon_68 ?_
          refine lv_istore (lv' := [(4, .int (x + 0)), (5, .int (nI i)), (0, .ref (gM g)), (1, .int (nI (len σ v))), (2, .int (nI d0)), (3, .int u0)]) (pc := 69) hx hb dX2_canon_69 hl (by decide) rfl (fun ls hl => ?_)
          refine lv_iinc (v := nI (i + 1)) (lv' := [(5, .int (nI (i + 1))), (4, .int (x + 0)), (0, .ref (gM g)), (1, .int (nI (len σ v))), (2, .int (nI d0)), (3, .int u0)]) (pc := 71) hx hb dX2_canon_71 hl (k := 1) rfl (nI_1 _) (by decide) rfl (fun ls hl => ?_)
          refine lv_goto (tgt := 6) (pc := 74) hx hb dX2_canon_74 (by decide) ?_
          exact ih_6 (i + 1) (x + 0) ⟨⟨by omega, by omega⟩, by first | exact cntI_t hf (cn_t hi0 c2 c3 (hlay _ (by omega)) (hlay _ (by omega)) c4) | exact cntI_z hf (cn_n hi0 c2 c3 (hlay _ (by omega)) (hlay _ (by omega)) c4) | exact cntI_z hf (cn_a c2 (hlay _ (by omega))) | exact cntI_z hf (cn_b c3 (hlay _ (by omega)))⟩ (by omega) _ (lv_sub hl [0, 1, 2, 3, 4, 5] rfl)
        · have c4 := bI_n0.mp c4
          refine lv_iconst (v := 1) (pc := 63) hx hb dX2_canon_63 (by decide) ?_
          refine lv_goto (tgt := 68) (pc := 64) hx hb dX2_canon_64 (by decide) ?_
          refine lv_iadd (pc := 68) hx hb dX2_canon_68 ?_
          refine lv_istore (lv' := [(4, .int (x + 1)), (5, .int (nI i)), (0, .ref (gM g)), (1, .int (nI (len σ v))), (2, .int (nI d0)), (3, .int u0)]) (pc := 69) hx hb dX2_canon_69 hl (by decide) rfl (fun ls hl => ?_)
          refine lv_iinc (v := nI (i + 1)) (lv' := [(5, .int (nI (i + 1))), (4, .int (x + 1)), (0, .ref (gM g)), (1, .int (nI (len σ v))), (2, .int (nI d0)), (3, .int u0)]) (pc := 71) hx hb dX2_canon_71 hl (k := 1) rfl (nI_1 _) (by decide) rfl (fun ls hl => ?_)
          refine lv_goto (tgt := 6) (pc := 74) hx hb dX2_canon_74 (by decide) ?_
          exact ih_6 (i + 1) (x + 1) ⟨⟨by omega, by omega⟩, by first | exact cntI_t hf (cn_t hi0 c2 c3 (hlay _ (by omega)) (hlay _ (by omega)) c4) | exact cntI_z hf (cn_n hi0 c2 c3 (hlay _ (by omega)) (hlay _ (by omega)) c4) | exact cntI_z hf (cn_a c2 (hlay _ (by omega))) | exact cntI_z hf (cn_b c3 (hlay _ (by omega)))⟩ (by omega) _ (lv_sub hl [0, 1, 2, 3, 4, 5] rfl)
