/-! THE REFERENCE: what writes its rows -/
section CM
variable {σ : St} {v w t : Nat} {x y a b u : Int32}
theorem cm_a (h : x = -1) (hx : x = plc σ v t) : clT σ v w 0 u t = false := by
  unfold clT
  rw [← hx, h, cls_l, Bool.and_false]
theorem cm_b (h : y = -1) (hy : y = plc σ w t) : clT σ v w 0 u t = false := by
  unfold clT
  rw [show t - 0 = t from rfl, ← hy, h, cls_r, Bool.and_false]
theorem cm_n (h1 : ¬ x = -1) (h2 : ¬ y = -1) (hx : x = plc σ v t) (hy : y = plc σ w t) (h : isCl (x + 2 * a - y - 2 * b) = false) : clT σ v w 0 (2 * (b - a)) t = false := by
  unfold clT
  rw [show t - 0 = t from rfl, ← hx, ← hy, cls_m h1 h2, h, Bool.and_false]
theorem cm_t (h1 : ¬ x = -1) (h2 : ¬ y = -1) (hx : x = plc σ v t) (hy : y = plc σ w t) (h : isCl (x + 2 * a - y - 2 * b) = true) : clT σ v w 0 (2 * (b - a)) t = true := by
  unfold clT
  rw [show t - 0 = t from rfl, ← hx, ← hy, cls_m h1 h2, h, decide_eq_true (Nat.zero_le _)]; rfl
theorem cnt_f0 {F : Nat → Bool} (h : F t = false) (h0 : cnt F t = 0) : cnt F (t + 1) = 0 := by
  show cnt F t + (if F t then 1 else 0) = 0
  rw [h, h0]; rfl
theorem cm_end : cnt (clT σ v w 0 u) (min (len σ v) (len σ w)) = clN σ v w 0 u := by
  unfold clN
  rcases Nat.lt_or_ge (len σ v) (len σ w) with q | q
  · rw [show min (len σ v) (len σ w) = len σ v by omega]
  · rw [show min (len σ v) (len σ w) = len σ w by omega]
    exact (cnt_const (a := len σ w) (fun t ht => clT_outB (by omega)) q).symm
theorem cm_fst (h : cnt (clT σ v w 0 u) (min (len σ v) (len σ w)) = 0) : fst (clT σ v w 0 u) (len σ v) = -1 :=
  fst_f (fun t ht => cnt_0 (cm_end.symm.trans h) t ht)
end CM
set_option maxHeartbeats 4000000 in
set_option maxRecDepth 100000 in
/-- a refusal -/
theorem cX2_fail_m (l : Launch) (g : GA) (A : Nat → Prop) (σ : St) (rest : va_W) (th : Int32) (mi ti : Nat → Int32) (n0 : Int32) : Met l yX2_fail wsX2_fail ({ frames := 0, cells := 0, slots := 0, locals := 0 }) (va_Pc [.ref (gM g), .int n0] (Cx g A (mw g σ th mi ti ++ rest))) (va_Qi (fun (r : Int32) (u : Unit) => r = 0) (fun u t => kB g A (mw g σ n0 mi ti ++ rest) t) A) 0 0 A := by
  refine Met.ofW (cc := cX2_fail) (maxL := 2) (ret := (some .int)) (by decide) rfl ?_
  intro p e s m args below meth c s₁ B hml hv0
  obtain ⟨rfl, hP, hD, hA, hK, hX⟩ := hv0
  have hx := B.exec
  have hb := B.bytes
  have hr := B.returns
  have hts := atoms_spec (ws := wsX2_fail) B.pre
  have hown : s.vm.findClass RX2 = some m.cls := findClass_of_methodNamed B.named
  have hlocks := B.notSynchronized
  have hS : va_S A s.heap s.heap [] := va_S.rf
  have hinX2 : ∀ w ∈ u_ws RX2 TX2 11, w ∈ wsX2_fail := by decide +kernel
  have hl := lv_entry ([.ref (gM g), .int n0]) (n := 2) (Nat.le_of_ble_eq_true rfl)
  rw [lg_entry_eq]
  generalize (lg_sl ([.ref (gM g), .int n0]) ++ List.replicate (2 - (lg_sl ([.ref (gM g), .int n0])).length) Slot.unset).toArray = ls at hl ⊢
  have hl : lv_has ls 2 [(0, .ref (gM g)), (1, .int n0)] := hl
  refine lv_aload_n (pc := 0) hx hb dX2_fail_0 rfl (lv_at hl 0 rfl) ?_
  refine lv_iload_n (pc := 1) hx hb dX2_fail_1 rfl (lv_at hl 1 rfl) ?_
  refine va_put (pc := 2) (D := gD g) (ci := 2) (v := .int n0) (ty := .int) (C := RX2) (T := TX2) (N := 11) hx hb hts hinX2 tyX2 tyX2_ok nmX2 hown hK hP hD hS 0 (ma0 g σ th mi ti rest) rfl 0 (by decide) (hts (.fieldLink RX2 38 "ChoirNotesModel" "thrown" "I") (by decide +kernel)) (fun _ h9 => h9) rfl (by decide +kernel) rfl rfl (Nat.le_of_ble_eq_true rfl) dX2_fail_2 (fun H1 locs1 hP hD hS => ?_)
  have hP : va_P (gD g) vwCl (mw g σ n0 mi ti ++ rest) H1 := hP
  have hD : va_D A (mw g σ n0 mi ti ++ rest) := hD
  refine lv_iconst (v := 0) (pc := 5) hx hb dX2_fail_5 (by decide) ?_
  exact W.iret hx hb hr (fun t ht hW => ⟨⟨_, (), rfl, rfl, by rw [ht]; exact hP, hD⟩, hS.F ht⟩) hS.2.2 dX2_fail_6
set_option maxHeartbeats 4000000 in
set_option maxRecDepth 100000 in
/-- an answer -/
theorem cX2_told_m (l : Launch) (g : GA) (A : Nat → Prop) (σ : St) (rest : va_W) (th : Int32) (mi ti : Nat → Int32) (n0 : Int32) : Met l yX2_told wsX2_told ({ frames := 0, cells := 0, slots := 0, locals := 0 }) (va_Pc [.ref (gM g), .int n0] (Cx g A (mw g σ th mi ti ++ rest))) (va_Qi (fun (r : Int32) (u : Unit) => r = n0) (fun u t => kB g A (mw g σ 0 mi ti ++ rest) t) A) 0 0 A := by
  refine Met.ofW (cc := cX2_told) (maxL := 2) (ret := (some .int)) (by decide) rfl ?_
  intro p e s m args below meth c s₁ B hml hv0
  obtain ⟨rfl, hP, hD, hA, hK, hX⟩ := hv0
  have hx := B.exec
  have hb := B.bytes
  have hr := B.returns
  have hts := atoms_spec (ws := wsX2_told) B.pre
  have hown : s.vm.findClass RX2 = some m.cls := findClass_of_methodNamed B.named
  have hlocks := B.notSynchronized
  have hS : va_S A s.heap s.heap [] := va_S.rf
  have hinX2 : ∀ w ∈ u_ws RX2 TX2 11, w ∈ wsX2_told := by decide +kernel
  have hl := lv_entry ([.ref (gM g), .int n0]) (n := 2) (Nat.le_of_ble_eq_true rfl)
  rw [lg_entry_eq]
  generalize (lg_sl ([.ref (gM g), .int n0]) ++ List.replicate (2 - (lg_sl ([.ref (gM g), .int n0])).length) Slot.unset).toArray = ls at hl ⊢
  have hl : lv_has ls 2 [(0, .ref (gM g)), (1, .int n0)] := hl
  refine lv_aload_n (pc := 0) hx hb dX2_told_0 rfl (lv_at hl 0 rfl) ?_
  refine lv_iconst (v := 0) (pc := 1) hx hb dX2_told_1 (by decide) ?_
  refine va_put (pc := 2) (D := gD g) (ci := 2) (v := .int 0) (ty := .int) (C := RX2) (T := TX2) (N := 11) hx hb hts hinX2 tyX2 tyX2_ok nmX2 hown hK hP hD hS 0 (ma0 g σ th mi ti rest) rfl 0 (by decide) (hts (.fieldLink RX2 38 "ChoirNotesModel" "thrown" "I") (by decide +kernel)) (fun _ h9 => h9) rfl (by decide +kernel) rfl rfl (Nat.le_of_ble_eq_true rfl) dX2_told_2 (fun H1 locs1 hP hD hS => ?_)
  have hP : va_P (gD g) vwCl (mw g σ 0 mi ti ++ rest) H1 := hP
  have hD : va_D A (mw g σ 0 mi ti ++ rest) := hD
  refine lv_iload_n (pc := 5) hx hb dX2_told_5 rfl (lv_at hl 1 rfl) ?_
  exact W.iret hx hb hr (fun t ht hW => ⟨⟨_, (), rfl, rfl, by rw [ht]; exact hP, hD⟩, hS.F ht⟩) hS.2.2 dX2_told_6
set_option maxHeartbeats 4000000 in
set_option maxRecDepth 100000 in
/-- a mensuration -/
theorem cX2_set_m (l : Launch) (g : GA) (A : Nat → Prop) (σ : St) (rest : va_W) (th : Int32) (mi ti : Nat → Int32) (v a b c0 : Nat) (hv : v < 4) : Met l yX2_set wsX2_set ({ frames := 0, cells := 0, slots := 0, locals := 0 }) (va_Pc [.ref (gM g), .int (nI v), .int (nI a), .int (nI b), .int (nI c0)] (Cx g A (mw g σ th mi ti ++ rest))) (va_Qv (fun (u : Unit) => True) (fun u t => kB g A (mw g (meS σ v a b c0) th mi ti ++ rest) t) A) 0 0 A := by
  refine Met.ofW (cc := cX2_set) (maxL := 5) (ret := none) (by decide) rfl ?_
  intro p e s m args below meth c s₁ B hml hv0
  obtain ⟨rfl, hP, hD, hA, hK, hX⟩ := hv0
  have hx := B.exec
  have hb := B.bytes
  have hr := B.returns
  have hts := atoms_spec (ws := wsX2_set) B.pre
  have hown : s.vm.findClass RX2 = some m.cls := findClass_of_methodNamed B.named
  have hlocks := B.notSynchronized
  have hS : va_S A s.heap s.heap [] := va_S.rf
  have hinX2 : ∀ w ∈ u_ws RX2 TX2 11, w ∈ wsX2_set := by decide +kernel
  have hl := lv_entry ([.ref (gM g), .int (nI v), .int (nI a), .int (nI b), .int (nI c0)]) (n := 5) (Nat.le_of_ble_eq_true rfl)
  rw [lg_entry_eq]
  generalize (lg_sl ([.ref (gM g), .int (nI v), .int (nI a), .int (nI b), .int (nI c0)]) ++ List.replicate (5 - (lg_sl ([.ref (gM g), .int (nI v), .int (nI a), .int (nI b), .int (nI c0)])).length) Slot.unset).toArray = ls at hl ⊢
  have hl : lv_has ls 5 [(0, .ref (gM g)), (1, .int (nI v)), (2, .int (nI a)), (3, .int (nI b)), (4, .int (nI c0))] := hl
  refine lv_aload_n (pc := 0) hx hb dX2_set_0 rfl (lv_at hl 0 rfl) ?_
  refine va_get (v := .ref (gB g 2)) (pc := 1) (D := gD g) (ci := 2) (C := RX2) (T := TX2) (N := 11) hx hb hts hinX2 hown hK hP 0 (ma0 g σ th mi ti rest) rfl 4 (by decide) (hts (.fieldLink RX2 16 "ChoirNotesModel" "measure" "[I") (by decide +kernel)) (fun _ h9 => h9) rfl dX2_set_1 ?_
  refine lv_iconst (v := 3) (pc := 4) hx hb dX2_set_4 (by decide) ?_
  refine lv_iload_n (pc := 5) hx hb dX2_set_5 rfl (lv_at hl 1 rfl) ?_
  refine lv_imul (pc := 6) hx hb dX2_set_6 ?_
  refine k_cong (y := nI (3 * v)) (pk_mul 3 v) ?_
  refine lv_iload_n (pc := 7) hx hb dX2_set_7 rfl (lv_at hl 2 rfl) ?_
  refine k_iast (pc := 8) (ws' := mw g (uM σ v 0 a) th mi ti ++ rest) hx hb hK hP hD hS 3 0 (ma3 g σ th mi ti rest) rfl (3 * v + 0) rfl (by omega) (by decide) (ms_M g σ th mi ti rest (v := v) (i := 0) a (by omega)) dX2_set_8 (fun H1 locs1 hP hD hS => ?_)
  refine lv_aload_n (pc := 9) hx hb dX2_set_9 rfl (lv_at hl 0 rfl) ?_
  refine va_get (v := .ref (gB g 2)) (pc := 10) (D := gD g) (ci := 2) (C := RX2) (T := TX2) (N := 11) hx hb hts hinX2 hown hK hP 0 (ma0 g (uM σ v 0 a) th mi ti rest) rfl 4 (by decide) (hts (.fieldLink RX2 16 "ChoirNotesModel" "measure" "[I") (by decide +kernel)) (fun _ h9 => h9) rfl dX2_set_10 ?_
  refine lv_iconst (v := 3) (pc := 13) hx hb dX2_set_13 (by decide) ?_
  refine lv_iload_n (pc := 14) hx hb dX2_set_14 rfl (lv_at hl 1 rfl) ?_
  refine lv_imul (pc := 15) hx hb dX2_set_15 ?_
  refine k_cong (y := nI (3 * v)) (pk_mul 3 v) ?_
  refine lv_iconst (v := 1) (pc := 16) hx hb dX2_set_16 (by decide) ?_
  refine lv_iadd (pc := 17) hx hb dX2_set_17 ?_
  refine k_cong (y := nI (3 * v + 1)) (nI_add (3 * v) 1) ?_
  refine lv_iload_n (pc := 18) hx hb dX2_set_18 rfl (lv_at hl 3 rfl) ?_
  refine k_iast (pc := 19) (ws' := mw g (uM (uM σ v 0 a) v 1 b) th mi ti ++ rest) hx hb hK hP hD hS 3 0 (ma3 g (uM σ v 0 a) th mi ti rest) rfl (3 * v + 1) rfl (by omega) (by decide) (ms_M g (uM σ v 0 a) th mi ti rest (v := v) (i := 1) b (by omega)) dX2_set_19 (fun H2 locs2 hP hD hS => ?_)
  refine lv_aload_n (pc := 20) hx hb dX2_set_20 rfl (lv_at hl 0 rfl) ?_
  refine va_get (v := .ref (gB g 2)) (pc := 21) (D := gD g) (ci := 2) (C := RX2) (T := TX2) (N := 11) hx hb hts hinX2 hown hK hP 0 (ma0 g (uM (uM σ v 0 a) v 1 b) th mi ti rest) rfl 4 (by decide) (hts (.fieldLink RX2 16 "ChoirNotesModel" "measure" "[I") (by decide +kernel)) (fun _ h9 => h9) rfl dX2_set_21 ?_
  refine lv_iconst (v := 3) (pc := 24) hx hb dX2_set_24 (by decide) ?_
  refine lv_iload_n (pc := 25) hx hb dX2_set_25 rfl (lv_at hl 1 rfl) ?_
  refine lv_imul (pc := 26) hx hb dX2_set_26 ?_
  refine k_cong (y := nI (3 * v)) (pk_mul 3 v) ?_
  refine lv_iconst (v := 2) (pc := 27) hx hb dX2_set_27 (by decide) ?_
  refine lv_iadd (pc := 28) hx hb dX2_set_28 ?_
  refine k_cong (y := nI (3 * v + 2)) (nI_add (3 * v) 2) ?_
  refine lv_iload (pc := 29) hx hb dX2_set_29 (lv_at hl 4 rfl) ?_
  refine k_iast (pc := 31) (ws' := mw g (uM (uM (uM σ v 0 a) v 1 b) v 2 c0) th mi ti ++ rest) hx hb hK hP hD hS 3 0 (ma3 g (uM (uM σ v 0 a) v 1 b) th mi ti rest) rfl (3 * v + 2) rfl (by omega) (by decide) (ms_M g (uM (uM σ v 0 a) v 1 b) th mi ti rest (v := v) (i := 2) c0 (by omega)) dX2_set_31 (fun H3 locs3 hP hD hS => ?_)
  exact W.vret hx hb hr (fun t ht hW => ⟨⟨(), rfl, trivial, by rw [ht]; exact hP, hD⟩, hS.F ht⟩) hS.2.2 dX2_set_32
set_option maxHeartbeats 4000000 in
set_option maxRecDepth 100000 in
/-- a sign behind the others -/
theorem cX2_put_m (l : Launch) (g : GA) (A : Nat → Prop) (σ : St) (rest : va_W) (th : Int32) (mi ti : Nat → Int32) (v k0 : Nat) (p0 : Int32) (r0 : Bool) (t0 : Int32) (hv : v < 4) (hc : sC σ v < 24) : Met l yX2_put wsX2_put ({ frames := 0, cells := 0, slots := 0, locals := 0 }) (va_Pc [.ref (gM g), .int (nI v), .int (nI k0), .int p0, .int (bI r0), .int t0] (Cx g A (mw g σ th mi ti ++ rest))) (va_Qv (fun (u : Unit) => True) (fun u t => kB g A (mw g (apS σ v k0 p0 r0 t0) th mi ti ++ rest) t) A) 0 0 A := by
  refine Met.ofW (cc := cX2_put) (maxL := 7) (ret := none) (by decide) rfl ?_
  intro p e s m args below meth c s₁ B hml hv0
  obtain ⟨rfl, hP, hD, hA, hK, hX⟩ := hv0
  have hx := B.exec
  have hb := B.bytes
  have hr := B.returns
  have hts := atoms_spec (ws := wsX2_put) B.pre
  have hown : s.vm.findClass RX2 = some m.cls := findClass_of_methodNamed B.named
  have hlocks := B.notSynchronized
  have hS : va_S A s.heap s.heap [] := va_S.rf
  have hinX2 : ∀ w ∈ u_ws RX2 TX2 11, w ∈ wsX2_put := by decide +kernel
  have hl := lv_entry ([.ref (gM g), .int (nI v), .int (nI k0), .int p0, .int (bI r0), .int t0]) (n := 7) (Nat.le_of_ble_eq_true rfl)
  rw [lg_entry_eq]
  generalize (lg_sl ([.ref (gM g), .int (nI v), .int (nI k0), .int p0, .int (bI r0), .int t0]) ++ List.replicate (7 - (lg_sl ([.ref (gM g), .int (nI v), .int (nI k0), .int p0, .int (bI r0), .int t0])).length) Slot.unset).toArray = ls at hl ⊢
  have hl : lv_has ls 7 [(0, .ref (gM g)), (1, .int (nI v)), (2, .int (nI k0)), (3, .int p0), (4, .int (bI r0)), (5, .int t0)] := hl
  refine lv_bipush (v := 24) (pc := 0) hx hb dX2_put_0 (by decide) ?_
  refine lv_iload_n (pc := 2) hx hb dX2_put_2 rfl (lv_at hl 1 rfl) ?_
  refine lv_imul (pc := 3) hx hb dX2_put_3 ?_
  refine k_cong (y := nI (24 * v)) (pk_mul 24 v) ?_
  refine lv_aload_n (pc := 4) hx hb dX2_put_4 rfl (lv_at hl 0 rfl) ?_
  refine va_get (v := .ref (gB g 0)) (pc := 5) (D := gD g) (ci := 2) (C := RX2) (T := TX2) (N := 11) hx hb hts hinX2 hown hK hP 0 (ma0 g σ th mi ti rest) rfl 2 (by decide) (hts (.fieldLink RX2 9 "ChoirNotesModel" "many" "[I") (by decide +kernel)) (fun _ h9 => h9) rfl dX2_put_5 ?_
  refine lv_iload_n (pc := 8) hx hb dX2_put_8 rfl (lv_at hl 1 rfl) ?_
  refine k_iald (pc := 9) (x := nI (sC σ v)) hx hb hK hP 1 0 (ma1 g σ th mi ti rest) rfl v rfl (by omega) (by decide) rfl dX2_put_9 ?_
  refine lv_iadd (pc := 10) hx hb dX2_put_10 ?_
  refine k_cong (y := nI (24 * v + (sC σ v))) (nI_add (24 * v) (sC σ v)) ?_
  refine lv_istore (lv' := [(6, .int (nI (24 * v + (sC σ v)))), (0, .ref (gM g)), (1, .int (nI v)), (2, .int (nI k0)), (3, .int p0), (4, .int (bI r0)), (5, .int t0)]) (pc := 11) hx hb dX2_put_11 hl (by decide) rfl (fun ls hl => ?_)
  refine lv_aload_n (pc := 13) hx hb dX2_put_13 rfl (lv_at hl 1 rfl) ?_
  refine va_get (v := .ref (gB g 3)) (pc := 14) (D := gD g) (ci := 2) (C := RX2) (T := TX2) (N := 11) hx hb hts hinX2 hown hK hP 0 (ma0 g σ th mi ti rest) rfl 5 (by decide) (hts (.fieldLink RX2 19 "ChoirNotesModel" "kind" "[I") (by decide +kernel)) (fun _ h9 => h9) rfl dX2_put_14 ?_
  refine lv_iload (pc := 17) hx hb dX2_put_17 (lv_at hl 0 rfl) ?_
  refine lv_iload_n (pc := 19) hx hb dX2_put_19 rfl (lv_at hl 3 rfl) ?_
  refine k_iast (pc := 20) (ws' := mw g (uK σ v (sC σ v) k0) th mi ti ++ rest) hx hb hK hP hD hS 4 0 (ma4 g σ th mi ti rest) rfl (24 * v + (sC σ v)) rfl (by omega) (by decide) (ms_K g σ th mi ti rest (v := v) (s := (sC σ v)) k0 (by omega)) dX2_put_20 (fun H1 locs1 hP hD hS => ?_)
  refine lv_aload_n (pc := 21) hx hb dX2_put_21 rfl (lv_at hl 1 rfl) ?_
  refine va_get (v := .ref (gB g 4)) (pc := 22) (D := gD g) (ci := 2) (C := RX2) (T := TX2) (N := 11) hx hb hts hinX2 hown hK hP 0 (ma0 g (uK σ v (sC σ v) k0) th mi ti rest) rfl 6 (by decide) (hts (.fieldLink RX2 22 "ChoirNotesModel" "place" "[I") (by decide +kernel)) (fun _ h9 => h9) rfl dX2_put_22 ?_
  refine lv_iload (pc := 25) hx hb dX2_put_25 (lv_at hl 0 rfl) ?_
  refine lv_iload_n (pc := 27) hx hb dX2_put_27 rfl (lv_at hl 4 rfl) ?_
  refine k_iast (pc := 28) (ws' := mw g (uP (uK σ v (sC σ v) k0) v (sC σ v) p0) th mi ti ++ rest) hx hb hK hP hD hS 5 0 (ma5 g (uK σ v (sC σ v) k0) th mi ti rest) rfl (24 * v + (sC σ v)) rfl (by omega) (by decide) (ms_P g (uK σ v (sC σ v) k0) th mi ti rest (v := v) (s := (sC σ v)) p0 (by omega)) dX2_put_28 (fun H2 locs2 hP hD hS => ?_)
  refine lv_aload_n (pc := 29) hx hb dX2_put_29 rfl (lv_at hl 1 rfl) ?_
  refine va_get (v := .ref (gB g 5)) (pc := 30) (D := gD g) (ci := 2) (C := RX2) (T := TX2) (N := 11) hx hb hts hinX2 hown hK hP 0 (ma0 g (uP (uK σ v (sC σ v) k0) v (sC σ v) p0) th mi ti rest) rfl 7 (by decide) (hts (.fieldLink RX2 25 "ChoirNotesModel" "isRed" "[Z") (by decide +kernel)) (fun _ h9 => h9) rfl dX2_put_30 ?_
  refine lv_iload (pc := 33) hx hb dX2_put_33 (lv_at hl 0 rfl) ?_
  refine lv_iload (pc := 35) hx hb dX2_put_35 (lv_at hl 5 rfl) ?_
  refine k_zast (pc := 37) (ws' := mw g (uR (uP (uK σ v (sC σ v) k0) v (sC σ v) p0) v (sC σ v) r0) th mi ti ++ rest) hx hb hK hP hD hS 6 1 (ma6 g (uP (uK σ v (sC σ v) k0) v (sC σ v) p0) th mi ti rest) rfl (24 * v + (sC σ v)) rfl (by omega) (by decide) (kN_b _) (ms_R g (uP (uK σ v (sC σ v) k0) v (sC σ v) p0) th mi ti rest (v := v) (s := (sC σ v)) r0 (by omega)) dX2_put_37 (fun H3 locs3 hP hD hS => ?_)
  refine lv_aload_n (pc := 38) hx hb dX2_put_38 rfl (lv_at hl 1 rfl) ?_
  refine va_get (v := .ref (gB g 6)) (pc := 39) (D := gD g) (ci := 2) (C := RX2) (T := TX2) (N := 11) hx hb hts hinX2 hown hK hP 0 (ma0 g (uR (uP (uK σ v (sC σ v) k0) v (sC σ v) p0) v (sC σ v) r0) th mi ti rest) rfl 8 (by decide) (hts (.fieldLink RX2 29 "ChoirNotesModel" "tied" "[I") (by decide +kernel)) (fun _ h9 => h9) rfl dX2_put_39 ?_
  refine lv_iload (pc := 42) hx hb dX2_put_42 (lv_at hl 0 rfl) ?_
  refine lv_iload (pc := 44) hx hb dX2_put_44 (lv_at hl 6 rfl) ?_
  refine k_iast (pc := 46) (ws' := mw g (uT (uR (uP (uK σ v (sC σ v) k0) v (sC σ v) p0) v (sC σ v) r0) v (sC σ v) t0) th mi ti ++ rest) hx hb hK hP hD hS 7 0 (ma7 g (uR (uP (uK σ v (sC σ v) k0) v (sC σ v) p0) v (sC σ v) r0) th mi ti rest) rfl (24 * v + (sC σ v)) rfl (by omega) (by decide) (ms_T g (uR (uP (uK σ v (sC σ v) k0) v (sC σ v) p0) v (sC σ v) r0) th mi ti rest (v := v) (s := (sC σ v)) t0 (by omega)) dX2_put_46 (fun H4 locs4 hP hD hS => ?_)
  refine lv_aload_n (pc := 47) hx hb dX2_put_47 rfl (lv_at hl 1 rfl) ?_
  refine va_get (v := .ref (gB g 0)) (pc := 48) (D := gD g) (ci := 2) (C := RX2) (T := TX2) (N := 11) hx hb hts hinX2 hown hK hP 0 (ma0 g (uT (uR (uP (uK σ v (sC σ v) k0) v (sC σ v) p0) v (sC σ v) r0) v (sC σ v) t0) th mi ti rest) rfl 2 (by decide) (hts (.fieldLink RX2 9 "ChoirNotesModel" "many" "[I") (by decide +kernel)) (fun _ h9 => h9) rfl dX2_put_48 ?_
  refine lv_iload_n (pc := 51) hx hb dX2_put_51 rfl (lv_at hl 2 rfl) ?_
  refine lv_dup2_11 (pc := 52) hx hb dX2_put_52 rfl rfl ?_
  refine k_iald (pc := 53) (x := nI (sC σ v)) hx hb hK hP 1 0 (ma1 g (uT (uR (uP (uK σ v (sC σ v) k0) v (sC σ v) p0) v (sC σ v) r0) v (sC σ v) t0) th mi ti rest) rfl v rfl (by omega) (by decide) (congrArg nI (by simp only [sC_uT, sC_uR, sC_uP, sC_uK])) dX2_put_53 ?_
  refine lv_iconst (v := 1) (pc := 54) hx hb dX2_put_54 (by decide) ?_
  refine lv_iadd (pc := 55) hx hb dX2_put_55 ?_
  refine k_cong (y := nI (sC σ v + 1)) (nI_add (sC σ v) 1) ?_
  refine k_iast (pc := 56) (ws' := mw g (uC (uT (uR (uP (uK σ v (sC σ v) k0) v (sC σ v) p0) v (sC σ v) r0) v (sC σ v) t0) v (sC σ v + 1)) th mi ti ++ rest) hx hb hK hP hD hS 1 0 (ma1 g (uT (uR (uP (uK σ v (sC σ v) k0) v (sC σ v) p0) v (sC σ v) r0) v (sC σ v) t0) th mi ti rest) rfl v rfl (by omega) (by decide) (ms_C g (uT (uR (uP (uK σ v (sC σ v) k0) v (sC σ v) p0) v (sC σ v) r0) v (sC σ v) t0) th mi ti rest v (sC σ v + 1)) dX2_put_56 (fun H5 locs5 hP hD hS => ?_)
  exact W.vret hx hb hr (fun t ht hW => ⟨⟨(), rfl, trivial, by rw [ht]; exact hP, hD⟩, hS.F ht⟩) hS.2.2 dX2_put_57
set_option maxHeartbeats 4000000 in
set_option maxRecDepth 100000 in
/-- a voice, minim by minim -/
theorem cX2_layM_m (l : Launch) (g : GA) (A : Nat → Prop) (σ : St) (rest : va_W) (th : Int32) (mi ti : Nat → Int32) (v : Nat) (hv : v < 4) (hI : Inv σ) : Met l yX2_lay wsX2_lay ({ frames := 1, cells := 0, slots := 0, locals := 25 }) (va_Pc [.ref (gM g), .int (nI v), .ref (gB g 7)] (Cx g A (mw g σ th mi ti ++ rest))) (va_Qi (fun (r : Int32) (u : Nat → Int32) => r = nI (len σ v) ∧ LayOf σ v (len σ v) u) (fun u t => kB g A (mw g σ th u ti ++ rest) t) A) 0 0 A := by
  refine Met.ofW (cc := cX2_lay) (maxL := 6) (ret := (some .int)) (by decide) rfl ?_
  intro p e s m args below meth c s₁ B hml hv0
  obtain ⟨rfl, hP, hD, hA, hK, hX⟩ := hv0
  have hx := B.exec
  have hb := B.bytes
  have hr := B.returns
  have hts := atoms_spec (ws := wsX2_lay) B.pre
  have hown : s.vm.findClass RX2 = some m.cls := findClass_of_methodNamed B.named
  have hlocks := B.notSynchronized
  have hS : va_S A s.heap s.heap [] := va_S.rf
  have hinX2 : ∀ w ∈ u_ws RX2 TX2 11, w ∈ wsX2_lay := by decide +kernel
  have hl := lv_entry ([.ref (gM g), .int (nI v), .ref (gB g 7)]) (n := 6) (Nat.le_of_ble_eq_true rfl)
  rw [lg_entry_eq]
  generalize (lg_sl ([.ref (gM g), .int (nI v), .ref (gB g 7)]) ++ List.replicate (6 - (lg_sl ([.ref (gM g), .int (nI v), .ref (gB g 7)])).length) Slot.unset).toArray = ls at hl ⊢
  have hl : lv_has ls 6 [(0, .ref (gM g)), (1, .int (nI v)), (2, .ref (gB g 7))] := hl
  have hC := hI.C v
  refine lv_iconst (v := 0) (pc := 0) hx hb dX2_lay_0 (by decide) ?_
  refine lv_istore_n (lv' := [(3, .int 0), (0, .ref (gM g)), (1, .int (nI v)), (2, .ref (gB g 7))]) (pc := 1) hx hb dX2_lay_1 rfl hl (by decide) rfl (fun ls hl => ?_)
  refine lv_iconst (v := 0) (pc := 2) hx hb dX2_lay_2 (by decide) ?_
  refine lv_istore (lv' := [(4, .int 0), (3, .int 0), (0, .ref (gM g)), (1, .int (nI v)), (2, .ref (gB g 7))]) (pc := 3) hx hb dX2_lay_3 hl (by decide) rfl (fun ls hl => ?_)
  refine k_loopW2 (pc := 5) (nL := 6) (fun (i : Nat) (f : Nat → Int32) => i ≤ sC σ v ∧ LayOf σ v (bg σ v i) f) (fun (i : Nat) (f : Nat → Int32) => sC σ v - i) (fun (i : Nat) (f : Nat → Int32) => [(4, .int (nI i)), (3, .int (nI (bg σ v i))), (0, .ref (gM g)), (1, .int (nI v)), (2, .ref (gB g 7))]) (fun (i : Nat) (f : Nat → Int32) => mw g σ th f ti ++ rest) (fun i f hJ ih_5 H_5 locs_5 ls hP hD hS hl => ?_) 0 mi ⟨Nat.zero_le _, fun t ht => absurd ht (Nat.not_lt_zero t)⟩ hP hD hS (lv_sub hl [0, 1, 2, 3, 4] rfl)
  obtain ⟨hi, hlay⟩ := hJ
  have hP : va_P (gD g) vwCl (mw g σ th f ti ++ rest) H_5 := hP
  have hD : va_D A (mw g σ th f ti ++ rest) := hD
  have hl : lv_has ls 6 [(4, .int (nI i)), (3, .int (nI (bg σ v i))), (0, .ref (gM g)), (1, .int (nI v)), (2, .ref (gB g 7))] := hl
  refine lv_iload (pc := 5) hx hb dX2_lay_5 (lv_at hl 0 rfl) ?_
  refine lv_aload_n (pc := 7) hx hb dX2_lay_7 rfl (lv_at hl 2 rfl) ?_
  refine va_get (v := .ref (gB g 0)) (pc := 8) (D := gD g) (ci := 2) (C := RX2) (T := TX2) (N := 11) hx hb hts hinX2 hown hK hP 0 (ma0 g σ th f ti rest) rfl 2 (by decide) (hts (.fieldLink RX2 9 "ChoirNotesModel" "many" "[I") (by decide +kernel)) (fun _ h9 => h9) rfl dX2_lay_8 ?_
  refine lv_iload_n (pc := 11) hx hb dX2_lay_11 rfl (lv_at hl 3 rfl) ?_
  refine k_iald (pc := 12) (x := nI (sC σ v)) hx hb hK hP 1 0 (ma1 g σ th f ti rest) rfl v rfl (by omega) (by decide) rfl dX2_lay_12 ?_
  refine lv_icmp_ge (tgt := 60) (pc := 13) hx hb dX2_lay_13 (by decide) (fun c1 => ?_) (fun c1 => ?_)
  · have c1 : sC σ v ≤ i := (nI_leI (a := sC σ v) (b := i) (by omega) (by omega)).mp c1
    refine lv_iload_n (pc := 60) hx hb dX2_lay_60 rfl (lv_at hl 1 rfl) ?_
    exact W.iret hx hb hr (fun t ht hW => ⟨⟨_, f, rfl, ⟨by rw [show i = sC σ v by omega]; rfl, by rw [show i = sC σ v by omega] at hlay; exact hlay⟩, by rw [ht]; exact hP, hD⟩, hS.F ht⟩) hS.2.2 dX2_lay_61
  · have c1 : ¬ (sC σ v ≤ i) := fun z => c1 ((nI_leI (a := sC σ v) (b := i) (by omega) (by omega)).mpr z)
    have hbb := hI.bgC v (show i + 1 ≤ sC σ v by omega)
    refine lv_iload_n (pc := 16) hx hb dX2_lay_16 rfl (lv_at hl 1 rfl) ?_
    refine lv_aload_n (pc := 17) hx hb dX2_lay_17 rfl (lv_at hl 2 rfl) ?_
    refine lv_iload_n (pc := 18) hx hb dX2_lay_18 rfl (lv_at hl 3 rfl) ?_
    refine lv_iload (pc := 19) hx hb dX2_lay_19 (lv_at hl 0 rfl) ?_
    refine k_ri (pc := 21) (va_runV (As := [.int (nI v), .int (nI i)]) (rest := [.int (nI (bg σ v i))]) ⟨hx, hb, hml, hown, hts⟩ (cX2_lasts_m l g A σ rest th f ti v i hv (by omega) hI) (cwV 2 hts gX2_lay_X2_lasts rfl rfl rfl (by decide +kernel) ⟨Nat.le_of_ble_eq_true rfl, Nat.le_of_ble_eq_true rfl⟩) (cx_V (q0 := 0) (ci := 2) (r := (RX2, TX2, 11)) rfl (ma0 g σ th f ti rest) hP hD hA hK hX hS) rfl rfl hl.1 rfl (lv_room (Nat.le_of_ble_eq_true rfl)) dX2_lay_21 ⟨Nat.le_of_ble_eq_true rfl, Nat.le_of_ble_eq_true rfl⟩) (fun r_2 hr_2 => ?_)
    subst hr_2
    refine lv_iadd (pc := 24) hx hb dX2_lay_24 ?_
    refine k_cong (y := nI (bg σ v i + (lg σ v i))) (nI_add (bg σ v i) (lg σ v i)) ?_
    refine k_cong (y := nI (bg σ v (i + 1))) rfl ?_
    refine lv_istore (lv' := [(5, .int (nI (bg σ v (i + 1)))), (4, .int (nI i)), (3, .int (nI (bg σ v i))), (0, .ref (gM g)), (1, .int (nI v)), (2, .ref (gB g 7))]) (pc := 25) hx hb dX2_lay_25 hl (by decide) rfl (fun ls hl => ?_)
    refine k_loopW2 (pc := 27) (nL := 6) (fun (a : Nat) (f2 : Nat → Int32) => (bg σ v i ≤ a ∧ a ≤ bg σ v (i + 1)) ∧ LayOf σ v a f2) (fun (a : Nat) (f2 : Nat → Int32) => bg σ v (i + 1) - a) (fun (a : Nat) (f2 : Nat → Int32) => [(3, .int (nI a)), (4, .int (nI i)), (5, .int (nI (bg σ v (i + 1)))), (0, .ref (gM g)), (1, .int (nI v)), (2, .ref (gB g 7))]) (fun (a : Nat) (f2 : Nat → Int32) => mw g σ th f2 ti ++ rest) (fun a f2 hJ ih_27 H_27 locs_27 ls hP hD hS hl => ?_) (bg σ v i) f ⟨⟨Nat.le_refl _, Nat.le_add_right _ _⟩, hlay⟩ hP hD hS (lv_sub hl [2, 1, 0, 3, 4, 5] rfl)
    obtain ⟨⟨ha0, ha⟩, hlay2⟩ := hJ
    have hP : va_P (gD g) vwCl (mw g σ th f2 ti ++ rest) H_27 := hP
    have hD : va_D A (mw g σ th f2 ti ++ rest) := hD
    have hl : lv_has ls 6 [(3, .int (nI a)), (4, .int (nI i)), (5, .int (nI (bg σ v (i + 1)))), (0, .ref (gM g)), (1, .int (nI v)), (2, .ref (gB g 7))] := hl
    refine lv_iload_n (pc := 27) hx hb dX2_lay_27 rfl (lv_at hl 0 rfl) ?_
    refine lv_iload (pc := 28) hx hb dX2_lay_28 (lv_at hl 2 rfl) ?_
    refine lv_icmp_ge (tgt := 54) (pc := 30) hx hb dX2_lay_30 (by decide) (fun c2 => ?_) (fun c2 => ?_)
    · have c2 : bg σ v (i + 1) ≤ a := (nI_leI (a := bg σ v (i + 1)) (b := a) (by omega) (by omega)).mp c2
      obtain rfl : a = bg σ v (i + 1) := by omega
      refine lv_iinc (v := nI (i + 1)) (lv' := [(4, .int (nI (i + 1))), (3, .int (nI (bg σ v (i + 1)))), (5, .int (nI (bg σ v (i + 1)))), (0, .ref (gM g)), (1, .int (nI v)), (2, .ref (gB g 7))]) (pc := 54) hx hb dX2_lay_54 hl (k := 1) rfl (nI_1 _) (by decide) rfl (fun ls hl => ?_)
      refine lv_goto (tgt := 5) (pc := 57) hx hb dX2_lay_57 (by decide) ?_
      exact ih_5 (i + 1) f2 ⟨by omega, hlay2⟩ (by omega) _ _ _ hP hD hS (lv_sub hl [0, 1, 3, 4, 5] rfl)
    · have c2 : ¬ (bg σ v (i + 1) ≤ a) := fun z => c2 ((nI_leI (a := bg σ v (i + 1)) (b := a) (by omega) (by omega)).mpr z)
      refine lv_aload_n (pc := 33) hx hb dX2_lay_33 rfl (lv_at hl 5 rfl) ?_
      refine lv_iload_n (pc := 34) hx hb dX2_lay_34 rfl (lv_at hl 0 rfl) ?_
      refine lv_aload_n (pc := 35) hx hb dX2_lay_35 rfl (lv_at hl 3 rfl) ?_
      refine va_get (v := .ref (gB g 4)) (pc := 36) (D := gD g) (ci := 2) (C := RX2) (T := TX2) (N := 11) hx hb hts hinX2 hown hK hP 0 (ma0 g σ th f2 ti rest) rfl 6 (by decide) (hts (.fieldLink RX2 22 "ChoirNotesModel" "place" "[I") (by decide +kernel)) (fun _ h9 => h9) rfl dX2_lay_36 ?_
      refine lv_bipush (v := 24) (pc := 39) hx hb dX2_lay_39 (by decide) ?_
      refine lv_iload_n (pc := 41) hx hb dX2_lay_41 rfl (lv_at hl 4 rfl) ?_
      refine lv_imul (pc := 42) hx hb dX2_lay_42 ?_
      refine k_cong (y := nI (24 * v)) (pk_mul 24 v) ?_
      refine lv_iload (pc := 43) hx hb dX2_lay_43 (lv_at hl 1 rfl) ?_
      refine lv_iadd (pc := 45) hx hb dX2_lay_45 ?_
      refine k_cong (y := nI (24 * v + i)) (nI_add (24 * v) i) ?_
      refine k_iald (pc := 46) (x := sP σ v i) hx hb hK hP 5 0 (ma5 g σ th f2 ti rest) rfl (24 * v + i) rfl (by omega) (by decide) (a24 (sP σ) (by omega)) dX2_lay_46 ?_
      refine k_iast (pc := 47) (ws' := mw g σ th (upd f2 a (sP σ v i)) ti ++ rest) hx hb hK hP hD hS 8 0 (ma8 g σ th f2 ti rest) rfl a rfl (by omega) (by decide) (ms_mi g σ th f2 ti rest (upd f2 a (sP σ v i))) dX2_lay_47 (fun H4 locs4 hP hD hS => ?_)
      refine lv_iinc (v := nI (a + 1)) (lv' := [(3, .int (nI (a + 1))), (4, .int (nI i)), (5, .int (nI (bg σ v (i + 1)))), (0, .ref (gM g)), (1, .int (nI v)), (2, .ref (gB g 7))]) (pc := 48) hx hb dX2_lay_48 hl (k := 0) rfl (nI_1 _) (by decide) rfl (fun ls hl => ?_)
      refine lv_goto (tgt := 27) (pc := 51) hx hb dX2_lay_51 (by decide) ?_
      exact ih_27 (a + 1) ((upd f2 a (sP σ v i))) ⟨⟨by omega, by omega⟩, lay_up hlay2 (plc_in (by omega) (by omega) (by omega)).symm⟩ (by omega) _ _ _ hP hD hS (lv_sub hl [0, 1, 2, 3, 4, 5] rfl)
set_option maxHeartbeats 4000000 in
set_option maxRecDepth 100000 in
/-- a voice, minim by minim -/
theorem cX2_layT_m (l : Launch) (g : GA) (A : Nat → Prop) (σ : St) (rest : va_W) (th : Int32) (mi ti : Nat → Int32) (v : Nat) (hv : v < 4) (hI : Inv σ) : Met l yX2_lay wsX2_lay ({ frames := 1, cells := 0, slots := 0, locals := 25 }) (va_Pc [.ref (gM g), .int (nI v), .ref (gB g 8)] (Cx g A (mw g σ th mi ti ++ rest))) (va_Qi (fun (r : Int32) (u : Nat → Int32) => r = nI (len σ v) ∧ LayOf σ v (len σ v) u) (fun u t => kB g A (mw g σ th mi u ++ rest) t) A) 0 0 A := by
  refine Met.ofW (cc := cX2_lay) (maxL := 6) (ret := (some .int)) (by decide) rfl ?_
  intro p e s m args below meth c s₁ B hml hv0
  obtain ⟨rfl, hP, hD, hA, hK, hX⟩ := hv0
  have hx := B.exec
  have hb := B.bytes
  have hr := B.returns
  have hts := atoms_spec (ws := wsX2_lay) B.pre
  have hown : s.vm.findClass RX2 = some m.cls := findClass_of_methodNamed B.named
  have hlocks := B.notSynchronized
  have hS : va_S A s.heap s.heap [] := va_S.rf
  have hinX2 : ∀ w ∈ u_ws RX2 TX2 11, w ∈ wsX2_lay := by decide +kernel
  have hl := lv_entry ([.ref (gM g), .int (nI v), .ref (gB g 8)]) (n := 6) (Nat.le_of_ble_eq_true rfl)
  rw [lg_entry_eq]
  generalize (lg_sl ([.ref (gM g), .int (nI v), .ref (gB g 8)]) ++ List.replicate (6 - (lg_sl ([.ref (gM g), .int (nI v), .ref (gB g 8)])).length) Slot.unset).toArray = ls at hl ⊢
  have hl : lv_has ls 6 [(0, .ref (gM g)), (1, .int (nI v)), (2, .ref (gB g 8))] := hl
  have hC := hI.C v
  refine lv_iconst (v := 0) (pc := 0) hx hb dX2_lay_0 (by decide) ?_
  refine lv_istore_n (lv' := [(3, .int 0), (0, .ref (gM g)), (1, .int (nI v)), (2, .ref (gB g 8))]) (pc := 1) hx hb dX2_lay_1 rfl hl (by decide) rfl (fun ls hl => ?_)
  refine lv_iconst (v := 0) (pc := 2) hx hb dX2_lay_2 (by decide) ?_
  refine lv_istore (lv' := [(4, .int 0), (3, .int 0), (0, .ref (gM g)), (1, .int (nI v)), (2, .ref (gB g 8))]) (pc := 3) hx hb dX2_lay_3 hl (by decide) rfl (fun ls hl => ?_)
  refine k_loopW2 (pc := 5) (nL := 6) (fun (i : Nat) (f : Nat → Int32) => i ≤ sC σ v ∧ LayOf σ v (bg σ v i) f) (fun (i : Nat) (f : Nat → Int32) => sC σ v - i) (fun (i : Nat) (f : Nat → Int32) => [(4, .int (nI i)), (3, .int (nI (bg σ v i))), (0, .ref (gM g)), (1, .int (nI v)), (2, .ref (gB g 8))]) (fun (i : Nat) (f : Nat → Int32) => mw g σ th mi f ++ rest) (fun i f hJ ih_5 H_5 locs_5 ls hP hD hS hl => ?_) 0 ti ⟨Nat.zero_le _, fun t ht => absurd ht (Nat.not_lt_zero t)⟩ hP hD hS (lv_sub hl [0, 1, 2, 3, 4] rfl)
  obtain ⟨hi, hlay⟩ := hJ
  have hP : va_P (gD g) vwCl (mw g σ th mi f ++ rest) H_5 := hP
  have hD : va_D A (mw g σ th mi f ++ rest) := hD
  have hl : lv_has ls 6 [(4, .int (nI i)), (3, .int (nI (bg σ v i))), (0, .ref (gM g)), (1, .int (nI v)), (2, .ref (gB g 8))] := hl
  refine lv_iload (pc := 5) hx hb dX2_lay_5 (lv_at hl 0 rfl) ?_
  refine lv_aload_n (pc := 7) hx hb dX2_lay_7 rfl (lv_at hl 2 rfl) ?_
  refine va_get (v := .ref (gB g 0)) (pc := 8) (D := gD g) (ci := 2) (C := RX2) (T := TX2) (N := 11) hx hb hts hinX2 hown hK hP 0 (ma0 g σ th mi f rest) rfl 2 (by decide) (hts (.fieldLink RX2 9 "ChoirNotesModel" "many" "[I") (by decide +kernel)) (fun _ h9 => h9) rfl dX2_lay_8 ?_
  refine lv_iload_n (pc := 11) hx hb dX2_lay_11 rfl (lv_at hl 3 rfl) ?_
  refine k_iald (pc := 12) (x := nI (sC σ v)) hx hb hK hP 1 0 (ma1 g σ th mi f rest) rfl v rfl (by omega) (by decide) rfl dX2_lay_12 ?_
  refine lv_icmp_ge (tgt := 60) (pc := 13) hx hb dX2_lay_13 (by decide) (fun c1 => ?_) (fun c1 => ?_)
  · have c1 : sC σ v ≤ i := (nI_leI (a := sC σ v) (b := i) (by omega) (by omega)).mp c1
    refine lv_iload_n (pc := 60) hx hb dX2_lay_60 rfl (lv_at hl 1 rfl) ?_
    exact W.iret hx hb hr (fun t ht hW => ⟨⟨_, f, rfl, ⟨by rw [show i = sC σ v by omega]; rfl, by rw [show i = sC σ v by omega] at hlay; exact hlay⟩, by rw [ht]; exact hP, hD⟩, hS.F ht⟩) hS.2.2 dX2_lay_61
  · have c1 : ¬ (sC σ v ≤ i) := fun z => c1 ((nI_leI (a := sC σ v) (b := i) (by omega) (by omega)).mpr z)
    have hbb := hI.bgC v (show i + 1 ≤ sC σ v by omega)
    refine lv_iload_n (pc := 16) hx hb dX2_lay_16 rfl (lv_at hl 1 rfl) ?_
    refine lv_aload_n (pc := 17) hx hb dX2_lay_17 rfl (lv_at hl 2 rfl) ?_
    refine lv_iload_n (pc := 18) hx hb dX2_lay_18 rfl (lv_at hl 3 rfl) ?_
    refine lv_iload (pc := 19) hx hb dX2_lay_19 (lv_at hl 0 rfl) ?_
    refine k_ri (pc := 21) (va_runV (As := [.int (nI v), .int (nI i)]) (rest := [.int (nI (bg σ v i))]) ⟨hx, hb, hml, hown, hts⟩ (cX2_lasts_m l g A σ rest th mi f v i hv (by omega) hI) (cwV 2 hts gX2_lay_X2_lasts rfl rfl rfl (by decide +kernel) ⟨Nat.le_of_ble_eq_true rfl, Nat.le_of_ble_eq_true rfl⟩) (cx_V (q0 := 0) (ci := 2) (r := (RX2, TX2, 11)) rfl (ma0 g σ th mi f rest) hP hD hA hK hX hS) rfl rfl hl.1 rfl (lv_room (Nat.le_of_ble_eq_true rfl)) dX2_lay_21 ⟨Nat.le_of_ble_eq_true rfl, Nat.le_of_ble_eq_true rfl⟩) (fun r_2 hr_2 => ?_)
    subst hr_2
    refine lv_iadd (pc := 24) hx hb dX2_lay_24 ?_
    refine k_cong (y := nI (bg σ v i + (lg σ v i))) (nI_add (bg σ v i) (lg σ v i)) ?_
    refine k_cong (y := nI (bg σ v (i + 1))) rfl ?_
    refine lv_istore (lv' := [(5, .int (nI (bg σ v (i + 1)))), (4, .int (nI i)), (3, .int (nI (bg σ v i))), (0, .ref (gM g)), (1, .int (nI v)), (2, .ref (gB g 8))]) (pc := 25) hx hb dX2_lay_25 hl (by decide) rfl (fun ls hl => ?_)
    refine k_loopW2 (pc := 27) (nL := 6) (fun (a : Nat) (f2 : Nat → Int32) => (bg σ v i ≤ a ∧ a ≤ bg σ v (i + 1)) ∧ LayOf σ v a f2) (fun (a : Nat) (f2 : Nat → Int32) => bg σ v (i + 1) - a) (fun (a : Nat) (f2 : Nat → Int32) => [(3, .int (nI a)), (4, .int (nI i)), (5, .int (nI (bg σ v (i + 1)))), (0, .ref (gM g)), (1, .int (nI v)), (2, .ref (gB g 8))]) (fun (a : Nat) (f2 : Nat → Int32) => mw g σ th mi f2 ++ rest) (fun a f2 hJ ih_27 H_27 locs_27 ls hP hD hS hl => ?_) (bg σ v i) f ⟨⟨Nat.le_refl _, Nat.le_add_right _ _⟩, hlay⟩ hP hD hS (lv_sub hl [2, 1, 0, 3, 4, 5] rfl)
    obtain ⟨⟨ha0, ha⟩, hlay2⟩ := hJ
    have hP : va_P (gD g) vwCl (mw g σ th mi f2 ++ rest) H_27 := hP
    have hD : va_D A (mw g σ th mi f2 ++ rest) := hD
    have hl : lv_has ls 6 [(3, .int (nI a)), (4, .int (nI i)), (5, .int (nI (bg σ v (i + 1)))), (0, .ref (gM g)), (1, .int (nI v)), (2, .ref (gB g 8))] := hl
    refine lv_iload_n (pc := 27) hx hb dX2_lay_27 rfl (lv_at hl 0 rfl) ?_
    refine lv_iload (pc := 28) hx hb dX2_lay_28 (lv_at hl 2 rfl) ?_
    refine lv_icmp_ge (tgt := 54) (pc := 30) hx hb dX2_lay_30 (by decide) (fun c2 => ?_) (fun c2 => ?_)
    · have c2 : bg σ v (i + 1) ≤ a := (nI_leI (a := bg σ v (i + 1)) (b := a) (by omega) (by omega)).mp c2
      obtain rfl : a = bg σ v (i + 1) := by omega
      refine lv_iinc (v := nI (i + 1)) (lv' := [(4, .int (nI (i + 1))), (3, .int (nI (bg σ v (i + 1)))), (5, .int (nI (bg σ v (i + 1)))), (0, .ref (gM g)), (1, .int (nI v)), (2, .ref (gB g 8))]) (pc := 54) hx hb dX2_lay_54 hl (k := 1) rfl (nI_1 _) (by decide) rfl (fun ls hl => ?_)
      refine lv_goto (tgt := 5) (pc := 57) hx hb dX2_lay_57 (by decide) ?_
      exact ih_5 (i + 1) f2 ⟨by omega, hlay2⟩ (by omega) _ _ _ hP hD hS (lv_sub hl [0, 1, 3, 4, 5] rfl)
    · have c2 : ¬ (bg σ v (i + 1) ≤ a) := fun z => c2 ((nI_leI (a := bg σ v (i + 1)) (b := a) (by omega) (by omega)).mpr z)
      refine lv_aload_n (pc := 33) hx hb dX2_lay_33 rfl (lv_at hl 5 rfl) ?_
      refine lv_iload_n (pc := 34) hx hb dX2_lay_34 rfl (lv_at hl 0 rfl) ?_
      refine lv_aload_n (pc := 35) hx hb dX2_lay_35 rfl (lv_at hl 3 rfl) ?_
      refine va_get (v := .ref (gB g 4)) (pc := 36) (D := gD g) (ci := 2) (C := RX2) (T := TX2) (N := 11) hx hb hts hinX2 hown hK hP 0 (ma0 g σ th mi f2 rest) rfl 6 (by decide) (hts (.fieldLink RX2 22 "ChoirNotesModel" "place" "[I") (by decide +kernel)) (fun _ h9 => h9) rfl dX2_lay_36 ?_
      refine lv_bipush (v := 24) (pc := 39) hx hb dX2_lay_39 (by decide) ?_
      refine lv_iload_n (pc := 41) hx hb dX2_lay_41 rfl (lv_at hl 4 rfl) ?_
      refine lv_imul (pc := 42) hx hb dX2_lay_42 ?_
      refine k_cong (y := nI (24 * v)) (pk_mul 24 v) ?_
      refine lv_iload (pc := 43) hx hb dX2_lay_43 (lv_at hl 1 rfl) ?_
      refine lv_iadd (pc := 45) hx hb dX2_lay_45 ?_
      refine k_cong (y := nI (24 * v + i)) (nI_add (24 * v) i) ?_
      refine k_iald (pc := 46) (x := sP σ v i) hx hb hK hP 5 0 (ma5 g σ th mi f2 rest) rfl (24 * v + i) rfl (by omega) (by decide) (a24 (sP σ) (by omega)) dX2_lay_46 ?_
      refine k_iast (pc := 47) (ws' := mw g σ th mi (upd f2 a (sP σ v i)) ++ rest) hx hb hK hP hD hS 9 0 (ma9 g σ th mi f2 rest) rfl a rfl (by omega) (by decide) (ms_ti g σ th mi f2 rest (upd f2 a (sP σ v i))) dX2_lay_47 (fun H4 locs4 hP hD hS => ?_)
      refine lv_iinc (v := nI (a + 1)) (lv' := [(3, .int (nI (a + 1))), (4, .int (nI i)), (5, .int (nI (bg σ v (i + 1)))), (0, .ref (gM g)), (1, .int (nI v)), (2, .ref (gB g 8))]) (pc := 48) hx hb dX2_lay_48 hl (k := 0) rfl (nI_1 _) (by decide) rfl (fun ls hl => ?_)
      refine lv_goto (tgt := 27) (pc := 51) hx hb dX2_lay_51 (by decide) ?_
      exact ih_27 (a + 1) ((upd f2 a (sP σ v i))) ⟨⟨by omega, by omega⟩, lay_up hlay2 (plc_in (by omega) (by omega) (by omega)).symm⟩ (by omega) _ _ _ hP hD hS (lv_sub hl [0, 1, 2, 3, 4, 5] rfl)
set_option maxHeartbeats 4000000 in
set_option maxRecDepth 100000 in
/-- two voices, minim by minim -/
theorem cX2_clash_m (l : Launch) (g : GA) (A : Nat → Prop) (σ : St) (rest : va_W) (th : Int32) (mi ti : Nat → Int32) (v : Nat) (c1 : Int32) (w : Nat) (c2 : Int32) (z0 : Bool) (hv : v < 4) (hw : w < 4) (hI : Inv σ) : Met l yX2_clash wsX2_clash ({ frames := 2, cells := 0, slots := 0, locals := 50 }) (va_Pc [.ref (gM g), .int (nI v), .int c1, .int (nI w), .int c2, .int (bI z0)] (Cx g A (mw g σ th mi ti ++ rest))) (va_Qi (fun (r : Int32) (u : (Nat → Int32) × (Nat → Int32)) => r = (if z0 then fst (clT σ v w 0 (2 * (c2 - c1))) (len σ v) else nI (clN σ v w 0 (2 * (c2 - c1))))) (fun u t => kB g A (mw g σ th u.1 u.2 ++ rest) t) A) 0 0 A := by
  refine Met.ofW (cc := cX2_clash) (maxL := 9) (ret := (some .int)) (by decide) rfl ?_
  intro p e s m args below meth c s₁ B hml hv0
  obtain ⟨rfl, hP, hD, hA, hK, hX⟩ := hv0
  have hx := B.exec
  have hb := B.bytes
  have hr := B.returns
  have hts := atoms_spec (ws := wsX2_clash) B.pre
  have hown : s.vm.findClass RX2 = some m.cls := findClass_of_methodNamed B.named
  have hlocks := B.notSynchronized
  have hS : va_S A s.heap s.heap [] := va_S.rf
  have hinX2 : ∀ w ∈ u_ws RX2 TX2 11, w ∈ wsX2_clash := by decide +kernel
  have hl := lv_entry ([.ref (gM g), .int (nI v), .int c1, .int (nI w), .int c2, .int (bI z0)]) (n := 9) (Nat.le_of_ble_eq_true rfl)
  rw [lg_entry_eq]
  generalize (lg_sl ([.ref (gM g), .int (nI v), .int c1, .int (nI w), .int c2, .int (bI z0)]) ++ List.replicate (9 - (lg_sl ([.ref (gM g), .int (nI v), .int c1, .int (nI w), .int c2, .int (bI z0)])).length) Slot.unset).toArray = ls at hl ⊢
  have hl : lv_has ls 9 [(0, .ref (gM g)), (1, .int (nI v)), (2, .int c1), (3, .int (nI w)), (4, .int c2), (5, .int (bI z0))] := hl
  have hL1 : len σ v ≤ 648 := hI.bgC v (Nat.le_refl _)
  have hL2 : len σ w ≤ 648 := hI.bgC w (Nat.le_refl _)
  refine lv_aload_n (pc := 0) hx hb dX2_clash_0 rfl (lv_at hl 0 rfl) ?_
  refine lv_iload_n (pc := 1) hx hb dX2_clash_1 rfl (lv_at hl 1 rfl) ?_
  refine lv_aload_n (pc := 2) hx hb dX2_clash_2 rfl (lv_at hl 0 rfl) ?_
  refine va_get (v := .ref (gB g 7)) (pc := 3) (D := gD g) (ci := 2) (C := RX2) (T := TX2) (N := 11) hx hb hts hinX2 hown hK hP 0 (ma0 g σ th mi ti rest) rfl 9 (by decide) (hts (.fieldLink RX2 32 "ChoirNotesModel" "mine" "[I") (by decide +kernel)) (fun _ h9 => h9) rfl dX2_clash_3 ?_
  refine va_calli (pc := 6) (va_runV (As := [.int (nI v), .ref (gB g 7)]) (rest := []) ⟨hx, hb, hml, hown, hts⟩ (cX2_layM_m l g A σ rest th mi ti v hv hI) (cwV 2 hts gX2_clash_X2_lay rfl rfl rfl (by decide +kernel) ⟨Nat.le_of_ble_eq_true rfl, Nat.le_of_ble_eq_true rfl⟩) (cx_V (q0 := 0) (ci := 2) (r := (RX2, TX2, 11)) rfl (ma0 g σ th mi ti rest) hP hD hA hK hX hS) rfl rfl hl.1 rfl (lv_room (Nat.le_of_ble_eq_true rfl)) dX2_clash_6 ⟨Nat.le_of_ble_eq_true rfl, Nat.le_of_ble_eq_true rfl⟩) hS (fun _ _ h => h) (fun _ h => h) (fun r_1 u2 t2 H2 locs2 ht2 hvm2 hw2 hB2 hz2 hk2 hS => ?_)
  obtain ⟨hP, hD⟩ := hB2
  rw [ht2] at hP
  obtain ⟨rfl, hw2⟩ := hw2
  have hm1 := hw2
  refine lv_aload_n (pc := 9) hx hb dX2_clash_9 rfl (lv_at hl 0 rfl) ?_
  refine lv_iload_n (pc := 10) hx hb dX2_clash_10 rfl (lv_at hl 3 rfl) ?_
  refine lv_aload_n (pc := 11) hx hb dX2_clash_11 rfl (lv_at hl 0 rfl) ?_
  refine va_get (v := .ref (gB g 8)) (pc := 12) (D := gD g) (ci := 2) (C := RX2) (T := TX2) (N := 11) hx hb hts hinX2 hown hK hP 0 (ma0 g σ th u2 ti rest) rfl 10 (by decide) (hts (.fieldLink RX2 35 "ChoirNotesModel" "theirs" "[I") (by decide +kernel)) (fun _ h9 => h9) rfl dX2_clash_12 ?_
  refine va_calli (pc := 15) (va_runV (As := [.int (nI w), .ref (gB g 8)]) (rest := [.int (nI (len σ v))]) ⟨hx, hb, hml, hown, hts⟩ (cX2_layT_m l g A σ rest th u2 ti w hw hI) (cwV 2 hts gX2_clash_X2_lay rfl rfl rfl (by decide +kernel) ⟨Nat.le_of_ble_eq_true rfl, Nat.le_of_ble_eq_true rfl⟩) (cx_V (q0 := 0) (ci := 2) (r := (RX2, TX2, 11)) rfl (ma0 g σ th u2 ti rest) hP hD hA hK hX hS) rfl rfl hl.1 rfl (lv_room (Nat.le_of_ble_eq_true rfl)) dX2_clash_15 ⟨Nat.le_of_ble_eq_true rfl, Nat.le_of_ble_eq_true rfl⟩) hS (fun _ _ h => h) (fun _ h => h) (fun r_3 u4 t4 H4 locs4 ht4 hvm4 hw4 hB4 hz4 hk4 hS => ?_)
  obtain ⟨hP, hD⟩ := hB4
  rw [ht4] at hP
  obtain ⟨rfl, hw4⟩ := hw4
  have hm2 := hw4
  refine va_mmin (pc := 18) hx hb (hml.trans hl.1.symm) hown (hts (.methodLink RX2 67 Lib.Math.min.name) (by decide +kernel)) (hts (.static Lib.Math.min.name) (by decide +kernel)) (hts (.initialized "java/lang/Math") (by decide +kernel)) (hts (.code Lib.Math.min.name Lib.Math.min.code 2 (some .int)) (by decide +kernel)) (Nat.le_of_ble_eq_true rfl) (Nat.le_of_ble_eq_true rfl) (Nat.le_of_ble_eq_true rfl) (Nat.le_of_ble_eq_true rfl) dX2_clash_18 ?_
  refine k_cong (y := nI (min (len σ v) (len σ w))) (mnI (by omega) (by omega)) ?_
  refine lv_istore (lv' := [(6, .int (nI (min (len σ v) (len σ w)))), (0, .ref (gM g)), (1, .int (nI v)), (2, .int c1), (3, .int (nI w)), (4, .int c2), (5, .int (bI z0))]) (pc := 21) hx hb dX2_clash_21 hl (by decide) rfl (fun ls hl => ?_)
  refine lv_iconst (v := 0) (pc := 23) hx hb dX2_clash_23 (by decide) ?_
  refine lv_istore (lv' := [(7, .int 0), (6, .int (nI (min (len σ v) (len σ w)))), (0, .ref (gM g)), (1, .int (nI v)), (2, .int c1), (3, .int (nI w)), (4, .int c2), (5, .int (bI z0))]) (pc := 24) hx hb dX2_clash_24 hl (by decide) rfl (fun ls hl => ?_)
  refine lv_iconst (v := 0) (pc := 26) hx hb dX2_clash_26 (by decide) ?_
  refine lv_istore (lv' := [(8, .int 0), (7, .int 0), (6, .int (nI (min (len σ v) (len σ w)))), (0, .ref (gM g)), (1, .int (nI v)), (2, .int c1), (3, .int (nI w)), (4, .int c2), (5, .int (bI z0))]) (pc := 27) hx hb dX2_clash_27 hl (by decide) rfl (fun ls hl => ?_)
  refine k_loop2 (pc := 29) (nL := 9) (fun (tm : Nat) (x : Int32) => tm ≤ min (len σ v) (len σ w) ∧ x = nI (cnt (clT σ v w 0 (2 * (c2 - c1))) tm) ∧ (z0 = true → cnt (clT σ v w 0 (2 * (c2 - c1))) tm = 0)) (fun (tm : Nat) (x : Int32) => min (len σ v) (len σ w) - tm) (fun (tm : Nat) (x : Int32) => [(8, .int (nI tm)), (7, .int x), (6, .int (nI (min (len σ v) (len σ w)))), (0, .ref (gM g)), (5, .int (bI z0)), (2, .int c1), (4, .int c2)]) (fun tm x hJ ih_29 ls hl => ?_) 0 0 ⟨Nat.zero_le _, rfl, fun _ => rfl⟩ (lv_sub hl [0, 1, 2, 3, 8, 5, 7] rfl)
  obtain ⟨ht0, hf, hz0⟩ := hJ
  have hl : lv_has ls 9 [(8, .int (nI tm)), (7, .int x), (6, .int (nI (min (len σ v) (len σ w)))), (0, .ref (gM g)), (5, .int (bI z0)), (2, .int c1), (4, .int c2)] := hl
  refine lv_iload (pc := 29) hx hb dX2_clash_29 (lv_at hl 0 rfl) ?_
  refine lv_iload (pc := 31) hx hb dX2_clash_31 (lv_at hl 2 rfl) ?_
  refine lv_icmp_ge (tgt := 108) (pc := 33) hx hb dX2_clash_33 (by decide) (fun k1 => ?_) (fun k1 => ?_)
  · have k1 : min (len σ v) (len σ w) ≤ tm := (nI_leI (a := min (len σ v) (len σ w)) (b := tm) (by omega) (by omega)).mp k1
    refine lv_iload (pc := 108) hx hb dX2_clash_108 (lv_at hl 4 rfl) ?_
    refine lv_if_eq (tgt := 117) (pc := 110) hx hb dX2_clash_110 (by decide) (fun k6 => ?_) (fun k6 => ?_)
    · have k6 := bI_0.mp k6
      refine lv_iload (pc := 117) hx hb dX2_clash_117 (lv_at hl 1 rfl) ?_
      exact W.iret hx hb hr (fun t ht hW => ⟨⟨_, (u2, u4), rfl, (by first | (rw [k6, if_pos rfl]; exact (cm_fst (by rw [← (show tm = min (len σ v) (len σ w) by omega)]; exact hz0 k6)).symm) | (rw [k6, hf, show tm = min (len σ v) (len σ w) by omega, cm_end]; rfl)), by rw [ht]; exact hP, hD⟩, hS.F ht⟩) hS.2.2 dX2_clash_119
    · have k6 := bI_n0.mp k6
      refine lv_iconst (v := (-1)) (pc := 113) hx hb dX2_clash_113 (by decide) ?_
      refine lv_goto (tgt := 119) (pc := 114) hx hb dX2_clash_114 (by decide) ?_
      exact W.iret hx hb hr (fun t ht hW => ⟨⟨_, (u2, u4), rfl, (by first | (rw [k6, if_pos rfl]; exact (cm_fst (by rw [← (show tm = min (len σ v) (len σ w) by omega)]; exact hz0 k6)).symm) | (rw [k6, hf, show tm = min (len σ v) (len σ w) by omega, cm_end]; rfl)), by rw [ht]; exact hP, hD⟩, hS.F ht⟩) hS.2.2 dX2_clash_119
  · have k1 : ¬ (min (len σ v) (len σ w) ≤ tm) := fun z => k1 ((nI_leI (a := min (len σ v) (len σ w)) (b := tm) (by omega) (by omega)).mpr z)
    refine lv_aload_n (pc := 36) hx hb dX2_clash_36 rfl (lv_at hl 3 rfl) ?_
    refine va_get (v := .ref (gB g 7)) (pc := 37) (D := gD g) (ci := 2) (C := RX2) (T := TX2) (N := 11) hx hb hts hinX2 hown hK hP 0 (ma0 g σ th u2 u4 rest) rfl 9 (by decide) (hts (.fieldLink RX2 32 "ChoirNotesModel" "mine" "[I") (by decide +kernel)) (fun _ h9 => h9) rfl dX2_clash_37 ?_
    refine lv_iload (pc := 40) hx hb dX2_clash_40 (lv_at hl 0 rfl) ?_
    refine k_iald (pc := 42) (x := u2 tm) hx hb hK hP 8 0 (ma8 g σ th u2 u4 rest) rfl tm rfl (by omega) (by decide) rfl dX2_clash_42 ?_
    refine lv_iconst (v := (-1)) (pc := 43) hx hb dX2_clash_43 (by decide) ?_
    refine lv_icmp_eq (tgt := 102) (pc := 44) hx hb dX2_clash_44 (by decide) (fun k2 => ?_) (fun k2 => ?_)
    · refine lv_iinc (v := nI (tm + 1)) (lv' := [(8, .int (nI (tm + 1))), (7, .int x), (6, .int (nI (min (len σ v) (len σ w)))), (0, .ref (gM g)), (5, .int (bI z0)), (2, .int c1), (4, .int c2)]) (pc := 102) hx hb dX2_clash_102 hl (k := 0) rfl (nI_1 _) (by decide) rfl (fun ls hl => ?_)
      refine lv_goto (tgt := 29) (pc := 105) hx hb dX2_clash_105 (by decide) ?_
      exact ih_29 (tm + 1) x ⟨by omega, by first | exact cntI_f hf (cm_a k2 (hm1 _ (by omega))) | exact cntI_f hf (cm_b k3 (hm2 _ (by omega))) | exact cntI_f hf (cm_n k2 k3 (hm1 _ (by omega)) (hm2 _ (by omega)) k4) | exact cntI_t hf (cm_t k2 k3 (hm1 _ (by omega)) (hm2 _ (by omega)) k4), by first | exact fun q => cnt_f0 (cm_a k2 (hm1 _ (by omega))) (hz0 q) | exact fun q => cnt_f0 (cm_b k3 (hm2 _ (by omega))) (hz0 q) | exact fun q => cnt_f0 (cm_n k2 k3 (hm1 _ (by omega)) (hm2 _ (by omega)) k4) (hz0 q) | exact fun q => absurd (k5.symm.trans q) (by decide)⟩ (by omega) _ (lv_sub hl [0, 1, 2, 3, 4, 5, 6] rfl)
    · refine lv_aload_n (pc := 47) hx hb dX2_clash_47 rfl (lv_at hl 3 rfl) ?_
      refine va_get (v := .ref (gB g 8)) (pc := 48) (D := gD g) (ci := 2) (C := RX2) (T := TX2) (N := 11) hx hb hts hinX2 hown hK hP 0 (ma0 g σ th u2 u4 rest) rfl 10 (by decide) (hts (.fieldLink RX2 35 "ChoirNotesModel" "theirs" "[I") (by decide +kernel)) (fun _ h9 => h9) rfl dX2_clash_48 ?_
      refine lv_iload (pc := 51) hx hb dX2_clash_51 (lv_at hl 0 rfl) ?_
      refine k_iald (pc := 53) (x := u4 tm) hx hb hK hP 9 0 (ma9 g σ th u2 u4 rest) rfl tm rfl (by omega) (by decide) rfl dX2_clash_53 ?_
      refine lv_iconst (v := (-1)) (pc := 54) hx hb dX2_clash_54 (by decide) ?_
      refine lv_icmp_eq (tgt := 102) (pc := 55) hx hb dX2_clash_55 (by decide) (fun k3 => ?_) (fun k3 => ?_)
      · refine lv_iinc (v := nI (tm + 1)) (lv' := [(8, .int (nI (tm + 1))), (7, .int x), (6, .int (nI (min (len σ v) (len σ w)))), (0, .ref (gM g)), (5, .int (bI z0)), (2, .int c1), (4, .int c2)]) (pc := 102) hx hb dX2_clash_102 hl (k := 0) rfl (nI_1 _) (by decide) rfl (fun ls hl => ?_)
        refine lv_goto (tgt := 29) (pc := 105) hx hb dX2_clash_105 (by decide) ?_
        exact ih_29 (tm + 1) x ⟨by omega, by first | exact cntI_f hf (cm_a k2 (hm1 _ (by omega))) | exact cntI_f hf (cm_b k3 (hm2 _ (by omega))) | exact cntI_f hf (cm_n k2 k3 (hm1 _ (by omega)) (hm2 _ (by omega)) k4) | exact cntI_t hf (cm_t k2 k3 (hm1 _ (by omega)) (hm2 _ (by omega)) k4), by first | exact fun q => cnt_f0 (cm_a k2 (hm1 _ (by omega))) (hz0 q) | exact fun q => cnt_f0 (cm_b k3 (hm2 _ (by omega))) (hz0 q) | exact fun q => cnt_f0 (cm_n k2 k3 (hm1 _ (by omega)) (hm2 _ (by omega)) k4) (hz0 q) | exact fun q => absurd (k5.symm.trans q) (by decide)⟩ (by omega) _ (lv_sub hl [0, 1, 2, 3, 4, 5, 6] rfl)
      · refine lv_aload_n (pc := 58) hx hb dX2_clash_58 rfl (lv_at hl 3 rfl) ?_
        refine va_get (v := .ref (gB g 7)) (pc := 59) (D := gD g) (ci := 2) (C := RX2) (T := TX2) (N := 11) hx hb hts hinX2 hown hK hP 0 (ma0 g σ th u2 u4 rest) rfl 9 (by decide) (hts (.fieldLink RX2 32 "ChoirNotesModel" "mine" "[I") (by decide +kernel)) (fun _ h9 => h9) rfl dX2_clash_59 ?_
        refine lv_iload (pc := 62) hx hb dX2_clash_62 (lv_at hl 0 rfl) ?_
        refine k_iald (pc := 64) (x := u2 tm) hx hb hK hP 8 0 (ma8 g σ th u2 u4 rest) rfl tm rfl (by omega) (by decide) rfl dX2_clash_64 ?_
        refine lv_iconst (v := 2) (pc := 65) hx hb dX2_clash_65 (by decide) ?_
        refine lv_iload_n (pc := 66) hx hb dX2_clash_66 rfl (lv_at hl 5 rfl) ?_
        refine lv_imul (pc := 67) hx hb dX2_clash_67 ?_
        refine lv_iadd (pc := 68) hx hb dX2_clash_68 ?_
        refine lv_aload_n (pc := 69) hx hb dX2_clash_69 rfl (lv_at hl 3 rfl) ?_
        refine va_get (v := .ref (gB g 8)) (pc := 70) (D := gD g) (ci := 2) (C := RX2) (T := TX2) (N := 11) hx hb hts hinX2 hown hK hP 0 (ma0 g σ th u2 u4 rest) rfl 10 (by decide) (hts (.fieldLink RX2 35 "ChoirNotesModel" "theirs" "[I") (by decide +kernel)) (fun _ h9 => h9) rfl dX2_clash_70 ?_
        refine lv_iload (pc := 73) hx hb dX2_clash_73 (lv_at hl 0 rfl) ?_
        refine k_iald (pc := 75) (x := u4 tm) hx hb hK hP 9 0 (ma9 g σ th u2 u4 rest) rfl tm rfl (by omega) (by decide) rfl dX2_clash_75 ?_
        refine lv_isub (pc := 76) hx hb dX2_clash_76 ?_
        refine lv_iconst (v := 2) (pc := 77) hx hb dX2_clash_77 (by decide) ?_
        refine lv_iload (pc := 78) hx hb dX2_clash_78 (lv_at hl 6 rfl) ?_
        refine lv_imul (pc := 80) hx hb dX2_clash_80 ?_
        refine lv_isub (pc := 81) hx hb dX2_clash_81 ?_
        refine k_ri (pc := 82) (va_runS (As := [.int ((((u2 tm) + (2 * c1)) - (u4 tm)) - (2 * c2))]) (rest := []) ⟨hx, hb, hml, hown, hts⟩ (cX2_isClash_m l g A σ rest th u2 u4 ((((u2 tm) + (2 * c1)) - (u4 tm)) - (2 * c2))) (va_cwS 1 hts gX2_clash_X2_isClash rfl rfl rfl (by decide +kernel) ⟨Nat.le_of_ble_eq_true rfl, Nat.le_of_ble_eq_true rfl⟩) (cx_S hP hD hA hK hX hS) rfl rfl hl.1 rfl (lv_room (Nat.le_of_ble_eq_true rfl)) dX2_clash_82 ⟨Nat.le_of_ble_eq_true rfl, Nat.le_of_ble_eq_true rfl⟩) (fun r_9 hr_9 => ?_)
        subst hr_9
        refine lv_if_ne (tgt := 91) (pc := 85) hx hb dX2_clash_85 (by decide) (fun k4 => ?_) (fun k4 => ?_)
        · have k4 := bI_n0.mp k4
          refine lv_iload (pc := 91) hx hb dX2_clash_91 (lv_at hl 4 rfl) ?_
          refine lv_if_eq (tgt := 99) (pc := 93) hx hb dX2_clash_93 (by decide) (fun k5 => ?_) (fun k5 => ?_)
          · have k5 := bI_0.mp k5
            refine lv_iinc (v := x + 1) (lv' := [(7, .int (x + 1)), (8, .int (nI tm)), (6, .int (nI (min (len σ v) (len σ w)))), (0, .ref (gM g)), (5, .int (bI z0)), (2, .int c1), (4, .int c2)]) (pc := 99) hx hb dX2_clash_99 hl (k := 1) rfl rfl (by decide) rfl (fun ls hl => ?_)
            refine lv_iinc (v := nI (tm + 1)) (lv' := [(8, .int (nI (tm + 1))), (7, .int (x + 1)), (6, .int (nI (min (len σ v) (len σ w)))), (0, .ref (gM g)), (5, .int (bI z0)), (2, .int c1), (4, .int c2)]) (pc := 102) hx hb dX2_clash_102 hl (k := 1) rfl (nI_1 _) (by decide) rfl (fun ls hl => ?_)
            refine lv_goto (tgt := 29) (pc := 105) hx hb dX2_clash_105 (by decide) ?_
            exact ih_29 (tm + 1) (x + 1) ⟨by omega, by first | exact cntI_f hf (cm_a k2 (hm1 _ (by omega))) | exact cntI_f hf (cm_b k3 (hm2 _ (by omega))) | exact cntI_f hf (cm_n k2 k3 (hm1 _ (by omega)) (hm2 _ (by omega)) k4) | exact cntI_t hf (cm_t k2 k3 (hm1 _ (by omega)) (hm2 _ (by omega)) k4), by first | exact fun q => cnt_f0 (cm_a k2 (hm1 _ (by omega))) (hz0 q) | exact fun q => cnt_f0 (cm_b k3 (hm2 _ (by omega))) (hz0 q) | exact fun q => cnt_f0 (cm_n k2 k3 (hm1 _ (by omega)) (hm2 _ (by omega)) k4) (hz0 q) | exact fun q => absurd (k5.symm.trans q) (by decide)⟩ (by omega) _ (lv_sub hl [0, 1, 2, 3, 4, 5, 6] rfl)
          · have k5 := bI_n0.mp k5
            refine lv_iload (pc := 96) hx hb dX2_clash_96 (lv_at hl 0 rfl) ?_
            exact W.iret hx hb hr (fun t ht hW => ⟨⟨_, (u2, u4), rfl, (by rw [k5, if_pos rfl]; exact (fst_t (by omega) (cnt_0 (hz0 k5)) (cm_t k2 k3 (hm1 _ (by omega)) (hm2 _ (by omega)) k4) (by omega)).symm), by rw [ht]; exact hP, hD⟩, hS.F ht⟩) hS.2.2 dX2_clash_98
        · have k4 := bI_0.mp k4
          refine lv_goto (tgt := 102) (pc := 88) hx hb dX2_clash_88 (by decide) ?_
          refine lv_iinc (v := nI (tm + 1)) (lv' := [(8, .int (nI (tm + 1))), (7, .int x), (6, .int (nI (min (len σ v) (len σ w)))), (0, .ref (gM g)), (5, .int (bI z0)), (2, .int c1), (4, .int c2)]) (pc := 102) hx hb dX2_clash_102 hl (k := 0) rfl (nI_1 _) (by decide) rfl (fun ls hl => ?_)
          refine lv_goto (tgt := 29) (pc := 105) hx hb dX2_clash_105 (by decide) ?_
          exact ih_29 (tm + 1) x ⟨by omega, by first | exact cntI_f hf (cm_a k2 (hm1 _ (by omega))) | exact cntI_f hf (cm_b k3 (hm2 _ (by omega))) | exact cntI_f hf (cm_n k2 k3 (hm1 _ (by omega)) (hm2 _ (by omega)) k4) | exact cntI_t hf (cm_t k2 k3 (hm1 _ (by omega)) (hm2 _ (by omega)) k4), by first | exact fun q => cnt_f0 (cm_a k2 (hm1 _ (by omega))) (hz0 q) | exact fun q => cnt_f0 (cm_b k3 (hm2 _ (by omega))) (hz0 q) | exact fun q => cnt_f0 (cm_n k2 k3 (hm1 _ (by omega)) (hm2 _ (by omega)) k4) (hz0 q) | exact fun q => absurd (k5.symm.trans q) (by decide)⟩ (by omega) _ (lv_sub hl [0, 1, 2, 3, 4, 5, 6] rfl)
