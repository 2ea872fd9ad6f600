/-! THE REFERENCE'S CHECKSUM -/
section KC
variable {p : Program} {l : Launch} {e : Env} {R : Room} {s : State} {m : MethodId} {args : Array Value} {below : List Frame} {meth : Method} {c : Code} {H : Heap} {locs : List Loc} {cells slots : Nat} {Q : State → Prop}
variable {pc : Nat} {st0 : List Value}
/-- a loop that writes and makes cells: the world, the cells and the slots are functions of its values -/
theorem k_loopC {nL : Nat} {T1 : Type} {D : va_G} {cl : List vw_C} {A : Nat → Prop} (I : T1 → Prop) (μ : T1 → Nat) (L : T1 → List (Nat × Value)) (WS : T1 → va_W) (CE SL : T1 → Nat) (step : ∀ (a1 : T1), I a1 → (∀ (b1 : T1), I b1 → μ b1 < μ a1 → ∀ (H : Heap) (locs : List Loc) (ls : Array Slot), va_P D cl (WS b1) H → va_D A (WS b1) → va_S A s.heap H locs → lv_has ls nL (L b1) → W p l e R s m args below meth c H locs (CE b1) (SL b1) Q (F0 m pc ls st0)) → ∀ (H : Heap) (locs : List Loc) (ls : Array Slot), va_P D cl (WS a1) H → va_D A (WS a1) → va_S A s.heap H locs → lv_has ls nL (L a1) → W p l e R s m args below meth c H locs (CE a1) (SL a1) Q (F0 m pc ls st0)) (a1 : T1) (h0 : I a1) {ls : Array Slot} (hP : va_P D cl (WS a1) H) (hD : va_D A (WS a1)) (hS : va_S A s.heap H locs) (hl : lv_has ls nL (L a1)) : W p l e R s m args below meth c H locs (CE a1) (SL a1) Q (F0 m pc ls st0) := by
  have key : ∀ (n : Nat) (a1 : T1), μ a1 < n → I a1 → ∀ (H : Heap) (locs : List Loc) (ls : Array Slot), va_P D cl (WS a1) H → va_D A (WS a1) → va_S A s.heap H locs → lv_has ls nL (L a1) → W p l e R s m args below meth c H locs (CE a1) (SL a1) Q (F0 m pc ls st0) := by
    intro n
    induction n with
    | zero => intro a1 hm; omega
    | succ n ih =>
      intro a1 hm hI H locs ls hP hD hS hl
      exact step a1 hI (fun b1 hb hlt H locs ls hP hD hS hl => ih b1 (by omega) hb H locs ls hP hD hS hl) H locs ls hP hD hS hl
  exact key (μ a1 + 1) a1 (Nat.lt_succ_self _) h0 H locs ls hP hD hS hl
end KC
theorem dg_at (M rest : va_W) (x : Nat × va_E) (n : Nat) (hn : M.length = n) : (M ++ (rest ++ [x]))[n + rest.length]? = some x := by
  subst hn
  rw [List.getElem?_append_right (Nat.le_add_right _ _), Nat.add_sub_cancel_left]
  exact List.getElem?_concat_length
theorem dg_set (M rest : va_W) (x y : Nat × va_E) (n : Nat) (hn : M.length = n) : (M ++ (rest ++ [x])).set (n + rest.length) y = M ++ (rest ++ [y]) := by
  subst hn
  rw [List.set_append_right _ _ (Nat.le_add_right _ _), Nat.add_sub_cancel_left, List.set_append_right _ _ (Nat.le_refl _), Nat.sub_self]
  rfl
theorem kP_dropr {D : va_G} {cl : List vw_C} {M rest x : va_W} {H : Heap} (h : va_P D cl (M ++ (rest ++ x)) H) : va_P D cl (M ++ rest) H := by
  rw [← List.append_assoc] at h
  exact fun k q hk => h k q (by rw [List.getElem?_append_left (List.getElem?_eq_some_iff.mp hk).1]; exact hk)
theorem kD_dropr {A : Nat → Prop} {M rest x : va_W} (h : va_D A (M ++ (rest ++ x))) : va_D A (M ++ rest) := by
  rw [← List.append_assoc] at h
  have f : ∀ (k : Nat) (q : Nat × va_E), (M ++ rest)[k]? = some q → ((M ++ rest) ++ x)[k]? = some q := fun k q hk => by rw [List.getElem?_append_left (List.getElem?_eq_some_iff.mp hk).1]; exact hk
  exact ⟨fun i j p q hi hj he => h.1 i j p q (f i p hi) (f j q hj) he, fun k q hk => h.2 k q (f k q hk)⟩
set_option maxHeartbeats 4000000 in
set_option maxRecDepth 100000 in
/-- the checksum -/
theorem cX2_digest_m (l : Launch) (g : GA) (A : Nat → Prop) (σ : St) (rest : va_W) (th : Int32) (mi ti : Nat → Int32) (hI : Inv σ) : Met l yX2_digest wsX2_digest ({ frames := 5, cells := 100, slots := 516, locals := 127 }) (va_Pc [.ref (gM g)] (Cx g A (mw g σ th mi ti ++ rest))) (va_Ql (fun (r : Int64) (u : (Nat → Int32) × (Nat → Int32)) => r = dig σ) (fun u t => kB g A (mw g σ 0 u.1 u.2 ++ rest) t) A) 100 516 A := by
  refine Met.ofW (cc := cX2_digest) (maxL := 12) (ret := (some .long)) (by decide) rfl ?_
  intro p e s m args below meth c s₁ B hml hv0
  obtain ⟨rfl, hP, hD, hA, hK, hX⟩ := hv0
  have hx := B.exec
  have hb := B.bytes
  have hr := B.returns
  have hts := atoms_spec (ws := wsX2_digest) B.pre
  have hown : s.vm.findClass RX2 = some m.cls := findClass_of_methodNamed B.named
  have hlocks := B.notSynchronized
  have hS : va_S A s.heap s.heap [] := va_S.rf
  have hinX2 : ∀ w ∈ u_ws RX2 TX2 11, w ∈ wsX2_digest := by decide +kernel
  have hl := lv_entry ([.ref (gM g)]) (n := 12) (Nat.le_of_ble_eq_true rfl)
  rw [lg_entry_eq]
  generalize (lg_sl ([.ref (gM g)]) ++ List.replicate (12 - (lg_sl ([.ref (gM g)])).length) Slot.unset).toArray = ls at hl ⊢
  have hl : lv_has ls 12 [(0, .ref (gM g))] := hl
  have hN := hI.N
  refine lv_aload_n (pc := 0) hx hb dX2_digest_0 rfl (lv_at hl 0 rfl) ?_
  refine lv_iconst (v := 0) (pc := 1) hx hb dX2_digest_1 (by decide) ?_
  refine va_put (pc := 2) (D := gD g) (ci := 2) (v := .int 0) (ty := .int) (C := RX2) (T := TX2) (N := 11) hx hb hts hinX2 tyX2 tyX2_ok nmX2 hown hK hP hD hS 0 (ma0 g σ th mi ti rest) rfl 0 (by decide) (hts (.fieldLink RX2 38 "ChoirNotesModel" "thrown" "I") (by decide +kernel)) (fun _ h9 => h9) rfl (by decide +kernel) rfl rfl (Nat.le_of_ble_eq_true rfl) dX2_digest_2 (fun H1 locs1 hP hD hS => ?_)
  have hP : va_P (gD g) vwCl (mw g σ 0 mi ti ++ rest) H1 := hP
  have hD : va_D A (mw g σ 0 mi ti ++ rest) := hD
  refine lv_ldc2 (pc := 5) (v := 2311) hx hb hown (hts (.constantLong RX2 142 2311) (by decide +kernel)) dX2_digest_5 ?_
  refine lv_lstore_n (lv' := [(1, .long 2311), (0, .ref (gM g))]) (pc := 8) hx hb dX2_digest_8 rfl hl (by decide) rfl (fun ls hl => ?_)
  refine lv_lload_n (pc := 9) hx hb dX2_digest_9 rfl (lv_at hl 0 rfl) ?_
  refine lv_ldc2 (pc := 10) (v := 31) hx hb hown (hts (.constantLong RX2 144 31) (by decide +kernel)) dX2_digest_10 ?_
  refine lv_lmul (pc := 13) hx hb dX2_digest_13 ?_
  refine lv_aload_n (pc := 14) hx hb dX2_digest_14 rfl (lv_at hl 1 rfl) ?_
  refine va_get (v := .int (nI (sN σ))) (pc := 15) (D := gD g) (ci := 2) (C := RX2) (T := TX2) (N := 11) hx hb hts hinX2 hown hK hP 0 (ma0 g σ 0 mi ti rest) rfl 1 (by decide) (hts (.fieldLink RX2 42 "ChoirNotesModel" "voices" "I") (by decide +kernel)) (fun _ h9 => h9) rfl dX2_digest_15 ?_
  refine lv_i2l (pc := 18) hx hb dX2_digest_18 rfl ?_
  refine lv_ladd (pc := 19) hx hb dX2_digest_19 ?_
  refine lv_lstore_n (lv' := [(1, .long ((2311 * 31) + ((nI (sN σ)).toInt64))), (0, .ref (gM g))]) (pc := 20) hx hb dX2_digest_20 rfl hl (by decide) rfl (fun ls hl => ?_)
  refine lv_lload_n (pc := 21) hx hb dX2_digest_21 rfl (lv_at hl 0 rfl) ?_
  refine lv_ldc2 (pc := 22) (v := 31) hx hb hown (hts (.constantLong RX2 144 31) (by decide +kernel)) dX2_digest_22 ?_
  refine lv_lmul (pc := 25) hx hb dX2_digest_25 ?_
  refine lv_aload_n (pc := 26) hx hb dX2_digest_26 rfl (lv_at hl 1 rfl) ?_
  refine k_ri (pc := 27) (va_runV (As := []) (rest := [.long (((2311 * 31) + ((nI (sN σ)).toInt64)) * 31)]) ⟨hx, hb, hml, hown, hts⟩ (cX2_most_m l g A σ rest 0 mi ti hI) (cwV 0 hts gX2_digest_X2_most rfl rfl rfl (by decide +kernel) ⟨Nat.le_of_ble_eq_true rfl, Nat.le_of_ble_eq_true rfl⟩) (cx_V (q0 := 0) (ci := 2) (r := (RX2, TX2, 11)) rfl (ma0 g σ 0 mi ti rest) hP hD hA hK hX hS) rfl rfl hl.1 rfl (lv_room (Nat.le_of_ble_eq_true rfl)) dX2_digest_27 ⟨by show _ ≤ 100; omega, by show _ ≤ 516; omega⟩) (fun r_2 hr_2 => ?_)
  subst hr_2
  refine lv_i2l (pc := 30) hx hb dX2_digest_30 rfl ?_
  refine lv_ladd (pc := 31) hx hb dX2_digest_31 ?_
  refine lv_lstore_n (lv' := [(1, .long ((((2311 * 31) + ((nI (sN σ)).toInt64)) * 31) + ((nI (lngst σ)).toInt64))), (0, .ref (gM g))]) (pc := 32) hx hb dX2_digest_32 rfl hl (by decide) rfl (fun ls hl => ?_)
  refine lv_iconst (v := 0) (pc := 33) hx hb dX2_digest_33 (by decide) ?_
  refine lv_istore_n (lv' := [(3, .int 0), (1, .long ((((2311 * 31) + ((nI (sN σ)).toInt64)) * 31) + ((nI (lngst σ)).toInt64))), (0, .ref (gM g))]) (pc := 34) hx hb dX2_digest_34 rfl hl (by decide) rfl (fun ls hl => ?_)
  refine W.widen (k := 25 * 0) (n := 129 * 0) (by omega) (by omega) ?_
  refine k_loopC (pc := 35) (nL := 12) (fun a9 : Nat × Int64 × (Nat → Int32) × (Nat → Int32) => match a9 with | ⟨i, y, fm, ft0⟩ => i ≤ sN σ ∧ y = dgVs σ (mxl 2311 [nI (sN σ), nI (lngst σ)]) i) (fun a9 : Nat × Int64 × (Nat → Int32) × (Nat → Int32) => match a9 with | ⟨i, y, fm, ft0⟩ => sN σ - i) (fun a9 : Nat × Int64 × (Nat → Int32) × (Nat → Int32) => match a9 with | ⟨i, y, fm, ft0⟩ => [(3, .int (nI i)), (1, .long y), (0, .ref (gM g))]) (fun a9 : Nat × Int64 × (Nat → Int32) × (Nat → Int32) => match a9 with | ⟨i, y, fm, ft0⟩ => mw g σ 0 fm ft0 ++ rest) (fun a9 : Nat × Int64 × (Nat → Int32) × (Nat → Int32) => match a9 with | ⟨i, y, fm, ft0⟩ => 25 * i) (fun a9 : Nat × Int64 × (Nat → Int32) × (Nat → Int32) => match a9 with | ⟨i, y, fm, ft0⟩ => 129 * i) (fun a9 hJ ih_35 H_35 locs_35 ls hP hD hS hl => ?_) (0, _, mi, ti) ⟨Nat.zero_le _, rfl⟩ hP hD hS (lv_sub hl [0, 1, 2] rfl)
  obtain ⟨i, y, fm, ft0⟩ := a9
  obtain ⟨hi_35, hy_35⟩ := hJ
  have hP : va_P (gD g) vwCl (mw g σ 0 fm ft0 ++ rest) H_35 := hP
  have hD : va_D A (mw g σ 0 fm ft0 ++ rest) := hD
  have hl : lv_has ls 12 [(3, .int (nI i)), (1, .long y), (0, .ref (gM g))] := hl
  show W p l e _ s m _ below meth c H_35 locs_35 (25 * i) (129 * i) _ _
  refine lv_iload_n (pc := 35) hx hb dX2_digest_35 rfl (lv_at hl 0 rfl) ?_
  refine lv_aload_n (pc := 36) hx hb dX2_digest_36 rfl (lv_at hl 2 rfl) ?_
  refine va_get (v := .int (nI (sN σ))) (pc := 37) (D := gD g) (ci := 2) (C := RX2) (T := TX2) (N := 11) hx hb hts hinX2 hown hK hP 0 (ma0 g σ 0 fm ft0 rest) rfl 1 (by decide) (hts (.fieldLink RX2 42 "ChoirNotesModel" "voices" "I") (by decide +kernel)) (fun _ h9 => h9) rfl dX2_digest_37 ?_
  refine lv_icmp_ge (tgt := 313) (pc := 40) hx hb dX2_digest_40 (by decide) (fun c1 => ?_) (fun c1 => ?_)
  · have c1 : sN σ ≤ i := (nI_leI (a := sN σ) (b := i) (by omega) (by omega)).mp c1
    refine lv_lload_n (pc := 313) hx hb dX2_digest_313 rfl (lv_at hl 1 rfl) ?_
    refine W.widen (k := 100) (n := 516) (by omega) (by omega) ?_
    exact W.lret hx hb hr (fun t ht hW => ⟨⟨_, (fm, ft0), rfl, by rw [hy_35, show i = sN σ by omega]; rfl, by rw [ht]; exact hP, hD⟩, hS.F ht⟩) hS.2.2 dX2_digest_314
  · have c1 : ¬ (sN σ ≤ i) := fun z => c1 ((nI_leI (a := sN σ) (b := i) (by omega) (by omega)).mpr z)
    have hvn_i : i < sN σ := by omega
    have hi4 : i < 4 := by omega
    have hCi := hI.C i
    refine lv_bipush (v := 9) (pc := 43) hx hb dX2_digest_43 (by decide) ?_
    refine k_newa (pc := 45) (atype := .int) (ty := .int) (N' := 9) (a0 := (9, .inl (fun _ => 0))) hx hb (hts (.arrayClass .int) (by decide +kernel)) rfl hK hP hD hS hA 0 rfl (fun _ => rfl) (by decide) (by decide) (by decide) (by show _ ≤ 100; omega) (by show _ ≤ 516; omega) dX2_digest_45 (fun q_a H_a hP hD hS => ?_)
    have hP : va_P (gD g) vwCl (mw g σ 0 fm ft0 ++ (rest ++ [(q_a, .inl (gI g, 9, .inl (fun _ => 0)))])) H_a := by rw [← List.append_assoc]; exact hP
    have hD : va_D A (mw g σ 0 fm ft0 ++ (rest ++ [(q_a, .inl (gI g, 9, .inl (fun _ => 0)))])) := by rw [← List.append_assoc]; exact hD
    refine lv_dup (pc := 47) hx hb dX2_digest_47 rfl ?_
    refine lv_iconst (v := 0) (pc := 48) hx hb dX2_digest_48 (by decide) ?_
    refine lv_aload_n (pc := 49) hx hb dX2_digest_49 rfl (lv_at hl 2 rfl) ?_
    refine va_get (v := .ref (gB g 0)) (pc := 50) (D := gD g) (ci := 2) (C := RX2) (T := TX2) (N := 11) hx hb hts hinX2 hown hK hP 0 (ma0 g σ 0 fm ft0 (rest ++ [(q_a, .inl (gI g, 9, .inl (fun _ => 0)))])) rfl 2 (by decide) (hts (.fieldLink RX2 9 "ChoirNotesModel" "many" "[I") (by decide +kernel)) (fun _ h9 => h9) rfl dX2_digest_50 ?_
    refine lv_iload_n (pc := 53) hx hb dX2_digest_53 rfl (lv_at hl 0 rfl) ?_
    refine k_iald (pc := 54) (x := nI (sC σ i)) hx hb hK hP 1 0 (ma1 g σ 0 fm ft0 (rest ++ [(q_a, .inl (gI g, 9, .inl (fun _ => 0)))])) rfl i rfl (by omega) (by decide) rfl dX2_digest_54 ?_
    refine k_iast (pc := 55) (ws' := mw g σ 0 fm ft0 ++ (rest ++ [(q_a, .inl (gI g, 9, .inl (upd (fun _ => 0) 0 (nI (sC σ i)))))])) hx hb hK hP hD hS (10 + rest.length) 0 (dg_at _ _ _ 10 rfl) rfl 0 rfl (by decide) (by decide) (dg_set _ _ _ _ 10 rfl) dX2_digest_55 (fun H_a1 locs_a1 hP hD hS => ?_)
    refine lv_dup (pc := 56) hx hb dX2_digest_56 rfl ?_
    refine lv_iconst (v := 1) (pc := 57) hx hb dX2_digest_57 (by decide) ?_
    refine lv_aload_n (pc := 58) hx hb dX2_digest_58 rfl (lv_at hl 2 rfl) ?_
    refine lv_iload_n (pc := 59) hx hb dX2_digest_59 rfl (lv_at hl 0 rfl) ?_
    refine lv_iconst (v := 1) (pc := 60) hx hb dX2_digest_60 (by decide) ?_
    refine k_ri (pc := 61) (va_runV (As := [.int (nI i), .int 1]) (rest := [.int 1, .ref q_a, .ref q_a]) ⟨hx, hb, hml, hown, hts⟩ (cX2_count_m l g A σ (rest ++ [(q_a, .inl (gI g, 9, .inl (upd (fun _ => 0) 0 (nI (sC σ i)))))]) 0 fm ft0 i true hi4 hI) (cwV 2 hts gX2_digest_X2_count rfl rfl rfl (by decide +kernel) ⟨Nat.le_of_ble_eq_true rfl, Nat.le_of_ble_eq_true rfl⟩) (cx_V (q0 := 0) (ci := 2) (r := (RX2, TX2, 11)) rfl (ma0 g σ 0 fm ft0 (rest ++ [(q_a, .inl (gI g, 9, .inl (upd (fun _ => 0) 0 (nI (sC σ i)))))])) hP hD hA hK hX hS) rfl rfl hl.1 rfl (lv_room (Nat.le_of_ble_eq_true rfl)) dX2_digest_61 ⟨by show _ ≤ 100; omega, by show _ ≤ 516; omega⟩) (fun r_5 hr_5 => ?_)
    subst hr_5
    refine k_iast (pc := 64) (ws' := mw g σ 0 fm ft0 ++ (rest ++ [(q_a, .inl (gI g, 9, .inl (upd (upd (fun _ => 0) 0 (nI (sC σ i))) 1 (nI (cnt (isNt σ i) (sC σ i))))))])) hx hb hK hP hD hS (10 + rest.length) 0 (dg_at _ _ _ 10 rfl) rfl 1 rfl (by decide) (by decide) (dg_set _ _ _ _ 10 rfl) dX2_digest_64 (fun H_a2 locs_a2 hP hD hS => ?_)
    refine lv_dup (pc := 65) hx hb dX2_digest_65 rfl ?_
    refine lv_iconst (v := 2) (pc := 66) hx hb dX2_digest_66 (by decide) ?_
    refine lv_aload_n (pc := 67) hx hb dX2_digest_67 rfl (lv_at hl 2 rfl) ?_
    refine lv_iload_n (pc := 68) hx hb dX2_digest_68 rfl (lv_at hl 0 rfl) ?_
    refine lv_iconst (v := 0) (pc := 69) hx hb dX2_digest_69 (by decide) ?_
    refine k_ri (pc := 70) (va_runV (As := [.int (nI i), .int 0]) (rest := [.int 2, .ref q_a, .ref q_a]) ⟨hx, hb, hml, hown, hts⟩ (cX2_count_m l g A σ (rest ++ [(q_a, .inl (gI g, 9, .inl (upd (upd (fun _ => 0) 0 (nI (sC σ i))) 1 (nI (cnt (isNt σ i) (sC σ i))))))]) 0 fm ft0 i false hi4 hI) (cwV 2 hts gX2_digest_X2_count rfl rfl rfl (by decide +kernel) ⟨Nat.le_of_ble_eq_true rfl, Nat.le_of_ble_eq_true rfl⟩) (cx_V (q0 := 0) (ci := 2) (r := (RX2, TX2, 11)) rfl (ma0 g σ 0 fm ft0 (rest ++ [(q_a, .inl (gI g, 9, .inl (upd (upd (fun _ => 0) 0 (nI (sC σ i))) 1 (nI (cnt (isNt σ i) (sC σ i))))))])) hP hD hA hK hX hS) rfl rfl hl.1 rfl (lv_room (Nat.le_of_ble_eq_true rfl)) dX2_digest_70 ⟨by show _ ≤ 100; omega, by show _ ≤ 516; omega⟩) (fun r_6 hr_6 => ?_)
    subst hr_6
    refine k_iast (pc := 73) (ws' := mw g σ 0 fm ft0 ++ (rest ++ [(q_a, .inl (gI g, 9, .inl (upd (upd (upd (fun _ => 0) 0 (nI (sC σ i))) 1 (nI (cnt (isNt σ i) (sC σ i)))) 2 (nI (cnt (isLg σ i) (sC σ i))))))])) hx hb hK hP hD hS (10 + rest.length) 0 (dg_at _ _ _ 10 rfl) rfl 2 rfl (by decide) (by decide) (dg_set _ _ _ _ 10 rfl) dX2_digest_73 (fun H_a3 locs_a3 hP hD hS => ?_)
    refine lv_dup (pc := 74) hx hb dX2_digest_74 rfl ?_
    refine lv_iconst (v := 3) (pc := 75) hx hb dX2_digest_75 (by decide) ?_
    refine lv_aload_n (pc := 76) hx hb dX2_digest_76 rfl (lv_at hl 2 rfl) ?_
    refine lv_iload_n (pc := 77) hx hb dX2_digest_77 rfl (lv_at hl 0 rfl) ?_
    refine k_ri (pc := 78) (va_runV (As := [.int (nI i)]) (rest := [.int 3, .ref q_a, .ref q_a]) ⟨hx, hb, hml, hown, hts⟩ (cX2_all_m l g A σ (rest ++ [(q_a, .inl (gI g, 9, .inl (upd (upd (upd (fun _ => 0) 0 (nI (sC σ i))) 1 (nI (cnt (isNt σ i) (sC σ i)))) 2 (nI (cnt (isLg σ i) (sC σ i))))))]) 0 fm ft0 i hi4 hI) (cwV 1 hts gX2_digest_X2_all rfl rfl rfl (by decide +kernel) ⟨Nat.le_of_ble_eq_true rfl, Nat.le_of_ble_eq_true rfl⟩) (cx_V (q0 := 0) (ci := 2) (r := (RX2, TX2, 11)) rfl (ma0 g σ 0 fm ft0 (rest ++ [(q_a, .inl (gI g, 9, .inl (upd (upd (upd (fun _ => 0) 0 (nI (sC σ i))) 1 (nI (cnt (isNt σ i) (sC σ i)))) 2 (nI (cnt (isLg σ i) (sC σ i))))))])) hP hD hA hK hX hS) rfl rfl hl.1 rfl (lv_room (Nat.le_of_ble_eq_true rfl)) dX2_digest_78 ⟨by show _ ≤ 100; omega, by show _ ≤ 516; omega⟩) (fun r_7 hr_7 => ?_)
    subst hr_7
    refine k_iast (pc := 81) (ws' := mw g σ 0 fm ft0 ++ (rest ++ [(q_a, .inl (gI g, 9, .inl (upd (upd (upd (upd (fun _ => 0) 0 (nI (sC σ i))) 1 (nI (cnt (isNt σ i) (sC σ i)))) 2 (nI (cnt (isLg σ i) (sC σ i)))) 3 (nI (len σ i)))))])) hx hb hK hP hD hS (10 + rest.length) 0 (dg_at _ _ _ 10 rfl) rfl 3 rfl (by decide) (by decide) (dg_set _ _ _ _ 10 rfl) dX2_digest_81 (fun H_a4 locs_a4 hP hD hS => ?_)
    refine lv_dup (pc := 82) hx hb dX2_digest_82 rfl ?_
    refine lv_iconst (v := 4) (pc := 83) hx hb dX2_digest_83 (by decide) ?_
    refine lv_aload_n (pc := 84) hx hb dX2_digest_84 rfl (lv_at hl 2 rfl) ?_
    refine va_get (v := .ref (gB g 1)) (pc := 85) (D := gD g) (ci := 2) (C := RX2) (T := TX2) (N := 11) hx hb hts hinX2 hown hK hP 0 (ma0 g σ 0 fm ft0 (rest ++ [(q_a, .inl (gI g, 9, .inl (upd (upd (upd (upd (fun _ => 0) 0 (nI (sC σ i))) 1 (nI (cnt (isNt σ i) (sC σ i)))) 2 (nI (cnt (isLg σ i) (sC σ i)))) 3 (nI (len σ i)))))])) rfl 3 (by decide) (hts (.fieldLink RX2 13 "ChoirNotesModel" "clef" "[I") (by decide +kernel)) (fun _ h9 => h9) rfl dX2_digest_85 ?_
    refine lv_iload_n (pc := 88) hx hb dX2_digest_88 rfl (lv_at hl 0 rfl) ?_
    refine k_iald (pc := 89) (x := sL σ i) hx hb hK hP 2 0 (ma2 g σ 0 fm ft0 (rest ++ [(q_a, .inl (gI g, 9, .inl (upd (upd (upd (upd (fun _ => 0) 0 (nI (sC σ i))) 1 (nI (cnt (isNt σ i) (sC σ i)))) 2 (nI (cnt (isLg σ i) (sC σ i)))) 3 (nI (len σ i)))))])) rfl i rfl (by omega) (by decide) (if_pos hvn_i) dX2_digest_89 ?_
    refine k_iast (pc := 90) (ws' := mw g σ 0 fm ft0 ++ (rest ++ [(q_a, .inl (gI g, 9, .inl (upd (upd (upd (upd (upd (fun _ => 0) 0 (nI (sC σ i))) 1 (nI (cnt (isNt σ i) (sC σ i)))) 2 (nI (cnt (isLg σ i) (sC σ i)))) 3 (nI (len σ i))) 4 (sL σ i))))])) hx hb hK hP hD hS (10 + rest.length) 0 (dg_at _ _ _ 10 rfl) rfl 4 rfl (by decide) (by decide) (dg_set _ _ _ _ 10 rfl) dX2_digest_90 (fun H_a5 locs_a5 hP hD hS => ?_)
    refine lv_dup (pc := 91) hx hb dX2_digest_91 rfl ?_
    refine lv_iconst (v := 5) (pc := 92) hx hb dX2_digest_92 (by decide) ?_
    refine lv_aload_n (pc := 93) hx hb dX2_digest_93 rfl (lv_at hl 2 rfl) ?_
    refine lv_iload_n (pc := 94) hx hb dX2_digest_94 rfl (lv_at hl 0 rfl) ?_
    refine k_ri (pc := 95) (va_runV (As := [.int (nI i)]) (rest := [.int 5, .ref q_a, .ref q_a]) ⟨hx, hb, hml, hown, hts⟩ (cX2_fitting_m l g A σ (rest ++ [(q_a, .inl (gI g, 9, .inl (upd (upd (upd (upd (upd (fun _ => 0) 0 (nI (sC σ i))) 1 (nI (cnt (isNt σ i) (sC σ i)))) 2 (nI (cnt (isLg σ i) (sC σ i)))) 3 (nI (len σ i))) 4 (sL σ i))))]) 0 fm ft0 i hi4 hI) (cwV 1 hts gX2_digest_X2_fitting rfl rfl rfl (by decide +kernel) ⟨Nat.le_of_ble_eq_true rfl, Nat.le_of_ble_eq_true rfl⟩) (cx_V (q0 := 0) (ci := 2) (r := (RX2, TX2, 11)) rfl (ma0 g σ 0 fm ft0 (rest ++ [(q_a, .inl (gI g, 9, .inl (upd (upd (upd (upd (upd (fun _ => 0) 0 (nI (sC σ i))) 1 (nI (cnt (isNt σ i) (sC σ i)))) 2 (nI (cnt (isLg σ i) (sC σ i)))) 3 (nI (len σ i))) 4 (sL σ i))))])) hP hD hA hK hX hS) rfl rfl hl.1 rfl (lv_room (Nat.le_of_ble_eq_true rfl)) dX2_digest_95 ⟨by show _ ≤ 100; omega, by show _ ≤ 516; omega⟩) (fun r_8 hr_8 => ?_)
    subst hr_8
    refine k_iast (pc := 98) (ws' := mw g σ 0 fm ft0 ++ (rest ++ [(q_a, .inl (gI g, 9, .inl (upd (upd (upd (upd (upd (upd (fun _ => 0) 0 (nI (sC σ i))) 1 (nI (cnt (isNt σ i) (sC σ i)))) 2 (nI (cnt (isLg σ i) (sC σ i)))) 3 (nI (len σ i))) 4 (sL σ i)) 5 (nI (fct σ i)))))])) hx hb hK hP hD hS (10 + rest.length) 0 (dg_at _ _ _ 10 rfl) rfl 5 rfl (by decide) (by decide) (dg_set _ _ _ _ 10 rfl) dX2_digest_98 (fun H_a6 locs_a6 hP hD hS => ?_)
    refine lv_dup (pc := 99) hx hb dX2_digest_99 rfl ?_
    refine lv_bipush (v := 6) (pc := 100) hx hb dX2_digest_100 (by decide) ?_
    refine lv_aload_n (pc := 102) hx hb dX2_digest_102 rfl (lv_at hl 2 rfl) ?_
    refine lv_iload_n (pc := 103) hx hb dX2_digest_103 rfl (lv_at hl 0 rfl) ?_
    refine va_calli (pc := 104) (va_runV (As := [.int (nI i)]) (rest := [.int 6, .ref q_a, .ref q_a]) ⟨hx, hb, hml, hown, hts⟩ (cX2_best_m l g A σ (rest ++ [(q_a, .inl (gI g, 9, .inl (upd (upd (upd (upd (upd (upd (fun _ => 0) 0 (nI (sC σ i))) 1 (nI (cnt (isNt σ i) (sC σ i)))) 2 (nI (cnt (isLg σ i) (sC σ i)))) 3 (nI (len σ i))) 4 (sL σ i)) 5 (nI (fct σ i)))))]) 0 fm ft0 i hi4 hI) (cwV 1 hts gX2_digest_X2_best rfl rfl rfl (by decide +kernel) ⟨Nat.le_of_ble_eq_true rfl, Nat.le_of_ble_eq_true rfl⟩) (cx_V (q0 := 0) (ci := 2) (r := (RX2, TX2, 11)) rfl (ma0 g σ 0 fm ft0 (rest ++ [(q_a, .inl (gI g, 9, .inl (upd (upd (upd (upd (upd (upd (fun _ => 0) 0 (nI (sC σ i))) 1 (nI (cnt (isNt σ i) (sC σ i)))) 2 (nI (cnt (isLg σ i) (sC σ i)))) 3 (nI (len σ i))) 4 (sL σ i)) 5 (nI (fct σ i)))))])) hP hD hA hK hX hS) rfl rfl hl.1 rfl (lv_room (Nat.le_of_ble_eq_true rfl)) dX2_digest_104 ⟨by show _ ≤ 100; omega, by show _ ≤ 516; omega⟩) hS (fun _ _ h => h) (fun _ h => h) (fun r_9 u10 t10 H10 locs10 ht10 hvm10 hw10 hB10 hz10 hk10 hS => ?_)
    obtain ⟨hP, hD⟩ := hB10
    rw [ht10] at hP
    subst hw10
    refine k_iast (pc := 107) (ws' := mw g σ 0 u10.1 u10.2 ++ (rest ++ [(q_a, .inl (gI g, 9, .inl (upd (upd (upd (upd (upd (upd (upd (fun _ => 0) 0 (nI (sC σ i))) 1 (nI (cnt (isNt σ i) (sC σ i)))) 2 (nI (cnt (isLg σ i) (sC σ i)))) 3 (nI (len σ i))) 4 (sL σ i)) 5 (nI (fct σ i))) 6 (bcl σ i))))])) hx hb hK hP hD hS (10 + rest.length) 0 (dg_at _ _ _ 10 rfl) rfl 6 rfl (by decide) (by decide) (dg_set _ _ _ _ 10 rfl) dX2_digest_107 (fun H_a7 locs_a7 hP hD hS => ?_)
    refine lv_dup (pc := 108) hx hb dX2_digest_108 rfl ?_
    refine lv_bipush (v := 7) (pc := 109) hx hb dX2_digest_109 (by decide) ?_
    refine lv_aload_n (pc := 111) hx hb dX2_digest_111 rfl (lv_at hl 2 rfl) ?_
    refine lv_aload_n (pc := 112) hx hb dX2_digest_112 rfl (lv_at hl 2 rfl) ?_
    refine lv_iload_n (pc := 113) hx hb dX2_digest_113 rfl (lv_at hl 0 rfl) ?_
    refine lv_aload_n (pc := 114) hx hb dX2_digest_114 rfl (lv_at hl 2 rfl) ?_
    refine va_get (v := .ref (gB g 7)) (pc := 115) (D := gD g) (ci := 2) (C := RX2) (T := TX2) (N := 11) hx hb hts hinX2 hown hK hP 0 (ma0 g σ 0 u10.1 u10.2 (rest ++ [(q_a, .inl (gI g, 9, .inl (upd (upd (upd (upd (upd (upd (upd (fun _ => 0) 0 (nI (sC σ i))) 1 (nI (cnt (isNt σ i) (sC σ i)))) 2 (nI (cnt (isLg σ i) (sC σ i)))) 3 (nI (len σ i))) 4 (sL σ i)) 5 (nI (fct σ i))) 6 (bcl σ i))))])) rfl 9 (by decide) (hts (.fieldLink RX2 32 "ChoirNotesModel" "mine" "[I") (by decide +kernel)) (fun _ h9 => h9) rfl dX2_digest_115 ?_
    refine va_calli (pc := 118) (va_runV (As := [.int (nI i), .ref (gB g 7)]) (rest := [.ref (gM g), .int 7, .ref q_a, .ref q_a]) ⟨hx, hb, hml, hown, hts⟩ (cX2_layM_m l g A σ (rest ++ [(q_a, .inl (gI g, 9, .inl (upd (upd (upd (upd (upd (upd (upd (fun _ => 0) 0 (nI (sC σ i))) 1 (nI (cnt (isNt σ i) (sC σ i)))) 2 (nI (cnt (isLg σ i) (sC σ i)))) 3 (nI (len σ i))) 4 (sL σ i)) 5 (nI (fct σ i))) 6 (bcl σ i))))]) 0 u10.1 u10.2 i hi4 hI) (cwV 2 hts gX2_digest_X2_lay rfl rfl rfl (by decide +kernel) ⟨Nat.le_of_ble_eq_true rfl, Nat.le_of_ble_eq_true rfl⟩) (cx_V (q0 := 0) (ci := 2) (r := (RX2, TX2, 11)) rfl (ma0 g σ 0 u10.1 u10.2 (rest ++ [(q_a, .inl (gI g, 9, .inl (upd (upd (upd (upd (upd (upd (upd (fun _ => 0) 0 (nI (sC σ i))) 1 (nI (cnt (isNt σ i) (sC σ i)))) 2 (nI (cnt (isLg σ i) (sC σ i)))) 3 (nI (len σ i))) 4 (sL σ i)) 5 (nI (fct σ i))) 6 (bcl σ i))))])) hP hD hA hK hX hS) rfl rfl hl.1 rfl (lv_room (Nat.le_of_ble_eq_true rfl)) dX2_digest_118 ⟨by show _ ≤ 100; omega, by show _ ≤ 516; omega⟩) hS (fun _ _ h => h) (fun _ h => h) (fun r_11 u12 t12 H12 locs12 ht12 hvm12 hw12 hB12 hz12 hk12 hS => ?_)
    obtain ⟨hP, hD⟩ := hB12
    rw [ht12] at hP
    obtain ⟨rfl, hw12⟩ := hw12
    refine lv_iconst (v := 4) (pc := 121) hx hb dX2_digest_121 (by decide) ?_
    refine lv_iconst (v := 0) (pc := 122) hx hb dX2_digest_122 (by decide) ?_
    refine k_ri (pc := 123) (va_runV (As := [.int (nI (len σ i)), .int 4, .int 0]) (rest := [.int 7, .ref q_a, .ref q_a]) ⟨hx, hb, hml, hown, hts⟩ (cX2_canon_m l g A σ (rest ++ [(q_a, .inl (gI g, 9, .inl (upd (upd (upd (upd (upd (upd (upd (fun _ => 0) 0 (nI (sC σ i))) 1 (nI (cnt (isNt σ i) (sC σ i)))) 2 (nI (cnt (isLg σ i) (sC σ i)))) 3 (nI (len σ i))) 4 (sL σ i)) 5 (nI (fct σ i))) 6 (bcl σ i))))]) 0 u12 u10.2 i 4 0 hi4 hI (by omega) hw12) (cwV 3 hts gX2_digest_X2_canon rfl rfl rfl (by decide +kernel) ⟨Nat.le_of_ble_eq_true rfl, Nat.le_of_ble_eq_true rfl⟩) (cx_V (q0 := 0) (ci := 2) (r := (RX2, TX2, 11)) rfl (ma0 g σ 0 u12 u10.2 (rest ++ [(q_a, .inl (gI g, 9, .inl (upd (upd (upd (upd (upd (upd (upd (fun _ => 0) 0 (nI (sC σ i))) 1 (nI (cnt (isNt σ i) (sC σ i)))) 2 (nI (cnt (isLg σ i) (sC σ i)))) 3 (nI (len σ i))) 4 (sL σ i)) 5 (nI (fct σ i))) 6 (bcl σ i))))])) hP hD hA hK hX hS) rfl rfl hl.1 rfl (lv_room (Nat.le_of_ble_eq_true rfl)) dX2_digest_123 ⟨by show _ ≤ 100; omega, by show _ ≤ 516; omega⟩) (fun r_13 hr_13 => ?_)
    subst hr_13
    refine k_iast (pc := 126) (ws' := mw g σ 0 u12 u10.2 ++ (rest ++ [(q_a, .inl (gI g, 9, .inl (upd (upd (upd (upd (upd (upd (upd (upd (fun _ => 0) 0 (nI (sC σ i))) 1 (nI (cnt (isNt σ i) (sC σ i)))) 2 (nI (cnt (isLg σ i) (sC σ i)))) 3 (nI (len σ i))) 4 (sL σ i)) 5 (nI (fct σ i))) 6 (bcl σ i)) 7 (nI (clN σ i i 4 0)))))])) hx hb hK hP hD hS (10 + rest.length) 0 (dg_at _ _ _ 10 rfl) rfl 7 rfl (by decide) (by decide) (dg_set _ _ _ _ 10 rfl) dX2_digest_126 (fun H_a8 locs_a8 hP hD hS => ?_)
    refine lv_dup (pc := 127) hx hb dX2_digest_127 rfl ?_
    refine lv_bipush (v := 8) (pc := 128) hx hb dX2_digest_128 (by decide) ?_
    refine lv_aload_n (pc := 130) hx hb dX2_digest_130 rfl (lv_at hl 2 rfl) ?_
    refine lv_iload_n (pc := 131) hx hb dX2_digest_131 rfl (lv_at hl 0 rfl) ?_
    refine lv_iconst (v := 4) (pc := 132) hx hb dX2_digest_132 (by decide) ?_
    refine va_calli (pc := 133) (va_runV (As := [.int (nI i), .int 4]) (rest := [.int 8, .ref q_a, .ref q_a]) ⟨hx, hb, hml, hown, hts⟩ (cX2_delay_m l g A σ (rest ++ [(q_a, .inl (gI g, 9, .inl (upd (upd (upd (upd (upd (upd (upd (upd (fun _ => 0) 0 (nI (sC σ i))) 1 (nI (cnt (isNt σ i) (sC σ i)))) 2 (nI (cnt (isLg σ i) (sC σ i)))) 3 (nI (len σ i))) 4 (sL σ i)) 5 (nI (fct σ i))) 6 (bcl σ i)) 7 (nI (clN σ i i 4 0)))))]) 0 u12 u10.2 i 4 hi4 hI) (cwV 2 hts gX2_digest_X2_delay rfl rfl rfl (by decide +kernel) ⟨Nat.le_of_ble_eq_true rfl, Nat.le_of_ble_eq_true rfl⟩) (cx_V (q0 := 0) (ci := 2) (r := (RX2, TX2, 11)) rfl (ma0 g σ 0 u12 u10.2 (rest ++ [(q_a, .inl (gI g, 9, .inl (upd (upd (upd (upd (upd (upd (upd (upd (fun _ => 0) 0 (nI (sC σ i))) 1 (nI (cnt (isNt σ i) (sC σ i)))) 2 (nI (cnt (isLg σ i) (sC σ i)))) 3 (nI (len σ i))) 4 (sL σ i)) 5 (nI (fct σ i))) 6 (bcl σ i)) 7 (nI (clN σ i i 4 0)))))])) hP hD hA hK hX hS) rfl rfl hl.1 rfl (lv_room (Nat.le_of_ble_eq_true rfl)) dX2_digest_133 ⟨by show _ ≤ 100; omega, by show _ ≤ 516; omega⟩) hS (fun _ _ h => h) (fun _ h => h) (fun r_14 u15 t15 H15 locs15 ht15 hvm15 hw15 hB15 hz15 hk15 hS => ?_)
    obtain ⟨hP, hD⟩ := hB15
    rw [ht15] at hP
    subst hw15
    refine k_iast (pc := 136) (ws' := mw g σ 0 u15.1 u15.2 ++ (rest ++ [(q_a, .inl (gI g, 9, .inl (upd (upd (upd (upd (upd (upd (upd (upd (upd (fun _ => 0) 0 (nI (sC σ i))) 1 (nI (cnt (isNt σ i) (sC σ i)))) 2 (nI (cnt (isLg σ i) (sC σ i)))) 3 (nI (len σ i))) 4 (sL σ i)) 5 (nI (fct σ i))) 6 (bcl σ i)) 7 (nI (clN σ i i 4 0))) 8 (bdl σ i 4))))])) hx hb hK hP hD hS (10 + rest.length) 0 (dg_at _ _ _ 10 rfl) rfl 8 rfl (by decide) (by decide) (dg_set _ _ _ _ 10 rfl) dX2_digest_136 (fun H_a9 locs_a9 hP hD hS => ?_)
    refine lv_astore (lv' := [(4, .ref q_a), (3, .int (nI i)), (1, .long y), (0, .ref (gM g))]) (pc := 137) hx hb dX2_digest_137 hl (by decide) rfl (fun ls hl => ?_)
    refine lv_aload (pc := 139) hx hb dX2_digest_139 (lv_at hl 0 rfl) ?_
    refine lv_astore (lv' := [(5, .ref q_a), (4, .ref q_a), (3, .int (nI i)), (1, .long y), (0, .ref (gM g))]) (pc := 141) hx hb dX2_digest_141 hl (by decide) rfl (fun ls hl => ?_)
    refine lv_aload (pc := 143) hx hb dX2_digest_143 (lv_at hl 0 rfl) ?_
    refine va_alen (pc := 145) (v := 9) hx hb hK hP (10 + rest.length) 0 (dg_at _ _ _ 10 rfl) rfl rfl dX2_digest_145 ?_
    refine lv_istore (lv' := [(6, .int 9), (5, .ref q_a), (4, .ref q_a), (3, .int (nI i)), (1, .long y), (0, .ref (gM g))]) (pc := 146) hx hb dX2_digest_146 hl (by decide) rfl (fun ls hl => ?_)
    refine lv_iconst (v := 0) (pc := 148) hx hb dX2_digest_148 (by decide) ?_
    refine lv_istore (lv' := [(7, .int 0), (6, .int 9), (5, .ref q_a), (4, .ref q_a), (3, .int (nI i)), (1, .long y), (0, .ref (gM g))]) (pc := 149) hx hb dX2_digest_149 hl (by decide) rfl (fun ls hl => ?_)
    refine lv_iload (pc := 151) hx hb dX2_digest_151 (lv_at hl 0 rfl) ?_
    refine lv_iload (pc := 153) hx hb dX2_digest_153 (lv_at hl 1 rfl) ?_
    refine lv_icmp_ge (tgt := 181) (pc := 155) hx hb dX2_digest_155 (by decide) (fun c_16 => ?_) (fun c_16 => ?_)
    · exact absurd c_16 (by decide)
    · refine lv_aload (pc := 158) hx hb dX2_digest_158 (lv_at hl 2 rfl) ?_
      refine lv_iload (pc := 160) hx hb dX2_digest_160 (lv_at hl 0 rfl) ?_
      refine k_iald (pc := 162) (x := nI (sC σ i)) hx hb hK hP (10 + rest.length) 0 (dg_at _ _ _ 10 rfl) rfl 0 rfl (by decide) (by decide) rfl dX2_digest_162 ?_
      refine lv_istore (lv' := [(8, .int (nI (sC σ i))), (7, .int 0), (6, .int 9), (5, .ref q_a), (4, .ref q_a), (3, .int (nI i)), (1, .long y), (0, .ref (gM g))]) (pc := 163) hx hb dX2_digest_163 hl (by decide) rfl (fun ls hl => ?_)
      refine lv_lload_n (pc := 165) hx hb dX2_digest_165 rfl (lv_at hl 6 rfl) ?_
      refine lv_ldc2 (pc := 166) (v := 31) hx hb hown (hts (.constantLong RX2 144 31) (by decide +kernel)) dX2_digest_166 ?_
      refine lv_lmul (pc := 169) hx hb dX2_digest_169 ?_
      refine lv_iload (pc := 170) hx hb dX2_digest_170 (lv_at hl 0 rfl) ?_
      refine lv_i2l (pc := 172) hx hb dX2_digest_172 rfl ?_
      refine lv_ladd (pc := 173) hx hb dX2_digest_173 ?_
      refine lv_lstore_n (lv' := [(1, .long ((y * 31) + ((nI (sC σ i)).toInt64))), (8, .int (nI (sC σ i))), (7, .int 0), (6, .int 9), (5, .ref q_a), (4, .ref q_a), (3, .int (nI i)), (0, .ref (gM g))]) (pc := 174) hx hb dX2_digest_174 rfl hl (by decide) rfl (fun ls hl => ?_)
      refine lv_iinc (v := 1) (lv' := [(7, .int 1), (1, .long ((y * 31) + ((nI (sC σ i)).toInt64))), (8, .int (nI (sC σ i))), (6, .int 9), (5, .ref q_a), (4, .ref q_a), (3, .int (nI i)), (0, .ref (gM g))]) (pc := 175) hx hb dX2_digest_175 hl (k := 2) rfl (by decide) (by decide) rfl (fun ls hl => ?_)
      refine lv_goto (tgt := 151) (pc := 178) hx hb dX2_digest_178 (by decide) ?_
      refine lv_iload (pc := 151) hx hb dX2_digest_151 (lv_at hl 0 rfl) ?_
      refine lv_iload (pc := 153) hx hb dX2_digest_153 (lv_at hl 3 rfl) ?_
      refine lv_icmp_ge (tgt := 181) (pc := 155) hx hb dX2_digest_155 (by decide) (fun c_17 => ?_) (fun c_17 => ?_)
      · exact absurd c_17 (by decide)
      · refine lv_aload (pc := 158) hx hb dX2_digest_158 (lv_at hl 4 rfl) ?_
        refine lv_iload (pc := 160) hx hb dX2_digest_160 (lv_at hl 0 rfl) ?_
        refine k_iald (pc := 162) (x := nI (cnt (isNt σ i) (sC σ i))) hx hb hK hP (10 + rest.length) 0 (dg_at _ _ _ 10 rfl) rfl 1 rfl (by decide) (by decide) rfl dX2_digest_162 ?_
        refine lv_istore (lv' := [(8, .int (nI (cnt (isNt σ i) (sC σ i)))), (7, .int 1), (1, .long ((y * 31) + ((nI (sC σ i)).toInt64))), (6, .int 9), (5, .ref q_a), (4, .ref q_a), (3, .int (nI i)), (0, .ref (gM g))]) (pc := 163) hx hb dX2_digest_163 hl (by decide) rfl (fun ls hl => ?_)
        refine lv_lload_n (pc := 165) hx hb dX2_digest_165 rfl (lv_at hl 2 rfl) ?_
        refine lv_ldc2 (pc := 166) (v := 31) hx hb hown (hts (.constantLong RX2 144 31) (by decide +kernel)) dX2_digest_166 ?_
        refine lv_lmul (pc := 169) hx hb dX2_digest_169 ?_
        refine lv_iload (pc := 170) hx hb dX2_digest_170 (lv_at hl 0 rfl) ?_
        refine lv_i2l (pc := 172) hx hb dX2_digest_172 rfl ?_
        refine lv_ladd (pc := 173) hx hb dX2_digest_173 ?_
        refine lv_lstore_n (lv' := [(1, .long ((((y * 31) + ((nI (sC σ i)).toInt64)) * 31) + ((nI (cnt (isNt σ i) (sC σ i))).toInt64))), (8, .int (nI (cnt (isNt σ i) (sC σ i)))), (7, .int 1), (6, .int 9), (5, .ref q_a), (4, .ref q_a), (3, .int (nI i)), (0, .ref (gM g))]) (pc := 174) hx hb dX2_digest_174 rfl hl (by decide) rfl (fun ls hl => ?_)
        refine lv_iinc (v := 2) (lv' := [(7, .int 2), (1, .long ((((y * 31) + ((nI (sC σ i)).toInt64)) * 31) + ((nI (cnt (isNt σ i) (sC σ i))).toInt64))), (8, .int (nI (cnt (isNt σ i) (sC σ i)))), (6, .int 9), (5, .ref q_a), (4, .ref q_a), (3, .int (nI i)), (0, .ref (gM g))]) (pc := 175) hx hb dX2_digest_175 hl (k := 2) rfl (by decide) (by decide) rfl (fun ls hl => ?_)
        refine lv_goto (tgt := 151) (pc := 178) hx hb dX2_digest_178 (by decide) ?_
        refine lv_iload (pc := 151) hx hb dX2_digest_151 (lv_at hl 0 rfl) ?_
        refine lv_iload (pc := 153) hx hb dX2_digest_153 (lv_at hl 3 rfl) ?_
        refine lv_icmp_ge (tgt := 181) (pc := 155) hx hb dX2_digest_155 (by decide) (fun c_18 => ?_) (fun c_18 => ?_)
        · exact absurd c_18 (by decide)
        · refine lv_aload (pc := 158) hx hb dX2_digest_158 (lv_at hl 4 rfl) ?_
          refine lv_iload (pc := 160) hx hb dX2_digest_160 (lv_at hl 0 rfl) ?_
          refine k_iald (pc := 162) (x := nI (cnt (isLg σ i) (sC σ i))) hx hb hK hP (10 + rest.length) 0 (dg_at _ _ _ 10 rfl) rfl 2 rfl (by decide) (by decide) rfl dX2_digest_162 ?_
          refine lv_istore (lv' := [(8, .int (nI (cnt (isLg σ i) (sC σ i)))), (7, .int 2), (1, .long ((((y * 31) + ((nI (sC σ i)).toInt64)) * 31) + ((nI (cnt (isNt σ i) (sC σ i))).toInt64))), (6, .int 9), (5, .ref q_a), (4, .ref q_a), (3, .int (nI i)), (0, .ref (gM g))]) (pc := 163) hx hb dX2_digest_163 hl (by decide) rfl (fun ls hl => ?_)
          refine lv_lload_n (pc := 165) hx hb dX2_digest_165 rfl (lv_at hl 2 rfl) ?_
          refine lv_ldc2 (pc := 166) (v := 31) hx hb hown (hts (.constantLong RX2 144 31) (by decide +kernel)) dX2_digest_166 ?_
          refine lv_lmul (pc := 169) hx hb dX2_digest_169 ?_
          refine lv_iload (pc := 170) hx hb dX2_digest_170 (lv_at hl 0 rfl) ?_
          refine lv_i2l (pc := 172) hx hb dX2_digest_172 rfl ?_
          refine lv_ladd (pc := 173) hx hb dX2_digest_173 ?_
          refine lv_lstore_n (lv' := [(1, .long ((((((y * 31) + ((nI (sC σ i)).toInt64)) * 31) + ((nI (cnt (isNt σ i) (sC σ i))).toInt64)) * 31) + ((nI (cnt (isLg σ i) (sC σ i))).toInt64))), (8, .int (nI (cnt (isLg σ i) (sC σ i)))), (7, .int 2), (6, .int 9), (5, .ref q_a), (4, .ref q_a), (3, .int (nI i)), (0, .ref (gM g))]) (pc := 174) hx hb dX2_digest_174 rfl hl (by decide) rfl (fun ls hl => ?_)
          refine lv_iinc (v := 3) (lv' := [(7, .int 3), (1, .long ((((((y * 31) + ((nI (sC σ i)).toInt64)) * 31) + ((nI (cnt (isNt σ i) (sC σ i))).toInt64)) * 31) + ((nI (cnt (isLg σ i) (sC σ i))).toInt64))), (8, .int (nI (cnt (isLg σ i) (sC σ i)))), (6, .int 9), (5, .ref q_a), (4, .ref q_a), (3, .int (nI i)), (0, .ref (gM g))]) (pc := 175) hx hb dX2_digest_175 hl (k := 2) rfl (by decide) (by decide) rfl (fun ls hl => ?_)
          refine lv_goto (tgt := 151) (pc := 178) hx hb dX2_digest_178 (by decide) ?_
          refine lv_iload (pc := 151) hx hb dX2_digest_151 (lv_at hl 0 rfl) ?_
          refine lv_iload (pc := 153) hx hb dX2_digest_153 (lv_at hl 3 rfl) ?_
          refine lv_icmp_ge (tgt := 181) (pc := 155) hx hb dX2_digest_155 (by decide) (fun c_19 => ?_) (fun c_19 => ?_)
          · exact absurd c_19 (by decide)
          · refine lv_aload (pc := 158) hx hb dX2_digest_158 (lv_at hl 4 rfl) ?_
            refine lv_iload (pc := 160) hx hb dX2_digest_160 (lv_at hl 0 rfl) ?_
            refine k_iald (pc := 162) (x := nI (len σ i)) hx hb hK hP (10 + rest.length) 0 (dg_at _ _ _ 10 rfl) rfl 3 rfl (by decide) (by decide) rfl dX2_digest_162 ?_
            refine lv_istore (lv' := [(8, .int (nI (len σ i))), (7, .int 3), (1, .long ((((((y * 31) + ((nI (sC σ i)).toInt64)) * 31) + ((nI (cnt (isNt σ i) (sC σ i))).toInt64)) * 31) + ((nI (cnt (isLg σ i) (sC σ i))).toInt64))), (6, .int 9), (5, .ref q_a), (4, .ref q_a), (3, .int (nI i)), (0, .ref (gM g))]) (pc := 163) hx hb dX2_digest_163 hl (by decide) rfl (fun ls hl => ?_)
            refine lv_lload_n (pc := 165) hx hb dX2_digest_165 rfl (lv_at hl 2 rfl) ?_
            refine lv_ldc2 (pc := 166) (v := 31) hx hb hown (hts (.constantLong RX2 144 31) (by decide +kernel)) dX2_digest_166 ?_
            refine lv_lmul (pc := 169) hx hb dX2_digest_169 ?_
            refine lv_iload (pc := 170) hx hb dX2_digest_170 (lv_at hl 0 rfl) ?_
            refine lv_i2l (pc := 172) hx hb dX2_digest_172 rfl ?_
            refine lv_ladd (pc := 173) hx hb dX2_digest_173 ?_
            refine lv_lstore_n (lv' := [(1, .long ((((((((y * 31) + ((nI (sC σ i)).toInt64)) * 31) + ((nI (cnt (isNt σ i) (sC σ i))).toInt64)) * 31) + ((nI (cnt (isLg σ i) (sC σ i))).toInt64)) * 31) + ((nI (len σ i)).toInt64))), (8, .int (nI (len σ i))), (7, .int 3), (6, .int 9), (5, .ref q_a), (4, .ref q_a), (3, .int (nI i)), (0, .ref (gM g))]) (pc := 174) hx hb dX2_digest_174 rfl hl (by decide) rfl (fun ls hl => ?_)
            refine lv_iinc (v := 4) (lv' := [(7, .int 4), (1, .long ((((((((y * 31) + ((nI (sC σ i)).toInt64)) * 31) + ((nI (cnt (isNt σ i) (sC σ i))).toInt64)) * 31) + ((nI (cnt (isLg σ i) (sC σ i))).toInt64)) * 31) + ((nI (len σ i)).toInt64))), (8, .int (nI (len σ i))), (6, .int 9), (5, .ref q_a), (4, .ref q_a), (3, .int (nI i)), (0, .ref (gM g))]) (pc := 175) hx hb dX2_digest_175 hl (k := 2) rfl (by decide) (by decide) rfl (fun ls hl => ?_)
            refine lv_goto (tgt := 151) (pc := 178) hx hb dX2_digest_178 (by decide) ?_
            refine lv_iload (pc := 151) hx hb dX2_digest_151 (lv_at hl 0 rfl) ?_
            refine lv_iload (pc := 153) hx hb dX2_digest_153 (lv_at hl 3 rfl) ?_
            refine lv_icmp_ge (tgt := 181) (pc := 155) hx hb dX2_digest_155 (by decide) (fun c_20 => ?_) (fun c_20 => ?_)
            · exact absurd c_20 (by decide)
            · refine lv_aload (pc := 158) hx hb dX2_digest_158 (lv_at hl 4 rfl) ?_
              refine lv_iload (pc := 160) hx hb dX2_digest_160 (lv_at hl 0 rfl) ?_
              refine k_iald (pc := 162) (x := sL σ i) hx hb hK hP (10 + rest.length) 0 (dg_at _ _ _ 10 rfl) rfl 4 rfl (by decide) (by decide) rfl dX2_digest_162 ?_
              refine lv_istore (lv' := [(8, .int (sL σ i)), (7, .int 4), (1, .long ((((((((y * 31) + ((nI (sC σ i)).toInt64)) * 31) + ((nI (cnt (isNt σ i) (sC σ i))).toInt64)) * 31) + ((nI (cnt (isLg σ i) (sC σ i))).toInt64)) * 31) + ((nI (len σ i)).toInt64))), (6, .int 9), (5, .ref q_a), (4, .ref q_a), (3, .int (nI i)), (0, .ref (gM g))]) (pc := 163) hx hb dX2_digest_163 hl (by decide) rfl (fun ls hl => ?_)
              refine lv_lload_n (pc := 165) hx hb dX2_digest_165 rfl (lv_at hl 2 rfl) ?_
              refine lv_ldc2 (pc := 166) (v := 31) hx hb hown (hts (.constantLong RX2 144 31) (by decide +kernel)) dX2_digest_166 ?_
              refine lv_lmul (pc := 169) hx hb dX2_digest_169 ?_
              refine lv_iload (pc := 170) hx hb dX2_digest_170 (lv_at hl 0 rfl) ?_
              refine lv_i2l (pc := 172) hx hb dX2_digest_172 rfl ?_
              refine lv_ladd (pc := 173) hx hb dX2_digest_173 ?_
              refine lv_lstore_n (lv' := [(1, .long ((((((((((y * 31) + ((nI (sC σ i)).toInt64)) * 31) + ((nI (cnt (isNt σ i) (sC σ i))).toInt64)) * 31) + ((nI (cnt (isLg σ i) (sC σ i))).toInt64)) * 31) + ((nI (len σ i)).toInt64)) * 31) + ((sL σ i).toInt64))), (8, .int (sL σ i)), (7, .int 4), (6, .int 9), (5, .ref q_a), (4, .ref q_a), (3, .int (nI i)), (0, .ref (gM g))]) (pc := 174) hx hb dX2_digest_174 rfl hl (by decide) rfl (fun ls hl => ?_)
              refine lv_iinc (v := 5) (lv' := [(7, .int 5), (1, .long ((((((((((y * 31) + ((nI (sC σ i)).toInt64)) * 31) + ((nI (cnt (isNt σ i) (sC σ i))).toInt64)) * 31) + ((nI (cnt (isLg σ i) (sC σ i))).toInt64)) * 31) + ((nI (len σ i)).toInt64)) * 31) + ((sL σ i).toInt64))), (8, .int (sL σ i)), (6, .int 9), (5, .ref q_a), (4, .ref q_a), (3, .int (nI i)), (0, .ref (gM g))]) (pc := 175) hx hb dX2_digest_175 hl (k := 2) rfl (by decide) (by decide) rfl (fun ls hl => ?_)
              refine lv_goto (tgt := 151) (pc := 178) hx hb dX2_digest_178 (by decide) ?_
              refine lv_iload (pc := 151) hx hb dX2_digest_151 (lv_at hl 0 rfl) ?_
              refine lv_iload (pc := 153) hx hb dX2_digest_153 (lv_at hl 3 rfl) ?_
              refine lv_icmp_ge (tgt := 181) (pc := 155) hx hb dX2_digest_155 (by decide) (fun c_21 => ?_) (fun c_21 => ?_)
              · exact absurd c_21 (by decide)
              · refine lv_aload (pc := 158) hx hb dX2_digest_158 (lv_at hl 4 rfl) ?_
                refine lv_iload (pc := 160) hx hb dX2_digest_160 (lv_at hl 0 rfl) ?_
                refine k_iald (pc := 162) (x := nI (fct σ i)) hx hb hK hP (10 + rest.length) 0 (dg_at _ _ _ 10 rfl) rfl 5 rfl (by decide) (by decide) rfl dX2_digest_162 ?_
                refine lv_istore (lv' := [(8, .int (nI (fct σ i))), (7, .int 5), (1, .long ((((((((((y * 31) + ((nI (sC σ i)).toInt64)) * 31) + ((nI (cnt (isNt σ i) (sC σ i))).toInt64)) * 31) + ((nI (cnt (isLg σ i) (sC σ i))).toInt64)) * 31) + ((nI (len σ i)).toInt64)) * 31) + ((sL σ i).toInt64))), (6, .int 9), (5, .ref q_a), (4, .ref q_a), (3, .int (nI i)), (0, .ref (gM g))]) (pc := 163) hx hb dX2_digest_163 hl (by decide) rfl (fun ls hl => ?_)
                refine lv_lload_n (pc := 165) hx hb dX2_digest_165 rfl (lv_at hl 2 rfl) ?_
                refine lv_ldc2 (pc := 166) (v := 31) hx hb hown (hts (.constantLong RX2 144 31) (by decide +kernel)) dX2_digest_166 ?_
                refine lv_lmul (pc := 169) hx hb dX2_digest_169 ?_
                refine lv_iload (pc := 170) hx hb dX2_digest_170 (lv_at hl 0 rfl) ?_
                refine lv_i2l (pc := 172) hx hb dX2_digest_172 rfl ?_
                refine lv_ladd (pc := 173) hx hb dX2_digest_173 ?_
                refine lv_lstore_n (lv' := [(1, .long ((((((((((((y * 31) + ((nI (sC σ i)).toInt64)) * 31) + ((nI (cnt (isNt σ i) (sC σ i))).toInt64)) * 31) + ((nI (cnt (isLg σ i) (sC σ i))).toInt64)) * 31) + ((nI (len σ i)).toInt64)) * 31) + ((sL σ i).toInt64)) * 31) + ((nI (fct σ i)).toInt64))), (8, .int (nI (fct σ i))), (7, .int 5), (6, .int 9), (5, .ref q_a), (4, .ref q_a), (3, .int (nI i)), (0, .ref (gM g))]) (pc := 174) hx hb dX2_digest_174 rfl hl (by decide) rfl (fun ls hl => ?_)
                refine lv_iinc (v := 6) (lv' := [(7, .int 6), (1, .long ((((((((((((y * 31) + ((nI (sC σ i)).toInt64)) * 31) + ((nI (cnt (isNt σ i) (sC σ i))).toInt64)) * 31) + ((nI (cnt (isLg σ i) (sC σ i))).toInt64)) * 31) + ((nI (len σ i)).toInt64)) * 31) + ((sL σ i).toInt64)) * 31) + ((nI (fct σ i)).toInt64))), (8, .int (nI (fct σ i))), (6, .int 9), (5, .ref q_a), (4, .ref q_a), (3, .int (nI i)), (0, .ref (gM g))]) (pc := 175) hx hb dX2_digest_175 hl (k := 2) rfl (by decide) (by decide) rfl (fun ls hl => ?_)
                refine lv_goto (tgt := 151) (pc := 178) hx hb dX2_digest_178 (by decide) ?_
                refine lv_iload (pc := 151) hx hb dX2_digest_151 (lv_at hl 0 rfl) ?_
                refine lv_iload (pc := 153) hx hb dX2_digest_153 (lv_at hl 3 rfl) ?_
                refine lv_icmp_ge (tgt := 181) (pc := 155) hx hb dX2_digest_155 (by decide) (fun c_22 => ?_) (fun c_22 => ?_)
                · exact absurd c_22 (by decide)
                · refine lv_aload (pc := 158) hx hb dX2_digest_158 (lv_at hl 4 rfl) ?_
                  refine lv_iload (pc := 160) hx hb dX2_digest_160 (lv_at hl 0 rfl) ?_
                  refine k_iald (pc := 162) (x := bcl σ i) hx hb hK hP (10 + rest.length) 0 (dg_at _ _ _ 10 rfl) rfl 6 rfl (by decide) (by decide) rfl dX2_digest_162 ?_
                  refine lv_istore (lv' := [(8, .int (bcl σ i)), (7, .int 6), (1, .long ((((((((((((y * 31) + ((nI (sC σ i)).toInt64)) * 31) + ((nI (cnt (isNt σ i) (sC σ i))).toInt64)) * 31) + ((nI (cnt (isLg σ i) (sC σ i))).toInt64)) * 31) + ((nI (len σ i)).toInt64)) * 31) + ((sL σ i).toInt64)) * 31) + ((nI (fct σ i)).toInt64))), (6, .int 9), (5, .ref q_a), (4, .ref q_a), (3, .int (nI i)), (0, .ref (gM g))]) (pc := 163) hx hb dX2_digest_163 hl (by decide) rfl (fun ls hl => ?_)
                  refine lv_lload_n (pc := 165) hx hb dX2_digest_165 rfl (lv_at hl 2 rfl) ?_
                  refine lv_ldc2 (pc := 166) (v := 31) hx hb hown (hts (.constantLong RX2 144 31) (by decide +kernel)) dX2_digest_166 ?_
                  refine lv_lmul (pc := 169) hx hb dX2_digest_169 ?_
                  refine lv_iload (pc := 170) hx hb dX2_digest_170 (lv_at hl 0 rfl) ?_
                  refine lv_i2l (pc := 172) hx hb dX2_digest_172 rfl ?_
                  refine lv_ladd (pc := 173) hx hb dX2_digest_173 ?_
                  refine lv_lstore_n (lv' := [(1, .long ((((((((((((((y * 31) + ((nI (sC σ i)).toInt64)) * 31) + ((nI (cnt (isNt σ i) (sC σ i))).toInt64)) * 31) + ((nI (cnt (isLg σ i) (sC σ i))).toInt64)) * 31) + ((nI (len σ i)).toInt64)) * 31) + ((sL σ i).toInt64)) * 31) + ((nI (fct σ i)).toInt64)) * 31) + ((bcl σ i).toInt64))), (8, .int (bcl σ i)), (7, .int 6), (6, .int 9), (5, .ref q_a), (4, .ref q_a), (3, .int (nI i)), (0, .ref (gM g))]) (pc := 174) hx hb dX2_digest_174 rfl hl (by decide) rfl (fun ls hl => ?_)
                  refine lv_iinc (v := 7) (lv' := [(7, .int 7), (1, .long ((((((((((((((y * 31) + ((nI (sC σ i)).toInt64)) * 31) + ((nI (cnt (isNt σ i) (sC σ i))).toInt64)) * 31) + ((nI (cnt (isLg σ i) (sC σ i))).toInt64)) * 31) + ((nI (len σ i)).toInt64)) * 31) + ((sL σ i).toInt64)) * 31) + ((nI (fct σ i)).toInt64)) * 31) + ((bcl σ i).toInt64))), (8, .int (bcl σ i)), (6, .int 9), (5, .ref q_a), (4, .ref q_a), (3, .int (nI i)), (0, .ref (gM g))]) (pc := 175) hx hb dX2_digest_175 hl (k := 2) rfl (by decide) (by decide) rfl (fun ls hl => ?_)
                  refine lv_goto (tgt := 151) (pc := 178) hx hb dX2_digest_178 (by decide) ?_
                  refine lv_iload (pc := 151) hx hb dX2_digest_151 (lv_at hl 0 rfl) ?_
                  refine lv_iload (pc := 153) hx hb dX2_digest_153 (lv_at hl 3 rfl) ?_
                  refine lv_icmp_ge (tgt := 181) (pc := 155) hx hb dX2_digest_155 (by decide) (fun c_23 => ?_) (fun c_23 => ?_)
                  · exact absurd c_23 (by decide)
                  · refine lv_aload (pc := 158) hx hb dX2_digest_158 (lv_at hl 4 rfl) ?_
                    refine lv_iload (pc := 160) hx hb dX2_digest_160 (lv_at hl 0 rfl) ?_
                    refine k_iald (pc := 162) (x := nI (clN σ i i 4 0)) hx hb hK hP (10 + rest.length) 0 (dg_at _ _ _ 10 rfl) rfl 7 rfl (by decide) (by decide) rfl dX2_digest_162 ?_
                    refine lv_istore (lv' := [(8, .int (nI (clN σ i i 4 0))), (7, .int 7), (1, .long ((((((((((((((y * 31) + ((nI (sC σ i)).toInt64)) * 31) + ((nI (cnt (isNt σ i) (sC σ i))).toInt64)) * 31) + ((nI (cnt (isLg σ i) (sC σ i))).toInt64)) * 31) + ((nI (len σ i)).toInt64)) * 31) + ((sL σ i).toInt64)) * 31) + ((nI (fct σ i)).toInt64)) * 31) + ((bcl σ i).toInt64))), (6, .int 9), (5, .ref q_a), (4, .ref q_a), (3, .int (nI i)), (0, .ref (gM g))]) (pc := 163) hx hb dX2_digest_163 hl (by decide) rfl (fun ls hl => ?_)
                    refine lv_lload_n (pc := 165) hx hb dX2_digest_165 rfl (lv_at hl 2 rfl) ?_
                    refine lv_ldc2 (pc := 166) (v := 31) hx hb hown (hts (.constantLong RX2 144 31) (by decide +kernel)) dX2_digest_166 ?_
                    refine lv_lmul (pc := 169) hx hb dX2_digest_169 ?_
                    refine lv_iload (pc := 170) hx hb dX2_digest_170 (lv_at hl 0 rfl) ?_
                    refine lv_i2l (pc := 172) hx hb dX2_digest_172 rfl ?_
                    refine lv_ladd (pc := 173) hx hb dX2_digest_173 ?_
                    refine lv_lstore_n (lv' := [(1, .long ((((((((((((((((y * 31) + ((nI (sC σ i)).toInt64)) * 31) + ((nI (cnt (isNt σ i) (sC σ i))).toInt64)) * 31) + ((nI (cnt (isLg σ i) (sC σ i))).toInt64)) * 31) + ((nI (len σ i)).toInt64)) * 31) + ((sL σ i).toInt64)) * 31) + ((nI (fct σ i)).toInt64)) * 31) + ((bcl σ i).toInt64)) * 31) + ((nI (clN σ i i 4 0)).toInt64))), (8, .int (nI (clN σ i i 4 0))), (7, .int 7), (6, .int 9), (5, .ref q_a), (4, .ref q_a), (3, .int (nI i)), (0, .ref (gM g))]) (pc := 174) hx hb dX2_digest_174 rfl hl (by decide) rfl (fun ls hl => ?_)
                    refine lv_iinc (v := 8) (lv' := [(7, .int 8), (1, .long ((((((((((((((((y * 31) + ((nI (sC σ i)).toInt64)) * 31) + ((nI (cnt (isNt σ i) (sC σ i))).toInt64)) * 31) + ((nI (cnt (isLg σ i) (sC σ i))).toInt64)) * 31) + ((nI (len σ i)).toInt64)) * 31) + ((sL σ i).toInt64)) * 31) + ((nI (fct σ i)).toInt64)) * 31) + ((bcl σ i).toInt64)) * 31) + ((nI (clN σ i i 4 0)).toInt64))), (8, .int (nI (clN σ i i 4 0))), (6, .int 9), (5, .ref q_a), (4, .ref q_a), (3, .int (nI i)), (0, .ref (gM g))]) (pc := 175) hx hb dX2_digest_175 hl (k := 2) rfl (by decide) (by decide) rfl (fun ls hl => ?_)
                    refine lv_goto (tgt := 151) (pc := 178) hx hb dX2_digest_178 (by decide) ?_
                    refine lv_iload (pc := 151) hx hb dX2_digest_151 (lv_at hl 0 rfl) ?_
                    refine lv_iload (pc := 153) hx hb dX2_digest_153 (lv_at hl 3 rfl) ?_
                    refine lv_icmp_ge (tgt := 181) (pc := 155) hx hb dX2_digest_155 (by decide) (fun c_24 => ?_) (fun c_24 => ?_)
                    · exact absurd c_24 (by decide)
                    · refine lv_aload (pc := 158) hx hb dX2_digest_158 (lv_at hl 4 rfl) ?_
                      refine lv_iload (pc := 160) hx hb dX2_digest_160 (lv_at hl 0 rfl) ?_
                      refine k_iald (pc := 162) (x := bdl σ i 4) hx hb hK hP (10 + rest.length) 0 (dg_at _ _ _ 10 rfl) rfl 8 rfl (by decide) (by decide) rfl dX2_digest_162 ?_
                      refine lv_istore (lv' := [(8, .int (bdl σ i 4)), (7, .int 8), (1, .long ((((((((((((((((y * 31) + ((nI (sC σ i)).toInt64)) * 31) + ((nI (cnt (isNt σ i) (sC σ i))).toInt64)) * 31) + ((nI (cnt (isLg σ i) (sC σ i))).toInt64)) * 31) + ((nI (len σ i)).toInt64)) * 31) + ((sL σ i).toInt64)) * 31) + ((nI (fct σ i)).toInt64)) * 31) + ((bcl σ i).toInt64)) * 31) + ((nI (clN σ i i 4 0)).toInt64))), (6, .int 9), (5, .ref q_a), (4, .ref q_a), (3, .int (nI i)), (0, .ref (gM g))]) (pc := 163) hx hb dX2_digest_163 hl (by decide) rfl (fun ls hl => ?_)
                      refine lv_lload_n (pc := 165) hx hb dX2_digest_165 rfl (lv_at hl 2 rfl) ?_
                      refine lv_ldc2 (pc := 166) (v := 31) hx hb hown (hts (.constantLong RX2 144 31) (by decide +kernel)) dX2_digest_166 ?_
                      refine lv_lmul (pc := 169) hx hb dX2_digest_169 ?_
                      refine lv_iload (pc := 170) hx hb dX2_digest_170 (lv_at hl 0 rfl) ?_
                      refine lv_i2l (pc := 172) hx hb dX2_digest_172 rfl ?_
                      refine lv_ladd (pc := 173) hx hb dX2_digest_173 ?_
                      refine lv_lstore_n (lv' := [(1, .long ((((((((((((((((((y * 31) + ((nI (sC σ i)).toInt64)) * 31) + ((nI (cnt (isNt σ i) (sC σ i))).toInt64)) * 31) + ((nI (cnt (isLg σ i) (sC σ i))).toInt64)) * 31) + ((nI (len σ i)).toInt64)) * 31) + ((sL σ i).toInt64)) * 31) + ((nI (fct σ i)).toInt64)) * 31) + ((bcl σ i).toInt64)) * 31) + ((nI (clN σ i i 4 0)).toInt64)) * 31) + ((bdl σ i 4).toInt64))), (8, .int (bdl σ i 4)), (7, .int 8), (6, .int 9), (5, .ref q_a), (4, .ref q_a), (3, .int (nI i)), (0, .ref (gM g))]) (pc := 174) hx hb dX2_digest_174 rfl hl (by decide) rfl (fun ls hl => ?_)
                      refine lv_iinc (v := 9) (lv' := [(7, .int 9), (1, .long ((((((((((((((((((y * 31) + ((nI (sC σ i)).toInt64)) * 31) + ((nI (cnt (isNt σ i) (sC σ i))).toInt64)) * 31) + ((nI (cnt (isLg σ i) (sC σ i))).toInt64)) * 31) + ((nI (len σ i)).toInt64)) * 31) + ((sL σ i).toInt64)) * 31) + ((nI (fct σ i)).toInt64)) * 31) + ((bcl σ i).toInt64)) * 31) + ((nI (clN σ i i 4 0)).toInt64)) * 31) + ((bdl σ i 4).toInt64))), (8, .int (bdl σ i 4)), (6, .int 9), (5, .ref q_a), (4, .ref q_a), (3, .int (nI i)), (0, .ref (gM g))]) (pc := 175) hx hb dX2_digest_175 hl (k := 2) rfl (by decide) (by decide) rfl (fun ls hl => ?_)
                      refine lv_goto (tgt := 151) (pc := 178) hx hb dX2_digest_178 (by decide) ?_
                      refine lv_iload (pc := 151) hx hb dX2_digest_151 (lv_at hl 0 rfl) ?_
                      refine lv_iload (pc := 153) hx hb dX2_digest_153 (lv_at hl 3 rfl) ?_
                      refine lv_icmp_ge (tgt := 181) (pc := 155) hx hb dX2_digest_155 (by decide) (fun c_25 => ?_) (fun c_25 => ?_)
                      · have hP : va_P (gD g) vwCl (mw g σ 0 u15.1 u15.2 ++ rest) H_a9 := kP_dropr hP
                        have hD : va_D A (mw g σ 0 u15.1 u15.2 ++ rest) := kD_dropr hD
                        refine lv_iconst (v := 0) (pc := 181) hx hb dX2_digest_181 (by decide) ?_
                        refine lv_istore (lv' := [(5, .int 0), (7, .int 9), (1, .long ((((((((((((((((((y * 31) + ((nI (sC σ i)).toInt64)) * 31) + ((nI (cnt (isNt σ i) (sC σ i))).toInt64)) * 31) + ((nI (cnt (isLg σ i) (sC σ i))).toInt64)) * 31) + ((nI (len σ i)).toInt64)) * 31) + ((sL σ i).toInt64)) * 31) + ((nI (fct σ i)).toInt64)) * 31) + ((bcl σ i).toInt64)) * 31) + ((nI (clN σ i i 4 0)).toInt64)) * 31) + ((bdl σ i 4).toInt64))), (8, .int (bdl σ i 4)), (6, .int 9), (4, .ref q_a), (3, .int (nI i)), (0, .ref (gM g))]) (pc := 182) hx hb dX2_digest_182 hl (by decide) rfl (fun ls hl => ?_)
                        refine W.widen (k := 25 * i + 1 + 0) (n := 129 * i + 9 + 5 * 0) (by omega) (by omega) ?_
                        refine k_loopC (pc := 184) (nL := 12) (fun a9 : Nat × Int64 => match a9 with | ⟨j, z⟩ => j ≤ sC σ i ∧ z = dgSs σ i (mxl y (dgV σ i)) j) (fun a9 : Nat × Int64 => match a9 with | ⟨j, z⟩ => sC σ i - j) (fun a9 : Nat × Int64 => match a9 with | ⟨j, z⟩ => [(5, .int (nI j)), (1, .long z), (3, .int (nI i)), (0, .ref (gM g))]) (fun a9 : Nat × Int64 => match a9 with | ⟨j, z⟩ => mw g σ 0 u15.1 u15.2 ++ rest) (fun a9 : Nat × Int64 => match a9 with | ⟨j, z⟩ => 25 * i + 1 + j) (fun a9 : Nat × Int64 => match a9 with | ⟨j, z⟩ => 129 * i + 9 + 5 * j) (fun a9 hJ ih_184 H_184 locs_184 ls hP hD hS hl => ?_) (0, _) ⟨Nat.zero_le _, rfl⟩ hP hD hS (lv_sub hl [0, 2, 6, 7] rfl)
                        obtain ⟨j, z⟩ := a9
                        obtain ⟨hi_184, hy_184⟩ := hJ
                        have hP : va_P (gD g) vwCl (mw g σ 0 u15.1 u15.2 ++ rest) H_184 := hP
                        have hD : va_D A (mw g σ 0 u15.1 u15.2 ++ rest) := hD
                        have hl : lv_has ls 12 [(5, .int (nI j)), (1, .long z), (3, .int (nI i)), (0, .ref (gM g))] := hl
                        show W p l e _ s m _ below meth c H_184 locs_184 (25 * i + 1 + j) (129 * i + 9 + 5 * j) _ _
                        refine lv_iload (pc := 184) hx hb dX2_digest_184 (lv_at hl 0 rfl) ?_
                        refine lv_aload_n (pc := 186) hx hb dX2_digest_186 rfl (lv_at hl 3 rfl) ?_
                        refine va_get (v := .ref (gB g 0)) (pc := 187) (D := gD g) (ci := 2) (C := RX2) (T := TX2) (N := 11) hx hb hts hinX2 hown hK hP 0 (ma0 g σ 0 u15.1 u15.2 rest) rfl 2 (by decide) (hts (.fieldLink RX2 9 "ChoirNotesModel" "many" "[I") (by decide +kernel)) (fun _ h9 => h9) rfl dX2_digest_187 ?_
                        refine lv_iload_n (pc := 190) hx hb dX2_digest_190 rfl (lv_at hl 2 rfl) ?_
                        refine k_iald (pc := 191) (x := nI (sC σ i)) hx hb hK hP 1 0 (ma1 g σ 0 u15.1 u15.2 rest) rfl i rfl (by omega) (by decide) rfl dX2_digest_191 ?_
                        refine lv_icmp_ge (tgt := 307) (pc := 192) hx hb dX2_digest_192 (by decide) (fun c2 => ?_) (fun c2 => ?_)
                        · have c2 : sC σ i ≤ j := (nI_leI (a := sC σ i) (b := j) (by omega) (by omega)).mp c2
                          refine lv_iinc (v := nI (i + 1)) (lv' := [(3, .int (nI (i + 1))), (5, .int (nI j)), (1, .long z), (0, .ref (gM g))]) (pc := 307) hx hb dX2_digest_307 hl (k := 2) rfl (nI_1 _) (by decide) rfl (fun ls hl => ?_)
                          refine lv_goto (tgt := 35) (pc := 310) hx hb dX2_digest_310 (by decide) ?_
                          refine W.widen (k := 25 * (i + 1)) (n := 129 * (i + 1)) (by omega) (by omega) ?_
                          exact ih_35 (i + 1, z, u15.1, u15.2) ⟨by omega, by rw [hy_184, show j = sC σ i by omega, hy_35]; rfl⟩ (by show _ - _ < _ - _; omega) _ _ _ hP hD hS (lv_sub hl [0, 2, 3] rfl)
                        · have c2 : ¬ (sC σ i ≤ j) := fun z => c2 ((nI_leI (a := sC σ i) (b := j) (by omega) (by omega)).mpr z)
                          refine lv_bipush (v := 24) (pc := 195) hx hb dX2_digest_195 (by decide) ?_
                          refine lv_iload_n (pc := 197) hx hb dX2_digest_197 rfl (lv_at hl 2 rfl) ?_
                          refine lv_imul (pc := 198) hx hb dX2_digest_198 ?_
                          refine k_cong (y := nI (24 * i)) (pk_mul 24 i) ?_
                          refine lv_iload (pc := 199) hx hb dX2_digest_199 (lv_at hl 0 rfl) ?_
                          refine lv_iadd (pc := 201) hx hb dX2_digest_201 ?_
                          refine k_cong (y := nI (24 * i + j)) (nI_add (24 * i) j) ?_
                          refine lv_istore (lv' := [(6, .int (nI (24 * i + j))), (5, .int (nI j)), (1, .long z), (3, .int (nI i)), (0, .ref (gM g))]) (pc := 202) hx hb dX2_digest_202 hl (by decide) rfl (fun ls hl => ?_)
                          refine lv_iconst (v := 5) (pc := 204) hx hb dX2_digest_204 (by decide) ?_
                          refine k_newa (pc := 205) (atype := .int) (ty := .int) (N' := 5) (a0 := (5, .inl (fun _ => 0))) hx hb (hts (.arrayClass .int) (by decide +kernel)) rfl hK hP hD hS hA 0 rfl (fun _ => rfl) (by decide) (by decide) (by decide) (by show _ ≤ 100; omega) (by show _ ≤ 516; omega) dX2_digest_205 (fun q_b H_b hP hD hS => ?_)
                          have hP : va_P (gD g) vwCl (mw g σ 0 u15.1 u15.2 ++ (rest ++ [(q_b, .inl (gI g, 5, .inl (fun _ => 0)))])) H_b := by rw [← List.append_assoc]; exact hP
                          have hD : va_D A (mw g σ 0 u15.1 u15.2 ++ (rest ++ [(q_b, .inl (gI g, 5, .inl (fun _ => 0)))])) := by rw [← List.append_assoc]; exact hD
                          refine lv_dup (pc := 207) hx hb dX2_digest_207 rfl ?_
                          refine lv_iconst (v := 0) (pc := 208) hx hb dX2_digest_208 (by decide) ?_
                          refine lv_aload_n (pc := 209) hx hb dX2_digest_209 rfl (lv_at hl 4 rfl) ?_
                          refine va_get (v := .ref (gB g 3)) (pc := 210) (D := gD g) (ci := 2) (C := RX2) (T := TX2) (N := 11) hx hb hts hinX2 hown hK hP 0 (ma0 g σ 0 u15.1 u15.2 (rest ++ [(q_b, .inl (gI g, 5, .inl (fun _ => 0)))])) rfl 5 (by decide) (hts (.fieldLink RX2 19 "ChoirNotesModel" "kind" "[I") (by decide +kernel)) (fun _ h9 => h9) rfl dX2_digest_210 ?_
                          refine lv_iload (pc := 213) hx hb dX2_digest_213 (lv_at hl 0 rfl) ?_
                          refine k_iald (pc := 215) (x := nI (sK σ i j)) hx hb hK hP 4 0 (ma4 g σ 0 u15.1 u15.2 (rest ++ [(q_b, .inl (gI g, 5, .inl (fun _ => 0)))])) rfl (24 * i + j) rfl (by omega) (by decide) (a24 (fun a b => nI (sK σ a b)) (by omega)) dX2_digest_215 ?_
                          refine k_iast (pc := 216) (ws' := mw g σ 0 u15.1 u15.2 ++ (rest ++ [(q_b, .inl (gI g, 5, .inl (upd (fun _ => 0) 0 (nI (sK σ i j)))))])) hx hb hK hP hD hS (10 + rest.length) 0 (dg_at _ _ _ 10 rfl) rfl 0 rfl (by decide) (by decide) (dg_set _ _ _ _ 10 rfl) dX2_digest_216 (fun H_b1 locs_b1 hP hD hS => ?_)
                          refine lv_dup (pc := 217) hx hb dX2_digest_217 rfl ?_
                          refine lv_iconst (v := 1) (pc := 218) hx hb dX2_digest_218 (by decide) ?_
                          refine lv_aload_n (pc := 219) hx hb dX2_digest_219 rfl (lv_at hl 4 rfl) ?_
                          refine va_get (v := .ref (gB g 4)) (pc := 220) (D := gD g) (ci := 2) (C := RX2) (T := TX2) (N := 11) hx hb hts hinX2 hown hK hP 0 (ma0 g σ 0 u15.1 u15.2 (rest ++ [(q_b, .inl (gI g, 5, .inl (upd (fun _ => 0) 0 (nI (sK σ i j)))))])) rfl 6 (by decide) (hts (.fieldLink RX2 22 "ChoirNotesModel" "place" "[I") (by decide +kernel)) (fun _ h9 => h9) rfl dX2_digest_220 ?_
                          refine lv_iload (pc := 223) hx hb dX2_digest_223 (lv_at hl 0 rfl) ?_
                          refine k_iald (pc := 225) (x := sP σ i j) hx hb hK hP 5 0 (ma5 g σ 0 u15.1 u15.2 (rest ++ [(q_b, .inl (gI g, 5, .inl (upd (fun _ => 0) 0 (nI (sK σ i j)))))])) rfl (24 * i + j) rfl (by omega) (by decide) (a24 (sP σ) (by omega)) dX2_digest_225 ?_
                          refine k_iast (pc := 226) (ws' := mw g σ 0 u15.1 u15.2 ++ (rest ++ [(q_b, .inl (gI g, 5, .inl (upd (upd (fun _ => 0) 0 (nI (sK σ i j))) 1 (sP σ i j))))])) hx hb hK hP hD hS (10 + rest.length) 0 (dg_at _ _ _ 10 rfl) rfl 1 rfl (by decide) (by decide) (dg_set _ _ _ _ 10 rfl) dX2_digest_226 (fun H_b2 locs_b2 hP hD hS => ?_)
                          refine lv_dup (pc := 227) hx hb dX2_digest_227 rfl ?_
                          refine lv_iconst (v := 2) (pc := 228) hx hb dX2_digest_228 (by decide) ?_
                          refine lv_aload_n (pc := 229) hx hb dX2_digest_229 rfl (lv_at hl 4 rfl) ?_
                          refine va_get (v := .ref (gB g 6)) (pc := 230) (D := gD g) (ci := 2) (C := RX2) (T := TX2) (N := 11) hx hb hts hinX2 hown hK hP 0 (ma0 g σ 0 u15.1 u15.2 (rest ++ [(q_b, .inl (gI g, 5, .inl (upd (upd (fun _ => 0) 0 (nI (sK σ i j))) 1 (sP σ i j))))])) rfl 8 (by decide) (hts (.fieldLink RX2 29 "ChoirNotesModel" "tied" "[I") (by decide +kernel)) (fun _ h9 => h9) rfl dX2_digest_230 ?_
                          refine lv_iload (pc := 233) hx hb dX2_digest_233 (lv_at hl 0 rfl) ?_
                          refine k_iald (pc := 235) (x := sT σ i j) hx hb hK hP 7 0 (ma7 g σ 0 u15.1 u15.2 (rest ++ [(q_b, .inl (gI g, 5, .inl (upd (upd (fun _ => 0) 0 (nI (sK σ i j))) 1 (sP σ i j))))])) rfl (24 * i + j) rfl (by omega) (by decide) (a24 (sT σ) (by omega)) dX2_digest_235 ?_
                          refine k_iast (pc := 236) (ws' := mw g σ 0 u15.1 u15.2 ++ (rest ++ [(q_b, .inl (gI g, 5, .inl (upd (upd (upd (fun _ => 0) 0 (nI (sK σ i j))) 1 (sP σ i j)) 2 (sT σ i j))))])) hx hb hK hP hD hS (10 + rest.length) 0 (dg_at _ _ _ 10 rfl) rfl 2 rfl (by decide) (by decide) (dg_set _ _ _ _ 10 rfl) dX2_digest_236 (fun H_b3 locs_b3 hP hD hS => ?_)
                          refine lv_dup (pc := 237) hx hb dX2_digest_237 rfl ?_
                          refine lv_iconst (v := 3) (pc := 238) hx hb dX2_digest_238 (by decide) ?_
                          refine lv_aload_n (pc := 239) hx hb dX2_digest_239 rfl (lv_at hl 4 rfl) ?_
                          refine lv_iload_n (pc := 240) hx hb dX2_digest_240 rfl (lv_at hl 3 rfl) ?_
                          refine lv_iload (pc := 241) hx hb dX2_digest_241 (lv_at hl 1 rfl) ?_
                          refine k_ri (pc := 243) (va_runV (As := [.int (nI i), .int (nI j)]) (rest := [.int 3, .ref q_b, .ref q_b]) ⟨hx, hb, hml, hown, hts⟩ (cX2_lasts_m l g A σ (rest ++ [(q_b, .inl (gI g, 5, .inl (upd (upd (upd (fun _ => 0) 0 (nI (sK σ i j))) 1 (sP σ i j)) 2 (sT σ i j))))]) 0 u15.1 u15.2 i j hi4 (by omega) hI) (cwV 2 hts gX2_digest_X2_lasts rfl rfl rfl (by decide +kernel) ⟨Nat.le_of_ble_eq_true rfl, Nat.le_of_ble_eq_true rfl⟩) (cx_V (q0 := 0) (ci := 2) (r := (RX2, TX2, 11)) rfl (ma0 g σ 0 u15.1 u15.2 (rest ++ [(q_b, .inl (gI g, 5, .inl (upd (upd (upd (fun _ => 0) 0 (nI (sK σ i j))) 1 (sP σ i j)) 2 (sT σ i j))))])) hP hD hA hK hX hS) rfl rfl hl.1 rfl (lv_room (Nat.le_of_ble_eq_true rfl)) dX2_digest_243 ⟨by show _ ≤ 100; omega, by show _ ≤ 516; omega⟩) (fun r_28 hr_28 => ?_)
                          subst hr_28
                          refine k_iast (pc := 246) (ws' := mw g σ 0 u15.1 u15.2 ++ (rest ++ [(q_b, .inl (gI g, 5, .inl (upd (upd (upd (upd (fun _ => 0) 0 (nI (sK σ i j))) 1 (sP σ i j)) 2 (sT σ i j)) 3 (nI (lg σ i j)))))])) hx hb hK hP hD hS (10 + rest.length) 0 (dg_at _ _ _ 10 rfl) rfl 3 rfl (by decide) (by decide) (dg_set _ _ _ _ 10 rfl) dX2_digest_246 (fun H_b4 locs_b4 hP hD hS => ?_)
                          refine lv_dup (pc := 247) hx hb dX2_digest_247 rfl ?_
                          refine lv_iconst (v := 4) (pc := 248) hx hb dX2_digest_248 (by decide) ?_
                          refine lv_aload_n (pc := 249) hx hb dX2_digest_249 rfl (lv_at hl 4 rfl) ?_
                          refine lv_iload_n (pc := 250) hx hb dX2_digest_250 rfl (lv_at hl 3 rfl) ?_
                          refine lv_iload (pc := 251) hx hb dX2_digest_251 (lv_at hl 1 rfl) ?_
                          refine k_ri (pc := 253) (va_runV (As := [.int (nI i), .int (nI j)]) (rest := [.int 4, .ref q_b, .ref q_b]) ⟨hx, hb, hml, hown, hts⟩ (cX2_begins_m l g A σ (rest ++ [(q_b, .inl (gI g, 5, .inl (upd (upd (upd (upd (fun _ => 0) 0 (nI (sK σ i j))) 1 (sP σ i j)) 2 (sT σ i j)) 3 (nI (lg σ i j)))))]) 0 u15.1 u15.2 i j hi4 (by omega) hI) (cwV 2 hts gX2_digest_X2_begins rfl rfl rfl (by decide +kernel) ⟨Nat.le_of_ble_eq_true rfl, Nat.le_of_ble_eq_true rfl⟩) (cx_V (q0 := 0) (ci := 2) (r := (RX2, TX2, 11)) rfl (ma0 g σ 0 u15.1 u15.2 (rest ++ [(q_b, .inl (gI g, 5, .inl (upd (upd (upd (upd (fun _ => 0) 0 (nI (sK σ i j))) 1 (sP σ i j)) 2 (sT σ i j)) 3 (nI (lg σ i j)))))])) hP hD hA hK hX hS) rfl rfl hl.1 rfl (lv_room (Nat.le_of_ble_eq_true rfl)) dX2_digest_253 ⟨by show _ ≤ 100; omega, by show _ ≤ 516; omega⟩) (fun r_29 hr_29 => ?_)
                          subst hr_29
                          refine k_iast (pc := 256) (ws' := mw g σ 0 u15.1 u15.2 ++ (rest ++ [(q_b, .inl (gI g, 5, .inl (upd (upd (upd (upd (upd (fun _ => 0) 0 (nI (sK σ i j))) 1 (sP σ i j)) 2 (sT σ i j)) 3 (nI (lg σ i j))) 4 (nI (bg σ i j)))))])) hx hb hK hP hD hS (10 + rest.length) 0 (dg_at _ _ _ 10 rfl) rfl 4 rfl (by decide) (by decide) (dg_set _ _ _ _ 10 rfl) dX2_digest_256 (fun H_b5 locs_b5 hP hD hS => ?_)
                          refine lv_astore (lv' := [(7, .ref q_b), (6, .int (nI (24 * i + j))), (5, .int (nI j)), (1, .long z), (3, .int (nI i)), (0, .ref (gM g))]) (pc := 257) hx hb dX2_digest_257 hl (by decide) rfl (fun ls hl => ?_)
                          refine lv_aload (pc := 259) hx hb dX2_digest_259 (lv_at hl 0 rfl) ?_
                          refine lv_astore (lv' := [(8, .ref q_b), (7, .ref q_b), (6, .int (nI (24 * i + j))), (5, .int (nI j)), (1, .long z), (3, .int (nI i)), (0, .ref (gM g))]) (pc := 261) hx hb dX2_digest_261 hl (by decide) rfl (fun ls hl => ?_)
                          refine lv_aload (pc := 263) hx hb dX2_digest_263 (lv_at hl 0 rfl) ?_
                          refine va_alen (pc := 265) (v := 5) hx hb hK hP (10 + rest.length) 0 (dg_at _ _ _ 10 rfl) rfl rfl dX2_digest_265 ?_
                          refine lv_istore (lv' := [(9, .int 5), (8, .ref q_b), (7, .ref q_b), (6, .int (nI (24 * i + j))), (5, .int (nI j)), (1, .long z), (3, .int (nI i)), (0, .ref (gM g))]) (pc := 266) hx hb dX2_digest_266 hl (by decide) rfl (fun ls hl => ?_)
                          refine lv_iconst (v := 0) (pc := 268) hx hb dX2_digest_268 (by decide) ?_
                          refine lv_istore (lv' := [(10, .int 0), (9, .int 5), (8, .ref q_b), (7, .ref q_b), (6, .int (nI (24 * i + j))), (5, .int (nI j)), (1, .long z), (3, .int (nI i)), (0, .ref (gM g))]) (pc := 269) hx hb dX2_digest_269 hl (by decide) rfl (fun ls hl => ?_)
                          refine lv_iload (pc := 271) hx hb dX2_digest_271 (lv_at hl 0 rfl) ?_
                          refine lv_iload (pc := 273) hx hb dX2_digest_273 (lv_at hl 1 rfl) ?_
                          refine lv_icmp_ge (tgt := 301) (pc := 275) hx hb dX2_digest_275 (by decide) (fun c_30 => ?_) (fun c_30 => ?_)
                          · exact absurd c_30 (by decide)
                          · refine lv_aload (pc := 278) hx hb dX2_digest_278 (lv_at hl 2 rfl) ?_
                            refine lv_iload (pc := 280) hx hb dX2_digest_280 (lv_at hl 0 rfl) ?_
                            refine k_iald (pc := 282) (x := nI (sK σ i j)) hx hb hK hP (10 + rest.length) 0 (dg_at _ _ _ 10 rfl) rfl 0 rfl (by decide) (by decide) rfl dX2_digest_282 ?_
                            refine lv_istore (lv' := [(11, .int (nI (sK σ i j))), (10, .int 0), (9, .int 5), (8, .ref q_b), (7, .ref q_b), (6, .int (nI (24 * i + j))), (5, .int (nI j)), (1, .long z), (3, .int (nI i)), (0, .ref (gM g))]) (pc := 283) hx hb dX2_digest_283 hl (by decide) rfl (fun ls hl => ?_)
                            refine lv_lload_n (pc := 285) hx hb dX2_digest_285 rfl (lv_at hl 7 rfl) ?_
                            refine lv_ldc2 (pc := 286) (v := 31) hx hb hown (hts (.constantLong RX2 144 31) (by decide +kernel)) dX2_digest_286 ?_
                            refine lv_lmul (pc := 289) hx hb dX2_digest_289 ?_
                            refine lv_iload (pc := 290) hx hb dX2_digest_290 (lv_at hl 0 rfl) ?_
                            refine lv_i2l (pc := 292) hx hb dX2_digest_292 rfl ?_
                            refine lv_ladd (pc := 293) hx hb dX2_digest_293 ?_
                            refine lv_lstore_n (lv' := [(1, .long ((z * 31) + ((nI (sK σ i j)).toInt64))), (11, .int (nI (sK σ i j))), (10, .int 0), (9, .int 5), (8, .ref q_b), (7, .ref q_b), (6, .int (nI (24 * i + j))), (5, .int (nI j)), (3, .int (nI i)), (0, .ref (gM g))]) (pc := 294) hx hb dX2_digest_294 rfl hl (by decide) rfl (fun ls hl => ?_)
                            refine lv_iinc (v := 1) (lv' := [(10, .int 1), (1, .long ((z * 31) + ((nI (sK σ i j)).toInt64))), (11, .int (nI (sK σ i j))), (9, .int 5), (8, .ref q_b), (7, .ref q_b), (6, .int (nI (24 * i + j))), (5, .int (nI j)), (3, .int (nI i)), (0, .ref (gM g))]) (pc := 295) hx hb dX2_digest_295 hl (k := 2) rfl (by decide) (by decide) rfl (fun ls hl => ?_)
                            refine lv_goto (tgt := 271) (pc := 298) hx hb dX2_digest_298 (by decide) ?_
                            refine lv_iload (pc := 271) hx hb dX2_digest_271 (lv_at hl 0 rfl) ?_
                            refine lv_iload (pc := 273) hx hb dX2_digest_273 (lv_at hl 3 rfl) ?_
                            refine lv_icmp_ge (tgt := 301) (pc := 275) hx hb dX2_digest_275 (by decide) (fun c_31 => ?_) (fun c_31 => ?_)
                            · exact absurd c_31 (by decide)
                            · refine lv_aload (pc := 278) hx hb dX2_digest_278 (lv_at hl 4 rfl) ?_
                              refine lv_iload (pc := 280) hx hb dX2_digest_280 (lv_at hl 0 rfl) ?_
                              refine k_iald (pc := 282) (x := sP σ i j) hx hb hK hP (10 + rest.length) 0 (dg_at _ _ _ 10 rfl) rfl 1 rfl (by decide) (by decide) rfl dX2_digest_282 ?_
                              refine lv_istore (lv' := [(11, .int (sP σ i j)), (10, .int 1), (1, .long ((z * 31) + ((nI (sK σ i j)).toInt64))), (9, .int 5), (8, .ref q_b), (7, .ref q_b), (6, .int (nI (24 * i + j))), (5, .int (nI j)), (3, .int (nI i)), (0, .ref (gM g))]) (pc := 283) hx hb dX2_digest_283 hl (by decide) rfl (fun ls hl => ?_)
                              refine lv_lload_n (pc := 285) hx hb dX2_digest_285 rfl (lv_at hl 2 rfl) ?_
                              refine lv_ldc2 (pc := 286) (v := 31) hx hb hown (hts (.constantLong RX2 144 31) (by decide +kernel)) dX2_digest_286 ?_
                              refine lv_lmul (pc := 289) hx hb dX2_digest_289 ?_
                              refine lv_iload (pc := 290) hx hb dX2_digest_290 (lv_at hl 0 rfl) ?_
                              refine lv_i2l (pc := 292) hx hb dX2_digest_292 rfl ?_
                              refine lv_ladd (pc := 293) hx hb dX2_digest_293 ?_
                              refine lv_lstore_n (lv' := [(1, .long ((((z * 31) + ((nI (sK σ i j)).toInt64)) * 31) + ((sP σ i j).toInt64))), (11, .int (sP σ i j)), (10, .int 1), (9, .int 5), (8, .ref q_b), (7, .ref q_b), (6, .int (nI (24 * i + j))), (5, .int (nI j)), (3, .int (nI i)), (0, .ref (gM g))]) (pc := 294) hx hb dX2_digest_294 rfl hl (by decide) rfl (fun ls hl => ?_)
                              refine lv_iinc (v := 2) (lv' := [(10, .int 2), (1, .long ((((z * 31) + ((nI (sK σ i j)).toInt64)) * 31) + ((sP σ i j).toInt64))), (11, .int (sP σ i j)), (9, .int 5), (8, .ref q_b), (7, .ref q_b), (6, .int (nI (24 * i + j))), (5, .int (nI j)), (3, .int (nI i)), (0, .ref (gM g))]) (pc := 295) hx hb dX2_digest_295 hl (k := 2) rfl (by decide) (by decide) rfl (fun ls hl => ?_)
                              refine lv_goto (tgt := 271) (pc := 298) hx hb dX2_digest_298 (by decide) ?_
                              refine lv_iload (pc := 271) hx hb dX2_digest_271 (lv_at hl 0 rfl) ?_
                              refine lv_iload (pc := 273) hx hb dX2_digest_273 (lv_at hl 3 rfl) ?_
                              refine lv_icmp_ge (tgt := 301) (pc := 275) hx hb dX2_digest_275 (by decide) (fun c_32 => ?_) (fun c_32 => ?_)
                              · exact absurd c_32 (by decide)
                              · refine lv_aload (pc := 278) hx hb dX2_digest_278 (lv_at hl 4 rfl) ?_
                                refine lv_iload (pc := 280) hx hb dX2_digest_280 (lv_at hl 0 rfl) ?_
                                refine k_iald (pc := 282) (x := sT σ i j) hx hb hK hP (10 + rest.length) 0 (dg_at _ _ _ 10 rfl) rfl 2 rfl (by decide) (by decide) rfl dX2_digest_282 ?_
                                refine lv_istore (lv' := [(11, .int (sT σ i j)), (10, .int 2), (1, .long ((((z * 31) + ((nI (sK σ i j)).toInt64)) * 31) + ((sP σ i j).toInt64))), (9, .int 5), (8, .ref q_b), (7, .ref q_b), (6, .int (nI (24 * i + j))), (5, .int (nI j)), (3, .int (nI i)), (0, .ref (gM g))]) (pc := 283) hx hb dX2_digest_283 hl (by decide) rfl (fun ls hl => ?_)
                                refine lv_lload_n (pc := 285) hx hb dX2_digest_285 rfl (lv_at hl 2 rfl) ?_
                                refine lv_ldc2 (pc := 286) (v := 31) hx hb hown (hts (.constantLong RX2 144 31) (by decide +kernel)) dX2_digest_286 ?_
                                refine lv_lmul (pc := 289) hx hb dX2_digest_289 ?_
                                refine lv_iload (pc := 290) hx hb dX2_digest_290 (lv_at hl 0 rfl) ?_
                                refine lv_i2l (pc := 292) hx hb dX2_digest_292 rfl ?_
                                refine lv_ladd (pc := 293) hx hb dX2_digest_293 ?_
                                refine lv_lstore_n (lv' := [(1, .long ((((((z * 31) + ((nI (sK σ i j)).toInt64)) * 31) + ((sP σ i j).toInt64)) * 31) + ((sT σ i j).toInt64))), (11, .int (sT σ i j)), (10, .int 2), (9, .int 5), (8, .ref q_b), (7, .ref q_b), (6, .int (nI (24 * i + j))), (5, .int (nI j)), (3, .int (nI i)), (0, .ref (gM g))]) (pc := 294) hx hb dX2_digest_294 rfl hl (by decide) rfl (fun ls hl => ?_)
                                refine lv_iinc (v := 3) (lv' := [(10, .int 3), (1, .long ((((((z * 31) + ((nI (sK σ i j)).toInt64)) * 31) + ((sP σ i j).toInt64)) * 31) + ((sT σ i j).toInt64))), (11, .int (sT σ i j)), (9, .int 5), (8, .ref q_b), (7, .ref q_b), (6, .int (nI (24 * i + j))), (5, .int (nI j)), (3, .int (nI i)), (0, .ref (gM g))]) (pc := 295) hx hb dX2_digest_295 hl (k := 2) rfl (by decide) (by decide) rfl (fun ls hl => ?_)
                                refine lv_goto (tgt := 271) (pc := 298) hx hb dX2_digest_298 (by decide) ?_
                                refine lv_iload (pc := 271) hx hb dX2_digest_271 (lv_at hl 0 rfl) ?_
                                refine lv_iload (pc := 273) hx hb dX2_digest_273 (lv_at hl 3 rfl) ?_
                                refine lv_icmp_ge (tgt := 301) (pc := 275) hx hb dX2_digest_275 (by decide) (fun c_33 => ?_) (fun c_33 => ?_)
                                · exact absurd c_33 (by decide)
                                · refine lv_aload (pc := 278) hx hb dX2_digest_278 (lv_at hl 4 rfl) ?_
                                  refine lv_iload (pc := 280) hx hb dX2_digest_280 (lv_at hl 0 rfl) ?_
                                  refine k_iald (pc := 282) (x := nI (lg σ i j)) hx hb hK hP (10 + rest.length) 0 (dg_at _ _ _ 10 rfl) rfl 3 rfl (by decide) (by decide) rfl dX2_digest_282 ?_
                                  refine lv_istore (lv' := [(11, .int (nI (lg σ i j))), (10, .int 3), (1, .long ((((((z * 31) + ((nI (sK σ i j)).toInt64)) * 31) + ((sP σ i j).toInt64)) * 31) + ((sT σ i j).toInt64))), (9, .int 5), (8, .ref q_b), (7, .ref q_b), (6, .int (nI (24 * i + j))), (5, .int (nI j)), (3, .int (nI i)), (0, .ref (gM g))]) (pc := 283) hx hb dX2_digest_283 hl (by decide) rfl (fun ls hl => ?_)
                                  refine lv_lload_n (pc := 285) hx hb dX2_digest_285 rfl (lv_at hl 2 rfl) ?_
                                  refine lv_ldc2 (pc := 286) (v := 31) hx hb hown (hts (.constantLong RX2 144 31) (by decide +kernel)) dX2_digest_286 ?_
                                  refine lv_lmul (pc := 289) hx hb dX2_digest_289 ?_
                                  refine lv_iload (pc := 290) hx hb dX2_digest_290 (lv_at hl 0 rfl) ?_
                                  refine lv_i2l (pc := 292) hx hb dX2_digest_292 rfl ?_
                                  refine lv_ladd (pc := 293) hx hb dX2_digest_293 ?_
                                  refine lv_lstore_n (lv' := [(1, .long ((((((((z * 31) + ((nI (sK σ i j)).toInt64)) * 31) + ((sP σ i j).toInt64)) * 31) + ((sT σ i j).toInt64)) * 31) + ((nI (lg σ i j)).toInt64))), (11, .int (nI (lg σ i j))), (10, .int 3), (9, .int 5), (8, .ref q_b), (7, .ref q_b), (6, .int (nI (24 * i + j))), (5, .int (nI j)), (3, .int (nI i)), (0, .ref (gM g))]) (pc := 294) hx hb dX2_digest_294 rfl hl (by decide) rfl (fun ls hl => ?_)
                                  refine lv_iinc (v := 4) (lv' := [(10, .int 4), (1, .long ((((((((z * 31) + ((nI (sK σ i j)).toInt64)) * 31) + ((sP σ i j).toInt64)) * 31) + ((sT σ i j).toInt64)) * 31) + ((nI (lg σ i j)).toInt64))), (11, .int (nI (lg σ i j))), (9, .int 5), (8, .ref q_b), (7, .ref q_b), (6, .int (nI (24 * i + j))), (5, .int (nI j)), (3, .int (nI i)), (0, .ref (gM g))]) (pc := 295) hx hb dX2_digest_295 hl (k := 2) rfl (by decide) (by decide) rfl (fun ls hl => ?_)
                                  refine lv_goto (tgt := 271) (pc := 298) hx hb dX2_digest_298 (by decide) ?_
                                  refine lv_iload (pc := 271) hx hb dX2_digest_271 (lv_at hl 0 rfl) ?_
                                  refine lv_iload (pc := 273) hx hb dX2_digest_273 (lv_at hl 3 rfl) ?_
                                  refine lv_icmp_ge (tgt := 301) (pc := 275) hx hb dX2_digest_275 (by decide) (fun c_34 => ?_) (fun c_34 => ?_)
                                  · exact absurd c_34 (by decide)
                                  · refine lv_aload (pc := 278) hx hb dX2_digest_278 (lv_at hl 4 rfl) ?_
                                    refine lv_iload (pc := 280) hx hb dX2_digest_280 (lv_at hl 0 rfl) ?_
                                    refine k_iald (pc := 282) (x := nI (bg σ i j)) hx hb hK hP (10 + rest.length) 0 (dg_at _ _ _ 10 rfl) rfl 4 rfl (by decide) (by decide) rfl dX2_digest_282 ?_
                                    refine lv_istore (lv' := [(11, .int (nI (bg σ i j))), (10, .int 4), (1, .long ((((((((z * 31) + ((nI (sK σ i j)).toInt64)) * 31) + ((sP σ i j).toInt64)) * 31) + ((sT σ i j).toInt64)) * 31) + ((nI (lg σ i j)).toInt64))), (9, .int 5), (8, .ref q_b), (7, .ref q_b), (6, .int (nI (24 * i + j))), (5, .int (nI j)), (3, .int (nI i)), (0, .ref (gM g))]) (pc := 283) hx hb dX2_digest_283 hl (by decide) rfl (fun ls hl => ?_)
                                    refine lv_lload_n (pc := 285) hx hb dX2_digest_285 rfl (lv_at hl 2 rfl) ?_
                                    refine lv_ldc2 (pc := 286) (v := 31) hx hb hown (hts (.constantLong RX2 144 31) (by decide +kernel)) dX2_digest_286 ?_
                                    refine lv_lmul (pc := 289) hx hb dX2_digest_289 ?_
                                    refine lv_iload (pc := 290) hx hb dX2_digest_290 (lv_at hl 0 rfl) ?_
                                    refine lv_i2l (pc := 292) hx hb dX2_digest_292 rfl ?_
                                    refine lv_ladd (pc := 293) hx hb dX2_digest_293 ?_
                                    refine lv_lstore_n (lv' := [(1, .long ((((((((((z * 31) + ((nI (sK σ i j)).toInt64)) * 31) + ((sP σ i j).toInt64)) * 31) + ((sT σ i j).toInt64)) * 31) + ((nI (lg σ i j)).toInt64)) * 31) + ((nI (bg σ i j)).toInt64))), (11, .int (nI (bg σ i j))), (10, .int 4), (9, .int 5), (8, .ref q_b), (7, .ref q_b), (6, .int (nI (24 * i + j))), (5, .int (nI j)), (3, .int (nI i)), (0, .ref (gM g))]) (pc := 294) hx hb dX2_digest_294 rfl hl (by decide) rfl (fun ls hl => ?_)
                                    refine lv_iinc (v := 5) (lv' := [(10, .int 5), (1, .long ((((((((((z * 31) + ((nI (sK σ i j)).toInt64)) * 31) + ((sP σ i j).toInt64)) * 31) + ((sT σ i j).toInt64)) * 31) + ((nI (lg σ i j)).toInt64)) * 31) + ((nI (bg σ i j)).toInt64))), (11, .int (nI (bg σ i j))), (9, .int 5), (8, .ref q_b), (7, .ref q_b), (6, .int (nI (24 * i + j))), (5, .int (nI j)), (3, .int (nI i)), (0, .ref (gM g))]) (pc := 295) hx hb dX2_digest_295 hl (k := 2) rfl (by decide) (by decide) rfl (fun ls hl => ?_)
                                    refine lv_goto (tgt := 271) (pc := 298) hx hb dX2_digest_298 (by decide) ?_
                                    refine lv_iload (pc := 271) hx hb dX2_digest_271 (lv_at hl 0 rfl) ?_
                                    refine lv_iload (pc := 273) hx hb dX2_digest_273 (lv_at hl 3 rfl) ?_
                                    refine lv_icmp_ge (tgt := 301) (pc := 275) hx hb dX2_digest_275 (by decide) (fun c_35 => ?_) (fun c_35 => ?_)
                                    · have hP : va_P (gD g) vwCl (mw g σ 0 u15.1 u15.2 ++ rest) H_b5 := kP_dropr hP
                                      have hD : va_D A (mw g σ 0 u15.1 u15.2 ++ rest) := kD_dropr hD
                                      refine lv_iinc (v := nI (j + 1)) (lv' := [(5, .int (nI (j + 1))), (10, .int 5), (1, .long ((((((((((z * 31) + ((nI (sK σ i j)).toInt64)) * 31) + ((sP σ i j).toInt64)) * 31) + ((sT σ i j).toInt64)) * 31) + ((nI (lg σ i j)).toInt64)) * 31) + ((nI (bg σ i j)).toInt64))), (11, .int (nI (bg σ i j))), (9, .int 5), (8, .ref q_b), (7, .ref q_b), (6, .int (nI (24 * i + j))), (3, .int (nI i)), (0, .ref (gM g))]) (pc := 301) hx hb dX2_digest_301 hl (k := 7) rfl (nI_1 _) (by decide) rfl (fun ls hl => ?_)
                                      refine lv_goto (tgt := 184) (pc := 304) hx hb dX2_digest_304 (by decide) ?_
                                      refine W.widen (k := 25 * i + 1 + (j + 1)) (n := 129 * i + 9 + 5 * (j + 1)) (by omega) (by omega) ?_
                                      exact ih_184 (j + 1, (((((((((z * 31) + ((nI (sK σ i j)).toInt64)) * 31) + ((sP σ i j).toInt64)) * 31) + ((sT σ i j).toInt64)) * 31) + ((nI (lg σ i j)).toInt64)) * 31) + ((nI (bg σ i j)).toInt64)) ⟨by omega, by rw [hy_184]; rfl⟩ (by show _ - _ < _ - _; omega) _ _ _ hP hD hS (lv_sub hl [0, 2, 8, 9] rfl)
                                    · exact absurd c_35 (by decide)
                      · exact absurd c_25 (by decide)
