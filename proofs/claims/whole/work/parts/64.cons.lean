/-! CONSTRUCTORS: new cells, arrays of a known class; cells in another order -/
theorem ra_inj {U : State} {a b : ClassId} {ty : FieldType} (h1 : va_RA U a ty) (h2 : va_RA U b ty) : a = b := by
  cases ty with
  | object C =>
    obtain ⟨_, _, _, _, _, h3⟩ := h1
    obtain ⟨_, _, _, _, _, h4⟩ := h2
    exact Option.some.inj (h3.symm.trans h4)
  | _ => exact Option.some.inj (h1.symm.trans h2)
section KNEW
variable {p : Program} {l : Launch} {e : Env} {R : Room} {s : State} {m : MethodId} {args : Array Value} {below : List Frame} {meth : Method} {c : Code} {H : Heap} {locs : List Loc} {cells slots : Nat} {Q : State → Prop}
variable {cc : ByteArray} {pc : Nat} {ls : Array Slot} {rest : List Value} {D : va_G} {cl : List vw_C} {A : Nat → Prop} {tys : List (ClassId × FieldType)} {ws : va_W} {H0 : Heap}
theorem k_newa (hexec : p.tables.exec = Jvm.exec) (hb : c.code = cc) {atype : ArrayType} (harr : (Cond.arrayClass (newarray.typeOf atype)).before args s = true) {ty : FieldType} (hty : newarray.typeOf atype = ty) (hK : va_K D cl tys s) (hP : va_P D cl ws H) (hD : va_D A ws) (hS : va_S A H0 H locs) (hA : ∀ q, H0.size ≤ q → A q) (t0 : Nat) {cA : ClassId} (ht : tys[t0]? = some (cA, ty))
    {n : Int32} {N' : Nat} {a0 : vp_A} (ha : ∀ cA : ClassId, vp_cell cA a0 = arrV cA N' (fun _ => defaultValue ty)) (hn : ¬ n < 0) (hN : n.toNatClampNeg = N') (hbytes : N' * componentBytes ty ≤ 536870912) (hcells : cells + 1 ≤ R.cells) (hslots : slots + N' ≤ R.slots) (hdg : decode cc pc = .ok (.newarray atype, 2))
    (kk : ∀ (q : Nat) (H1 : Heap), va_P D cl (ws ++ [(q, .inl (cA, a0))]) H1 → va_D A (ws ++ [(q, .inl (cA, a0))]) → va_S A H0 H1 locs → W p l e R s m args below meth c H1 locs (cells + 1) (slots + N') Q (F0 m (pc + 2) ls (.ref q :: rest))) : W p l e R s m args below meth c H locs cells slots Q (F0 m pc ls (.int n :: rest)) := by
  refine va_newa hexec hb harr hty hK hP hD hS hA ha hn hN hbytes hcells hslots hdg (fun q cB H1 hK1 hP1 hD1 hS1 => ?_)
  have h9 := hK1.2 tys.length (cB, ty) List.getElem?_concat_length
  have hq : cB = cA := ra_inj h9.2 (hK.2 t0 _ ht).2
  subst hq
  exact kk q H1 hP1 hD1 hS1
end KNEW
theorem kP_perm {D : va_G} {cl : List vw_C} {ws ws' : va_W} {H : Heap} (h : va_P D cl ws H) (hp : ws'.Perm ws) : va_P D cl ws' H := by
  intro k q hk
  obtain ⟨i, hi⟩ := List.getElem?_of_mem (hp.mem_iff.mp (List.mem_of_getElem? hk))
  exact h i q hi
theorem kD_pw {A : Nat → Prop} {ws : va_W} : va_D A ws ↔ List.Pairwise (fun p q : Nat × va_E => p.1 ≠ q.1) ws ∧ ∀ x ∈ ws, A x.1 := by
  constructor
  · intro h
    refine ⟨List.pairwise_iff_getElem.mpr (fun i j hi hj hij he => ?_), fun x hx => ?_⟩
    · have := h.1 i j _ _ (List.getElem?_eq_some_iff.mpr ⟨hi, rfl⟩) (List.getElem?_eq_some_iff.mpr ⟨hj, rfl⟩) he
      omega
    · obtain ⟨i, hi⟩ := List.getElem?_of_mem hx
      exact h.2 i x hi
  · intro h
    refine ⟨fun i j p q hi hj he => ?_, fun k q hk => h.2 q (List.mem_of_getElem? hk)⟩
    obtain ⟨hi1, rfl⟩ := List.getElem?_eq_some_iff.mp hi
    obtain ⟨hj1, rfl⟩ := List.getElem?_eq_some_iff.mp hj
    rcases Nat.lt_trichotomy i j with q | q | q
    · exact absurd he (List.pairwise_iff_getElem.mp h.1 i j hi1 hj1 q)
    · exact q
    · exact absurd he.symm (List.pairwise_iff_getElem.mp h.1 j i hj1 hi1 q)
theorem kD_perm {A : Nat → Prop} {ws ws' : va_W} (h : va_D A ws) (hp : ws'.Perm ws) : va_D A ws' := by
  rw [kD_pw] at h ⊢
  exact ⟨(List.Perm.pairwise_iff (fun h q => h q.symm) hp).mpr h.1, fun x hx => h.2 x (hp.mem_iff.mp hx)⟩
def wX0Z (g : GA) (b : Nat) (u : Nat × Nat × Nat × Nat × Nat) (R : va_W) : va_W := (b, .inr (0, [.int 0, .int 0, .int 0, .int (-1), .int 0, .ref u.1, .ref u.2.1, .ref u.2.2.1, .ref u.2.2.2.1, .ref u.2.2.2.2])) :: (((((R ++ [(u.1, .inl (gI g, 24, .inl (fun _ => 0)))]) ++ [(u.2.1, .inl (gI g, 24, .inl (fun _ => 0)))]) ++ [(u.2.2.1, .inl (gZ g, 24, .inl (fun _ => 0)))]) ++ [(u.2.2.2.1, .inl (gI g, 24, .inl (fun _ => 0)))]) ++ [(u.2.2.2.2, .inl (gI g, 25, .inl (fun _ => 0)))])
set_option maxHeartbeats 4000000 in
set_option maxRecDepth 100000 in
/-- a voice is made -/
theorem cX0_init_m (l : Launch) (g : GA) (A : Nat → Prop) (b : Nat) (R : va_W) : Met l yX0_init wsX0_init ({ frames := 1, cells := 5, slots := 121, locals := 24 }) (va_Pc [.ref b] (Cx g A ((b, .inr (0, [.int 0, .int 0, .int 0, .int 0, .int 0, .null, .null, .null, .null, .null])) :: R))) (va_Qv (fun (_ : Nat × Nat × Nat × Nat × Nat) => True) (fun u t => kB g A (wX0Z g b u R) t) A) 5 121 A := by
  refine Met.ofW (cc := cX0_init) (maxL := 1) (ret := none) (by decide) rfl ?_
  intro p e s m args below meth c s₁ B hml hv0
  obtain ⟨rfl, hP, hD, hA, hK, hX⟩ := hv0
  have hx := B.exec
  have hb := B.bytes
  have hr := B.returns
  have hts := atoms_spec (ws := wsX0_init) B.pre
  have hown : s.vm.findClass RX0 = some m.cls := findClass_of_methodNamed B.named
  have hlocks := B.notSynchronized
  have hin9 : meth.name = "<init>" := (name_of_methodNamed B.named B.method).1
  have hS : va_S A s.heap s.heap [] := va_S.rf
  have hinX0 : ∀ w ∈ u_ws RX0 TX0 10, w ∈ wsX0_init := by decide +kernel
  have hl := lv_entry ([.ref b]) (n := 1) (Nat.le_of_ble_eq_true rfl)
  rw [lg_entry_eq]
  generalize (lg_sl ([.ref b]) ++ List.replicate (1 - (lg_sl ([.ref b])).length) Slot.unset).toArray = ls at hl ⊢
  have hl : lv_has ls 1 [(0, .ref b)] := hl
  refine lv_aload_n (pc := 0) hx hb dX0_init_0 rfl (lv_at hl 0 rfl) ?_
  refine W.objInit hx hb hown (hts (.methodLink RX0 3 objectInit) (by decide +kernel)) (hts (.instanceMethod objectInit) (by decide +kernel)) (hts _ (List.mem_cons_of_mem _ (List.mem_append_left _ (List.mem_of_getElem? (i := 2) rfl)))) rfl (by rw [hml]; exact hl.1) rfl dX0_init_1 (Nat.le_of_ble_eq_true rfl) (Nat.le_of_ble_eq_true rfl) ?_
  refine W.eq (g2 := F0 m 4 ls []) rfl ?_
  refine lv_aload_n (pc := 4) hx hb dX0_init_4 rfl (lv_at hl 0 rfl) ?_
  refine lv_iconst (v := -1) (pc := 5) hx hb dX0_init_5 (by decide) ?_
  refine va_put (pc := 6) (D := gD g) (ci := 0) (v := .int (-1)) (ty := .int) (C := RX0) (T := TX0) (N := 10) hx hb hts hinX0 tyX0 tyX0_ok nmX0 hown hK hP hD hS 0 rfl rfl 3 (by decide) (hts (.fieldLink RX0 9 "ChoirNotes$Voice" "clef" "I") (by decide +kernel)) (fun _ h9 => h9) rfl (by decide +kernel) rfl rfl (Nat.le_of_ble_eq_true rfl) dX0_init_6 (fun H1 locs1 hP hD hS => ?_)
  have hP : va_P (gD g) vwCl ((b, .inr (0, [.int 0, .int 0, .int 0, .int (-1), .int 0, .null, .null, .null, .null, .null])) :: R) H1 := hP
  have hD : va_D A ((b, .inr (0, [.int 0, .int 0, .int 0, .int (-1), .int 0, .null, .null, .null, .null, .null])) :: R) := hD
  refine lv_aload_n (pc := 9) hx hb dX0_init_9 rfl (lv_at hl 0 rfl) ?_
  refine lv_bipush (v := 24) (pc := 10) hx hb dX0_init_10 (by decide) ?_
  refine k_newa (pc := 12) (atype := .int) (ty := .int) (a0 := (24, .inl (fun _ => 0))) hx hb (hts (.arrayClass .int) (by decide +kernel)) rfl hK hP hD hS hA 0 rfl (fun _ => rfl) (by decide) (by decide) (by decide) (Nat.le_of_ble_eq_true rfl) (Nat.le_of_ble_eq_true rfl) dX0_init_12 (fun q0 H2 hP hD hS => ?_)
  have hP : va_P (gD g) vwCl ((b, .inr (0, [.int 0, .int 0, .int 0, .int (-1), .int 0, .null, .null, .null, .null, .null])) :: (R ++ [(q0, .inl (gI g, 24, .inl (fun _ => 0)))])) H2 := hP
  have hD : va_D A ((b, .inr (0, [.int 0, .int 0, .int 0, .int (-1), .int 0, .null, .null, .null, .null, .null])) :: (R ++ [(q0, .inl (gI g, 24, .inl (fun _ => 0)))])) := hD
  refine va_putF (pc := 14) (D := gD g) (ci := 0) (v := .ref q0) (ty := .array .int) (C := RX0) (T := TX0) (N := 10) hx hb hts hinX0 tyX0 tyX0_ok nmX0 hown hK hP hD hS 0 rfl rfl 5 (by decide) (hts (.fieldLink RX0 15 "ChoirNotes$Voice" "kinds" "[I") (by decide +kernel)) (fun _ h9 => h9) rfl hin9 rfl (by decide +kernel) rfl rfl (Nat.le_of_ble_eq_true rfl) dX0_init_14 (fun H3 locs3 hP hD hS => ?_)
  have hP : va_P (gD g) vwCl ((b, .inr (0, [.int 0, .int 0, .int 0, .int (-1), .int 0, .ref q0, .null, .null, .null, .null])) :: (R ++ [(q0, .inl (gI g, 24, .inl (fun _ => 0)))])) H3 := hP
  have hD : va_D A ((b, .inr (0, [.int 0, .int 0, .int 0, .int (-1), .int 0, .ref q0, .null, .null, .null, .null])) :: (R ++ [(q0, .inl (gI g, 24, .inl (fun _ => 0)))])) := hD
  refine lv_aload_n (pc := 17) hx hb dX0_init_17 rfl (lv_at hl 0 rfl) ?_
  refine lv_bipush (v := 24) (pc := 18) hx hb dX0_init_18 (by decide) ?_
  refine k_newa (pc := 20) (atype := .int) (ty := .int) (a0 := (24, .inl (fun _ => 0))) hx hb (hts (.arrayClass .int) (by decide +kernel)) rfl hK hP hD hS hA 0 rfl (fun _ => rfl) (by decide) (by decide) (by decide) (Nat.le_of_ble_eq_true rfl) (Nat.le_of_ble_eq_true rfl) dX0_init_20 (fun q1 H4 hP hD hS => ?_)
  have hP : va_P (gD g) vwCl ((b, .inr (0, [.int 0, .int 0, .int 0, .int (-1), .int 0, .ref q0, .null, .null, .null, .null])) :: ((R ++ [(q0, .inl (gI g, 24, .inl (fun _ => 0)))]) ++ [(q1, .inl (gI g, 24, .inl (fun _ => 0)))])) H4 := hP
  have hD : va_D A ((b, .inr (0, [.int 0, .int 0, .int 0, .int (-1), .int 0, .ref q0, .null, .null, .null, .null])) :: ((R ++ [(q0, .inl (gI g, 24, .inl (fun _ => 0)))]) ++ [(q1, .inl (gI g, 24, .inl (fun _ => 0)))])) := hD
  refine va_putF (pc := 22) (D := gD g) (ci := 0) (v := .ref q1) (ty := .array .int) (C := RX0) (T := TX0) (N := 10) hx hb hts hinX0 tyX0 tyX0_ok nmX0 hown hK hP hD hS 0 rfl rfl 6 (by decide) (hts (.fieldLink RX0 19 "ChoirNotes$Voice" "places" "[I") (by decide +kernel)) (fun _ h9 => h9) rfl hin9 rfl (by decide +kernel) rfl rfl (Nat.le_of_ble_eq_true rfl) dX0_init_22 (fun H5 locs5 hP hD hS => ?_)
  have hP : va_P (gD g) vwCl ((b, .inr (0, [.int 0, .int 0, .int 0, .int (-1), .int 0, .ref q0, .ref q1, .null, .null, .null])) :: ((R ++ [(q0, .inl (gI g, 24, .inl (fun _ => 0)))]) ++ [(q1, .inl (gI g, 24, .inl (fun _ => 0)))])) H5 := hP
  have hD : va_D A ((b, .inr (0, [.int 0, .int 0, .int 0, .int (-1), .int 0, .ref q0, .ref q1, .null, .null, .null])) :: ((R ++ [(q0, .inl (gI g, 24, .inl (fun _ => 0)))]) ++ [(q1, .inl (gI g, 24, .inl (fun _ => 0)))])) := hD
  refine lv_aload_n (pc := 25) hx hb dX0_init_25 rfl (lv_at hl 0 rfl) ?_
  refine lv_bipush (v := 24) (pc := 26) hx hb dX0_init_26 (by decide) ?_
  refine k_newa (pc := 28) (atype := .boolean) (ty := .boolean) (a0 := (24, .inl (fun _ => 0))) hx hb (hts (.arrayClass .boolean) (by decide +kernel)) rfl hK hP hD hS hA 1 rfl (fun _ => rfl) (by decide) (by decide) (by decide) (Nat.le_of_ble_eq_true rfl) (Nat.le_of_ble_eq_true rfl) dX0_init_28 (fun q2 H6 hP hD hS => ?_)
  have hP : va_P (gD g) vwCl ((b, .inr (0, [.int 0, .int 0, .int 0, .int (-1), .int 0, .ref q0, .ref q1, .null, .null, .null])) :: (((R ++ [(q0, .inl (gI g, 24, .inl (fun _ => 0)))]) ++ [(q1, .inl (gI g, 24, .inl (fun _ => 0)))]) ++ [(q2, .inl (gZ g, 24, .inl (fun _ => 0)))])) H6 := hP
  have hD : va_D A ((b, .inr (0, [.int 0, .int 0, .int 0, .int (-1), .int 0, .ref q0, .ref q1, .null, .null, .null])) :: (((R ++ [(q0, .inl (gI g, 24, .inl (fun _ => 0)))]) ++ [(q1, .inl (gI g, 24, .inl (fun _ => 0)))]) ++ [(q2, .inl (gZ g, 24, .inl (fun _ => 0)))])) := hD
  refine va_putF (pc := 30) (D := gD g) (ci := 0) (v := .ref q2) (ty := .array .boolean) (C := RX0) (T := TX0) (N := 10) hx hb hts hinX0 tyX0 tyX0_ok nmX0 hown hK hP hD hS 0 rfl rfl 7 (by decide) (hts (.fieldLink RX0 22 "ChoirNotes$Voice" "colours" "[Z") (by decide +kernel)) (fun _ h9 => h9) rfl hin9 rfl (by decide +kernel) rfl rfl (Nat.le_of_ble_eq_true rfl) dX0_init_30 (fun H7 locs7 hP hD hS => ?_)
  have hP : va_P (gD g) vwCl ((b, .inr (0, [.int 0, .int 0, .int 0, .int (-1), .int 0, .ref q0, .ref q1, .ref q2, .null, .null])) :: (((R ++ [(q0, .inl (gI g, 24, .inl (fun _ => 0)))]) ++ [(q1, .inl (gI g, 24, .inl (fun _ => 0)))]) ++ [(q2, .inl (gZ g, 24, .inl (fun _ => 0)))])) H7 := hP
  have hD : va_D A ((b, .inr (0, [.int 0, .int 0, .int 0, .int (-1), .int 0, .ref q0, .ref q1, .ref q2, .null, .null])) :: (((R ++ [(q0, .inl (gI g, 24, .inl (fun _ => 0)))]) ++ [(q1, .inl (gI g, 24, .inl (fun _ => 0)))]) ++ [(q2, .inl (gZ g, 24, .inl (fun _ => 0)))])) := hD
  refine lv_aload_n (pc := 33) hx hb dX0_init_33 rfl (lv_at hl 0 rfl) ?_
  refine lv_bipush (v := 24) (pc := 34) hx hb dX0_init_34 (by decide) ?_
  refine k_newa (pc := 36) (atype := .int) (ty := .int) (a0 := (24, .inl (fun _ => 0))) hx hb (hts (.arrayClass .int) (by decide +kernel)) rfl hK hP hD hS hA 0 rfl (fun _ => rfl) (by decide) (by decide) (by decide) (Nat.le_of_ble_eq_true rfl) (Nat.le_of_ble_eq_true rfl) dX0_init_36 (fun q3 H8 hP hD hS => ?_)
  have hP : va_P (gD g) vwCl ((b, .inr (0, [.int 0, .int 0, .int 0, .int (-1), .int 0, .ref q0, .ref q1, .ref q2, .null, .null])) :: ((((R ++ [(q0, .inl (gI g, 24, .inl (fun _ => 0)))]) ++ [(q1, .inl (gI g, 24, .inl (fun _ => 0)))]) ++ [(q2, .inl (gZ g, 24, .inl (fun _ => 0)))]) ++ [(q3, .inl (gI g, 24, .inl (fun _ => 0)))])) H8 := hP
  have hD : va_D A ((b, .inr (0, [.int 0, .int 0, .int 0, .int (-1), .int 0, .ref q0, .ref q1, .ref q2, .null, .null])) :: ((((R ++ [(q0, .inl (gI g, 24, .inl (fun _ => 0)))]) ++ [(q1, .inl (gI g, 24, .inl (fun _ => 0)))]) ++ [(q2, .inl (gZ g, 24, .inl (fun _ => 0)))]) ++ [(q3, .inl (gI g, 24, .inl (fun _ => 0)))])) := hD
  refine va_putF (pc := 38) (D := gD g) (ci := 0) (v := .ref q3) (ty := .array .int) (C := RX0) (T := TX0) (N := 10) hx hb hts hinX0 tyX0 tyX0_ok nmX0 hown hK hP hD hS 0 rfl rfl 8 (by decide) (hts (.fieldLink RX0 26 "ChoirNotes$Voice" "ranks" "[I") (by decide +kernel)) (fun _ h9 => h9) rfl hin9 rfl (by decide +kernel) rfl rfl (Nat.le_of_ble_eq_true rfl) dX0_init_38 (fun H9 locs9 hP hD hS => ?_)
  have hP : va_P (gD g) vwCl ((b, .inr (0, [.int 0, .int 0, .int 0, .int (-1), .int 0, .ref q0, .ref q1, .ref q2, .ref q3, .null])) :: ((((R ++ [(q0, .inl (gI g, 24, .inl (fun _ => 0)))]) ++ [(q1, .inl (gI g, 24, .inl (fun _ => 0)))]) ++ [(q2, .inl (gZ g, 24, .inl (fun _ => 0)))]) ++ [(q3, .inl (gI g, 24, .inl (fun _ => 0)))])) H9 := hP
  have hD : va_D A ((b, .inr (0, [.int 0, .int 0, .int 0, .int (-1), .int 0, .ref q0, .ref q1, .ref q2, .ref q3, .null])) :: ((((R ++ [(q0, .inl (gI g, 24, .inl (fun _ => 0)))]) ++ [(q1, .inl (gI g, 24, .inl (fun _ => 0)))]) ++ [(q2, .inl (gZ g, 24, .inl (fun _ => 0)))]) ++ [(q3, .inl (gI g, 24, .inl (fun _ => 0)))])) := hD
  refine lv_aload_n (pc := 41) hx hb dX0_init_41 rfl (lv_at hl 0 rfl) ?_
  refine lv_bipush (v := 25) (pc := 42) hx hb dX0_init_42 (by decide) ?_
  refine k_newa (pc := 44) (atype := .int) (ty := .int) (a0 := (25, .inl (fun _ => 0))) hx hb (hts (.arrayClass .int) (by decide +kernel)) rfl hK hP hD hS hA 0 rfl (fun _ => rfl) (by decide) (by decide) (by decide) (Nat.le_of_ble_eq_true rfl) (Nat.le_of_ble_eq_true rfl) dX0_init_44 (fun q4 H10 hP hD hS => ?_)
  have hP : va_P (gD g) vwCl ((b, .inr (0, [.int 0, .int 0, .int 0, .int (-1), .int 0, .ref q0, .ref q1, .ref q2, .ref q3, .null])) :: (((((R ++ [(q0, .inl (gI g, 24, .inl (fun _ => 0)))]) ++ [(q1, .inl (gI g, 24, .inl (fun _ => 0)))]) ++ [(q2, .inl (gZ g, 24, .inl (fun _ => 0)))]) ++ [(q3, .inl (gI g, 24, .inl (fun _ => 0)))]) ++ [(q4, .inl (gI g, 25, .inl (fun _ => 0)))])) H10 := hP
  have hD : va_D A ((b, .inr (0, [.int 0, .int 0, .int 0, .int (-1), .int 0, .ref q0, .ref q1, .ref q2, .ref q3, .null])) :: (((((R ++ [(q0, .inl (gI g, 24, .inl (fun _ => 0)))]) ++ [(q1, .inl (gI g, 24, .inl (fun _ => 0)))]) ++ [(q2, .inl (gZ g, 24, .inl (fun _ => 0)))]) ++ [(q3, .inl (gI g, 24, .inl (fun _ => 0)))]) ++ [(q4, .inl (gI g, 25, .inl (fun _ => 0)))])) := hD
  refine va_putF (pc := 46) (D := gD g) (ci := 0) (v := .ref q4) (ty := .array .int) (C := RX0) (T := TX0) (N := 10) hx hb hts hinX0 tyX0 tyX0_ok nmX0 hown hK hP hD hS 0 rfl rfl 9 (by decide) (hts (.fieldLink RX0 29 "ChoirNotes$Voice" "begins" "[I") (by decide +kernel)) (fun _ h9 => h9) rfl hin9 rfl (by decide +kernel) rfl rfl (Nat.le_of_ble_eq_true rfl) dX0_init_46 (fun H11 locs11 hP hD hS => ?_)
  have hP : va_P (gD g) vwCl ((b, .inr (0, [.int 0, .int 0, .int 0, .int (-1), .int 0, .ref q0, .ref q1, .ref q2, .ref q3, .ref q4])) :: (((((R ++ [(q0, .inl (gI g, 24, .inl (fun _ => 0)))]) ++ [(q1, .inl (gI g, 24, .inl (fun _ => 0)))]) ++ [(q2, .inl (gZ g, 24, .inl (fun _ => 0)))]) ++ [(q3, .inl (gI g, 24, .inl (fun _ => 0)))]) ++ [(q4, .inl (gI g, 25, .inl (fun _ => 0)))])) H11 := hP
  have hD : va_D A ((b, .inr (0, [.int 0, .int 0, .int 0, .int (-1), .int 0, .ref q0, .ref q1, .ref q2, .ref q3, .ref q4])) :: (((((R ++ [(q0, .inl (gI g, 24, .inl (fun _ => 0)))]) ++ [(q1, .inl (gI g, 24, .inl (fun _ => 0)))]) ++ [(q2, .inl (gZ g, 24, .inl (fun _ => 0)))]) ++ [(q3, .inl (gI g, 24, .inl (fun _ => 0)))]) ++ [(q4, .inl (gI g, 25, .inl (fun _ => 0)))])) := hD
  refine W.widen (k := 5) (n := 121) (Nat.le_of_ble_eq_true rfl) (Nat.le_of_ble_eq_true rfl) ?_
  exact W.vret hx hb hr (fun t ht hW => ⟨⟨(q0, q1, q2, q3, q4), rfl, trivial, by rw [ht]; exact hP, hD⟩, hS.F ht⟩) hS.2.2 dX0_init_49
def wX2Z (g : GA) (b : Nat) (u : Nat × Nat × Nat × Nat × Nat × Nat × Nat × Nat × Nat) (R : va_W) : va_W := (b, .inr (2, [.int 0, .int 0, .ref u.1, .ref u.2.1, .ref u.2.2.1, .ref u.2.2.2.1, .ref u.2.2.2.2.1, .ref u.2.2.2.2.2.1, .ref u.2.2.2.2.2.2.1, .ref u.2.2.2.2.2.2.2.1, .ref u.2.2.2.2.2.2.2.2])) :: (((((((((R ++ [(u.1, .inl (gI g, 4, .inl (fun _ => 0)))]) ++ [(u.2.1, .inl (gI g, 4, .inl (fun _ => 0)))]) ++ [(u.2.2.1, .inl (gI g, 12, .inl (fun _ => 0)))]) ++ [(u.2.2.2.1, .inl (gI g, 96, .inl (fun _ => 0)))]) ++ [(u.2.2.2.2.1, .inl (gI g, 96, .inl (fun _ => 0)))]) ++ [(u.2.2.2.2.2.1, .inl (gZ g, 96, .inl (fun _ => 0)))]) ++ [(u.2.2.2.2.2.2.1, .inl (gI g, 96, .inl (fun _ => 0)))]) ++ [(u.2.2.2.2.2.2.2.1, .inl (gI g, 648, .inl (fun _ => 0)))]) ++ [(u.2.2.2.2.2.2.2.2, .inl (gI g, 648, .inl (fun _ => 0)))])
set_option maxHeartbeats 4000000 in
set_option maxRecDepth 100000 in
/-- the reference is made -/
theorem cX2_init_m (l : Launch) (g : GA) (A : Nat → Prop) (b : Nat) (R : va_W) : Met l yX2_init wsX2_init ({ frames := 1, cells := 9, slots := 1700, locals := 24 }) (va_Pc [.ref b] (Cx g A ((b, .inr (2, [.int 0, .int 0, .null, .null, .null, .null, .null, .null, .null, .null, .null])) :: R))) (va_Qv (fun (_ : Nat × Nat × Nat × Nat × Nat × Nat × Nat × Nat × Nat) => True) (fun u t => kB g A (wX2Z g b u R) t) A) 9 1700 A := by
  refine Met.ofW (cc := cX2_init) (maxL := 1) (ret := none) (by decide) rfl ?_
  intro p e s m args below meth c s₁ B hml hv0
  obtain ⟨rfl, hP, hD, hA, hK, hX⟩ := hv0
  have hx := B.exec
  have hb := B.bytes
  have hr := B.returns
  have hts := atoms_spec (ws := wsX2_init) B.pre
  have hown : s.vm.findClass RX2 = some m.cls := findClass_of_methodNamed B.named
  have hlocks := B.notSynchronized
  have hin9 : meth.name = "<init>" := (name_of_methodNamed B.named B.method).1
  have hS : va_S A s.heap s.heap [] := va_S.rf
  have hinX2 : ∀ w ∈ u_ws RX2 TX2 11, w ∈ wsX2_init := by decide +kernel
  have hl := lv_entry ([.ref b]) (n := 1) (Nat.le_of_ble_eq_true rfl)
  rw [lg_entry_eq]
  generalize (lg_sl ([.ref b]) ++ List.replicate (1 - (lg_sl ([.ref b])).length) Slot.unset).toArray = ls at hl ⊢
  have hl : lv_has ls 1 [(0, .ref b)] := hl
  refine lv_aload_n (pc := 0) hx hb dX2_init_0 rfl (lv_at hl 0 rfl) ?_
  refine W.objInit hx hb hown (hts (.methodLink RX2 1 objectInit) (by decide +kernel)) (hts (.instanceMethod objectInit) (by decide +kernel)) (hts _ (List.mem_cons_of_mem _ (List.mem_append_left _ (List.mem_of_getElem? (i := 2) rfl)))) rfl (by rw [hml]; exact hl.1) rfl dX2_init_1 (Nat.le_of_ble_eq_true rfl) (Nat.le_of_ble_eq_true rfl) ?_
  refine W.eq (g2 := F0 m 4 ls []) rfl ?_
  refine lv_aload_n (pc := 4) hx hb dX2_init_4 rfl (lv_at hl 0 rfl) ?_
  refine lv_iconst (v := 4) (pc := 5) hx hb dX2_init_5 (by decide) ?_
  refine k_newa (pc := 6) (atype := .int) (ty := .int) (a0 := (4, .inl (fun _ => 0))) hx hb (hts (.arrayClass .int) (by decide +kernel)) rfl hK hP hD hS hA 0 rfl (fun _ => rfl) (by decide) (by decide) (by decide) (Nat.le_of_ble_eq_true rfl) (Nat.le_of_ble_eq_true rfl) dX2_init_6 (fun q0 H1 hP hD hS => ?_)
  have hP : va_P (gD g) vwCl ((b, .inr (2, [.int 0, .int 0, .null, .null, .null, .null, .null, .null, .null, .null, .null])) :: (R ++ [(q0, .inl (gI g, 4, .inl (fun _ => 0)))])) H1 := hP
  have hD : va_D A ((b, .inr (2, [.int 0, .int 0, .null, .null, .null, .null, .null, .null, .null, .null, .null])) :: (R ++ [(q0, .inl (gI g, 4, .inl (fun _ => 0)))])) := hD
  refine va_putF (pc := 8) (D := gD g) (ci := 2) (v := .ref q0) (ty := .array .int) (C := RX2) (T := TX2) (N := 11) hx hb hts hinX2 tyX2 tyX2_ok nmX2 hown hK hP hD hS 0 rfl rfl 2 (by decide) (hts (.fieldLink RX2 9 "ChoirNotesModel" "many" "[I") (by decide +kernel)) (fun _ h9 => h9) rfl hin9 rfl (by decide +kernel) rfl rfl (Nat.le_of_ble_eq_true rfl) dX2_init_8 (fun H2 locs2 hP hD hS => ?_)
  have hP : va_P (gD g) vwCl ((b, .inr (2, [.int 0, .int 0, .ref q0, .null, .null, .null, .null, .null, .null, .null, .null])) :: (R ++ [(q0, .inl (gI g, 4, .inl (fun _ => 0)))])) H2 := hP
  have hD : va_D A ((b, .inr (2, [.int 0, .int 0, .ref q0, .null, .null, .null, .null, .null, .null, .null, .null])) :: (R ++ [(q0, .inl (gI g, 4, .inl (fun _ => 0)))])) := hD
  refine lv_aload_n (pc := 11) hx hb dX2_init_11 rfl (lv_at hl 0 rfl) ?_
  refine lv_iconst (v := 4) (pc := 12) hx hb dX2_init_12 (by decide) ?_
  refine k_newa (pc := 13) (atype := .int) (ty := .int) (a0 := (4, .inl (fun _ => 0))) hx hb (hts (.arrayClass .int) (by decide +kernel)) rfl hK hP hD hS hA 0 rfl (fun _ => rfl) (by decide) (by decide) (by decide) (Nat.le_of_ble_eq_true rfl) (Nat.le_of_ble_eq_true rfl) dX2_init_13 (fun q1 H3 hP hD hS => ?_)
  have hP : va_P (gD g) vwCl ((b, .inr (2, [.int 0, .int 0, .ref q0, .null, .null, .null, .null, .null, .null, .null, .null])) :: ((R ++ [(q0, .inl (gI g, 4, .inl (fun _ => 0)))]) ++ [(q1, .inl (gI g, 4, .inl (fun _ => 0)))])) H3 := hP
  have hD : va_D A ((b, .inr (2, [.int 0, .int 0, .ref q0, .null, .null, .null, .null, .null, .null, .null, .null])) :: ((R ++ [(q0, .inl (gI g, 4, .inl (fun _ => 0)))]) ++ [(q1, .inl (gI g, 4, .inl (fun _ => 0)))])) := hD
  refine va_putF (pc := 15) (D := gD g) (ci := 2) (v := .ref q1) (ty := .array .int) (C := RX2) (T := TX2) (N := 11) hx hb hts hinX2 tyX2 tyX2_ok nmX2 hown hK hP hD hS 0 rfl rfl 3 (by decide) (hts (.fieldLink RX2 13 "ChoirNotesModel" "clef" "[I") (by decide +kernel)) (fun _ h9 => h9) rfl hin9 rfl (by decide +kernel) rfl rfl (Nat.le_of_ble_eq_true rfl) dX2_init_15 (fun H4 locs4 hP hD hS => ?_)
  have hP : va_P (gD g) vwCl ((b, .inr (2, [.int 0, .int 0, .ref q0, .ref q1, .null, .null, .null, .null, .null, .null, .null])) :: ((R ++ [(q0, .inl (gI g, 4, .inl (fun _ => 0)))]) ++ [(q1, .inl (gI g, 4, .inl (fun _ => 0)))])) H4 := hP
  have hD : va_D A ((b, .inr (2, [.int 0, .int 0, .ref q0, .ref q1, .null, .null, .null, .null, .null, .null, .null])) :: ((R ++ [(q0, .inl (gI g, 4, .inl (fun _ => 0)))]) ++ [(q1, .inl (gI g, 4, .inl (fun _ => 0)))])) := hD
  refine lv_aload_n (pc := 18) hx hb dX2_init_18 rfl (lv_at hl 0 rfl) ?_
  refine lv_bipush (v := 12) (pc := 19) hx hb dX2_init_19 (by decide) ?_
  refine k_newa (pc := 21) (atype := .int) (ty := .int) (a0 := (12, .inl (fun _ => 0))) hx hb (hts (.arrayClass .int) (by decide +kernel)) rfl hK hP hD hS hA 0 rfl (fun _ => rfl) (by decide) (by decide) (by decide) (Nat.le_of_ble_eq_true rfl) (Nat.le_of_ble_eq_true rfl) dX2_init_21 (fun q2 H5 hP hD hS => ?_)
  have hP : va_P (gD g) vwCl ((b, .inr (2, [.int 0, .int 0, .ref q0, .ref q1, .null, .null, .null, .null, .null, .null, .null])) :: (((R ++ [(q0, .inl (gI g, 4, .inl (fun _ => 0)))]) ++ [(q1, .inl (gI g, 4, .inl (fun _ => 0)))]) ++ [(q2, .inl (gI g, 12, .inl (fun _ => 0)))])) H5 := hP
  have hD : va_D A ((b, .inr (2, [.int 0, .int 0, .ref q0, .ref q1, .null, .null, .null, .null, .null, .null, .null])) :: (((R ++ [(q0, .inl (gI g, 4, .inl (fun _ => 0)))]) ++ [(q1, .inl (gI g, 4, .inl (fun _ => 0)))]) ++ [(q2, .inl (gI g, 12, .inl (fun _ => 0)))])) := hD
  refine va_putF (pc := 23) (D := gD g) (ci := 2) (v := .ref q2) (ty := .array .int) (C := RX2) (T := TX2) (N := 11) hx hb hts hinX2 tyX2 tyX2_ok nmX2 hown hK hP hD hS 0 rfl rfl 4 (by decide) (hts (.fieldLink RX2 16 "ChoirNotesModel" "measure" "[I") (by decide +kernel)) (fun _ h9 => h9) rfl hin9 rfl (by decide +kernel) rfl rfl (Nat.le_of_ble_eq_true rfl) dX2_init_23 (fun H6 locs6 hP hD hS => ?_)
  have hP : va_P (gD g) vwCl ((b, .inr (2, [.int 0, .int 0, .ref q0, .ref q1, .ref q2, .null, .null, .null, .null, .null, .null])) :: (((R ++ [(q0, .inl (gI g, 4, .inl (fun _ => 0)))]) ++ [(q1, .inl (gI g, 4, .inl (fun _ => 0)))]) ++ [(q2, .inl (gI g, 12, .inl (fun _ => 0)))])) H6 := hP
  have hD : va_D A ((b, .inr (2, [.int 0, .int 0, .ref q0, .ref q1, .ref q2, .null, .null, .null, .null, .null, .null])) :: (((R ++ [(q0, .inl (gI g, 4, .inl (fun _ => 0)))]) ++ [(q1, .inl (gI g, 4, .inl (fun _ => 0)))]) ++ [(q2, .inl (gI g, 12, .inl (fun _ => 0)))])) := hD
  refine lv_aload_n (pc := 26) hx hb dX2_init_26 rfl (lv_at hl 0 rfl) ?_
  refine lv_bipush (v := 96) (pc := 27) hx hb dX2_init_27 (by decide) ?_
  refine k_newa (pc := 29) (atype := .int) (ty := .int) (a0 := (96, .inl (fun _ => 0))) hx hb (hts (.arrayClass .int) (by decide +kernel)) rfl hK hP hD hS hA 0 rfl (fun _ => rfl) (by decide) (by decide) (by decide) (Nat.le_of_ble_eq_true rfl) (Nat.le_of_ble_eq_true rfl) dX2_init_29 (fun q3 H7 hP hD hS => ?_)
  have hP : va_P (gD g) vwCl ((b, .inr (2, [.int 0, .int 0, .ref q0, .ref q1, .ref q2, .null, .null, .null, .null, .null, .null])) :: ((((R ++ [(q0, .inl (gI g, 4, .inl (fun _ => 0)))]) ++ [(q1, .inl (gI g, 4, .inl (fun _ => 0)))]) ++ [(q2, .inl (gI g, 12, .inl (fun _ => 0)))]) ++ [(q3, .inl (gI g, 96, .inl (fun _ => 0)))])) H7 := hP
  have hD : va_D A ((b, .inr (2, [.int 0, .int 0, .ref q0, .ref q1, .ref q2, .null, .null, .null, .null, .null, .null])) :: ((((R ++ [(q0, .inl (gI g, 4, .inl (fun _ => 0)))]) ++ [(q1, .inl (gI g, 4, .inl (fun _ => 0)))]) ++ [(q2, .inl (gI g, 12, .inl (fun _ => 0)))]) ++ [(q3, .inl (gI g, 96, .inl (fun _ => 0)))])) := hD
  refine va_putF (pc := 31) (D := gD g) (ci := 2) (v := .ref q3) (ty := .array .int) (C := RX2) (T := TX2) (N := 11) hx hb hts hinX2 tyX2 tyX2_ok nmX2 hown hK hP hD hS 0 rfl rfl 5 (by decide) (hts (.fieldLink RX2 19 "ChoirNotesModel" "kind" "[I") (by decide +kernel)) (fun _ h9 => h9) rfl hin9 rfl (by decide +kernel) rfl rfl (Nat.le_of_ble_eq_true rfl) dX2_init_31 (fun H8 locs8 hP hD hS => ?_)
  have hP : va_P (gD g) vwCl ((b, .inr (2, [.int 0, .int 0, .ref q0, .ref q1, .ref q2, .ref q3, .null, .null, .null, .null, .null])) :: ((((R ++ [(q0, .inl (gI g, 4, .inl (fun _ => 0)))]) ++ [(q1, .inl (gI g, 4, .inl (fun _ => 0)))]) ++ [(q2, .inl (gI g, 12, .inl (fun _ => 0)))]) ++ [(q3, .inl (gI g, 96, .inl (fun _ => 0)))])) H8 := hP
  have hD : va_D A ((b, .inr (2, [.int 0, .int 0, .ref q0, .ref q1, .ref q2, .ref q3, .null, .null, .null, .null, .null])) :: ((((R ++ [(q0, .inl (gI g, 4, .inl (fun _ => 0)))]) ++ [(q1, .inl (gI g, 4, .inl (fun _ => 0)))]) ++ [(q2, .inl (gI g, 12, .inl (fun _ => 0)))]) ++ [(q3, .inl (gI g, 96, .inl (fun _ => 0)))])) := hD
  refine lv_aload_n (pc := 34) hx hb dX2_init_34 rfl (lv_at hl 0 rfl) ?_
  refine lv_bipush (v := 96) (pc := 35) hx hb dX2_init_35 (by decide) ?_
  refine k_newa (pc := 37) (atype := .int) (ty := .int) (a0 := (96, .inl (fun _ => 0))) hx hb (hts (.arrayClass .int) (by decide +kernel)) rfl hK hP hD hS hA 0 rfl (fun _ => rfl) (by decide) (by decide) (by decide) (Nat.le_of_ble_eq_true rfl) (Nat.le_of_ble_eq_true rfl) dX2_init_37 (fun q4 H9 hP hD hS => ?_)
  have hP : va_P (gD g) vwCl ((b, .inr (2, [.int 0, .int 0, .ref q0, .ref q1, .ref q2, .ref q3, .null, .null, .null, .null, .null])) :: (((((R ++ [(q0, .inl (gI g, 4, .inl (fun _ => 0)))]) ++ [(q1, .inl (gI g, 4, .inl (fun _ => 0)))]) ++ [(q2, .inl (gI g, 12, .inl (fun _ => 0)))]) ++ [(q3, .inl (gI g, 96, .inl (fun _ => 0)))]) ++ [(q4, .inl (gI g, 96, .inl (fun _ => 0)))])) H9 := hP
  have hD : va_D A ((b, .inr (2, [.int 0, .int 0, .ref q0, .ref q1, .ref q2, .ref q3, .null, .null, .null, .null, .null])) :: (((((R ++ [(q0, .inl (gI g, 4, .inl (fun _ => 0)))]) ++ [(q1, .inl (gI g, 4, .inl (fun _ => 0)))]) ++ [(q2, .inl (gI g, 12, .inl (fun _ => 0)))]) ++ [(q3, .inl (gI g, 96, .inl (fun _ => 0)))]) ++ [(q4, .inl (gI g, 96, .inl (fun _ => 0)))])) := hD
  refine va_putF (pc := 39) (D := gD g) (ci := 2) (v := .ref q4) (ty := .array .int) (C := RX2) (T := TX2) (N := 11) hx hb hts hinX2 tyX2 tyX2_ok nmX2 hown hK hP hD hS 0 rfl rfl 6 (by decide) (hts (.fieldLink RX2 22 "ChoirNotesModel" "place" "[I") (by decide +kernel)) (fun _ h9 => h9) rfl hin9 rfl (by decide +kernel) rfl rfl (Nat.le_of_ble_eq_true rfl) dX2_init_39 (fun H10 locs10 hP hD hS => ?_)
  have hP : va_P (gD g) vwCl ((b, .inr (2, [.int 0, .int 0, .ref q0, .ref q1, .ref q2, .ref q3, .ref q4, .null, .null, .null, .null])) :: (((((R ++ [(q0, .inl (gI g, 4, .inl (fun _ => 0)))]) ++ [(q1, .inl (gI g, 4, .inl (fun _ => 0)))]) ++ [(q2, .inl (gI g, 12, .inl (fun _ => 0)))]) ++ [(q3, .inl (gI g, 96, .inl (fun _ => 0)))]) ++ [(q4, .inl (gI g, 96, .inl (fun _ => 0)))])) H10 := hP
  have hD : va_D A ((b, .inr (2, [.int 0, .int 0, .ref q0, .ref q1, .ref q2, .ref q3, .ref q4, .null, .null, .null, .null])) :: (((((R ++ [(q0, .inl (gI g, 4, .inl (fun _ => 0)))]) ++ [(q1, .inl (gI g, 4, .inl (fun _ => 0)))]) ++ [(q2, .inl (gI g, 12, .inl (fun _ => 0)))]) ++ [(q3, .inl (gI g, 96, .inl (fun _ => 0)))]) ++ [(q4, .inl (gI g, 96, .inl (fun _ => 0)))])) := hD
  refine lv_aload_n (pc := 42) hx hb dX2_init_42 rfl (lv_at hl 0 rfl) ?_
  refine lv_bipush (v := 96) (pc := 43) hx hb dX2_init_43 (by decide) ?_
  refine k_newa (pc := 45) (atype := .boolean) (ty := .boolean) (a0 := (96, .inl (fun _ => 0))) hx hb (hts (.arrayClass .boolean) (by decide +kernel)) rfl hK hP hD hS hA 1 rfl (fun _ => rfl) (by decide) (by decide) (by decide) (Nat.le_of_ble_eq_true rfl) (Nat.le_of_ble_eq_true rfl) dX2_init_45 (fun q5 H11 hP hD hS => ?_)
  have hP : va_P (gD g) vwCl ((b, .inr (2, [.int 0, .int 0, .ref q0, .ref q1, .ref q2, .ref q3, .ref q4, .null, .null, .null, .null])) :: ((((((R ++ [(q0, .inl (gI g, 4, .inl (fun _ => 0)))]) ++ [(q1, .inl (gI g, 4, .inl (fun _ => 0)))]) ++ [(q2, .inl (gI g, 12, .inl (fun _ => 0)))]) ++ [(q3, .inl (gI g, 96, .inl (fun _ => 0)))]) ++ [(q4, .inl (gI g, 96, .inl (fun _ => 0)))]) ++ [(q5, .inl (gZ g, 96, .inl (fun _ => 0)))])) H11 := hP
  have hD : va_D A ((b, .inr (2, [.int 0, .int 0, .ref q0, .ref q1, .ref q2, .ref q3, .ref q4, .null, .null, .null, .null])) :: ((((((R ++ [(q0, .inl (gI g, 4, .inl (fun _ => 0)))]) ++ [(q1, .inl (gI g, 4, .inl (fun _ => 0)))]) ++ [(q2, .inl (gI g, 12, .inl (fun _ => 0)))]) ++ [(q3, .inl (gI g, 96, .inl (fun _ => 0)))]) ++ [(q4, .inl (gI g, 96, .inl (fun _ => 0)))]) ++ [(q5, .inl (gZ g, 96, .inl (fun _ => 0)))])) := hD
  refine va_putF (pc := 47) (D := gD g) (ci := 2) (v := .ref q5) (ty := .array .boolean) (C := RX2) (T := TX2) (N := 11) hx hb hts hinX2 tyX2 tyX2_ok nmX2 hown hK hP hD hS 0 rfl rfl 7 (by decide) (hts (.fieldLink RX2 25 "ChoirNotesModel" "isRed" "[Z") (by decide +kernel)) (fun _ h9 => h9) rfl hin9 rfl (by decide +kernel) rfl rfl (Nat.le_of_ble_eq_true rfl) dX2_init_47 (fun H12 locs12 hP hD hS => ?_)
  have hP : va_P (gD g) vwCl ((b, .inr (2, [.int 0, .int 0, .ref q0, .ref q1, .ref q2, .ref q3, .ref q4, .ref q5, .null, .null, .null])) :: ((((((R ++ [(q0, .inl (gI g, 4, .inl (fun _ => 0)))]) ++ [(q1, .inl (gI g, 4, .inl (fun _ => 0)))]) ++ [(q2, .inl (gI g, 12, .inl (fun _ => 0)))]) ++ [(q3, .inl (gI g, 96, .inl (fun _ => 0)))]) ++ [(q4, .inl (gI g, 96, .inl (fun _ => 0)))]) ++ [(q5, .inl (gZ g, 96, .inl (fun _ => 0)))])) H12 := hP
  have hD : va_D A ((b, .inr (2, [.int 0, .int 0, .ref q0, .ref q1, .ref q2, .ref q3, .ref q4, .ref q5, .null, .null, .null])) :: ((((((R ++ [(q0, .inl (gI g, 4, .inl (fun _ => 0)))]) ++ [(q1, .inl (gI g, 4, .inl (fun _ => 0)))]) ++ [(q2, .inl (gI g, 12, .inl (fun _ => 0)))]) ++ [(q3, .inl (gI g, 96, .inl (fun _ => 0)))]) ++ [(q4, .inl (gI g, 96, .inl (fun _ => 0)))]) ++ [(q5, .inl (gZ g, 96, .inl (fun _ => 0)))])) := hD
  refine lv_aload_n (pc := 50) hx hb dX2_init_50 rfl (lv_at hl 0 rfl) ?_
  refine lv_bipush (v := 96) (pc := 51) hx hb dX2_init_51 (by decide) ?_
  refine k_newa (pc := 53) (atype := .int) (ty := .int) (a0 := (96, .inl (fun _ => 0))) hx hb (hts (.arrayClass .int) (by decide +kernel)) rfl hK hP hD hS hA 0 rfl (fun _ => rfl) (by decide) (by decide) (by decide) (Nat.le_of_ble_eq_true rfl) (Nat.le_of_ble_eq_true rfl) dX2_init_53 (fun q6 H13 hP hD hS => ?_)
  have hP : va_P (gD g) vwCl ((b, .inr (2, [.int 0, .int 0, .ref q0, .ref q1, .ref q2, .ref q3, .ref q4, .ref q5, .null, .null, .null])) :: (((((((R ++ [(q0, .inl (gI g, 4, .inl (fun _ => 0)))]) ++ [(q1, .inl (gI g, 4, .inl (fun _ => 0)))]) ++ [(q2, .inl (gI g, 12, .inl (fun _ => 0)))]) ++ [(q3, .inl (gI g, 96, .inl (fun _ => 0)))]) ++ [(q4, .inl (gI g, 96, .inl (fun _ => 0)))]) ++ [(q5, .inl (gZ g, 96, .inl (fun _ => 0)))]) ++ [(q6, .inl (gI g, 96, .inl (fun _ => 0)))])) H13 := hP
  have hD : va_D A ((b, .inr (2, [.int 0, .int 0, .ref q0, .ref q1, .ref q2, .ref q3, .ref q4, .ref q5, .null, .null, .null])) :: (((((((R ++ [(q0, .inl (gI g, 4, .inl (fun _ => 0)))]) ++ [(q1, .inl (gI g, 4, .inl (fun _ => 0)))]) ++ [(q2, .inl (gI g, 12, .inl (fun _ => 0)))]) ++ [(q3, .inl (gI g, 96, .inl (fun _ => 0)))]) ++ [(q4, .inl (gI g, 96, .inl (fun _ => 0)))]) ++ [(q5, .inl (gZ g, 96, .inl (fun _ => 0)))]) ++ [(q6, .inl (gI g, 96, .inl (fun _ => 0)))])) := hD
  refine va_putF (pc := 55) (D := gD g) (ci := 2) (v := .ref q6) (ty := .array .int) (C := RX2) (T := TX2) (N := 11) hx hb hts hinX2 tyX2 tyX2_ok nmX2 hown hK hP hD hS 0 rfl rfl 8 (by decide) (hts (.fieldLink RX2 29 "ChoirNotesModel" "tied" "[I") (by decide +kernel)) (fun _ h9 => h9) rfl hin9 rfl (by decide +kernel) rfl rfl (Nat.le_of_ble_eq_true rfl) dX2_init_55 (fun H14 locs14 hP hD hS => ?_)
  have hP : va_P (gD g) vwCl ((b, .inr (2, [.int 0, .int 0, .ref q0, .ref q1, .ref q2, .ref q3, .ref q4, .ref q5, .ref q6, .null, .null])) :: (((((((R ++ [(q0, .inl (gI g, 4, .inl (fun _ => 0)))]) ++ [(q1, .inl (gI g, 4, .inl (fun _ => 0)))]) ++ [(q2, .inl (gI g, 12, .inl (fun _ => 0)))]) ++ [(q3, .inl (gI g, 96, .inl (fun _ => 0)))]) ++ [(q4, .inl (gI g, 96, .inl (fun _ => 0)))]) ++ [(q5, .inl (gZ g, 96, .inl (fun _ => 0)))]) ++ [(q6, .inl (gI g, 96, .inl (fun _ => 0)))])) H14 := hP
  have hD : va_D A ((b, .inr (2, [.int 0, .int 0, .ref q0, .ref q1, .ref q2, .ref q3, .ref q4, .ref q5, .ref q6, .null, .null])) :: (((((((R ++ [(q0, .inl (gI g, 4, .inl (fun _ => 0)))]) ++ [(q1, .inl (gI g, 4, .inl (fun _ => 0)))]) ++ [(q2, .inl (gI g, 12, .inl (fun _ => 0)))]) ++ [(q3, .inl (gI g, 96, .inl (fun _ => 0)))]) ++ [(q4, .inl (gI g, 96, .inl (fun _ => 0)))]) ++ [(q5, .inl (gZ g, 96, .inl (fun _ => 0)))]) ++ [(q6, .inl (gI g, 96, .inl (fun _ => 0)))])) := hD
  refine lv_aload_n (pc := 58) hx hb dX2_init_58 rfl (lv_at hl 0 rfl) ?_
  refine lv_sipush (v := 648) (pc := 59) hx hb dX2_init_59 (by decide) ?_
  refine k_newa (pc := 62) (atype := .int) (ty := .int) (a0 := (648, .inl (fun _ => 0))) hx hb (hts (.arrayClass .int) (by decide +kernel)) rfl hK hP hD hS hA 0 rfl (fun _ => rfl) (by decide) (by decide) (by decide) (Nat.le_of_ble_eq_true rfl) (Nat.le_of_ble_eq_true rfl) dX2_init_62 (fun q7 H15 hP hD hS => ?_)
  have hP : va_P (gD g) vwCl ((b, .inr (2, [.int 0, .int 0, .ref q0, .ref q1, .ref q2, .ref q3, .ref q4, .ref q5, .ref q6, .null, .null])) :: ((((((((R ++ [(q0, .inl (gI g, 4, .inl (fun _ => 0)))]) ++ [(q1, .inl (gI g, 4, .inl (fun _ => 0)))]) ++ [(q2, .inl (gI g, 12, .inl (fun _ => 0)))]) ++ [(q3, .inl (gI g, 96, .inl (fun _ => 0)))]) ++ [(q4, .inl (gI g, 96, .inl (fun _ => 0)))]) ++ [(q5, .inl (gZ g, 96, .inl (fun _ => 0)))]) ++ [(q6, .inl (gI g, 96, .inl (fun _ => 0)))]) ++ [(q7, .inl (gI g, 648, .inl (fun _ => 0)))])) H15 := hP
  have hD : va_D A ((b, .inr (2, [.int 0, .int 0, .ref q0, .ref q1, .ref q2, .ref q3, .ref q4, .ref q5, .ref q6, .null, .null])) :: ((((((((R ++ [(q0, .inl (gI g, 4, .inl (fun _ => 0)))]) ++ [(q1, .inl (gI g, 4, .inl (fun _ => 0)))]) ++ [(q2, .inl (gI g, 12, .inl (fun _ => 0)))]) ++ [(q3, .inl (gI g, 96, .inl (fun _ => 0)))]) ++ [(q4, .inl (gI g, 96, .inl (fun _ => 0)))]) ++ [(q5, .inl (gZ g, 96, .inl (fun _ => 0)))]) ++ [(q6, .inl (gI g, 96, .inl (fun _ => 0)))]) ++ [(q7, .inl (gI g, 648, .inl (fun _ => 0)))])) := hD
  refine va_putF (pc := 64) (D := gD g) (ci := 2) (v := .ref q7) (ty := .array .int) (C := RX2) (T := TX2) (N := 11) hx hb hts hinX2 tyX2 tyX2_ok nmX2 hown hK hP hD hS 0 rfl rfl 9 (by decide) (hts (.fieldLink RX2 32 "ChoirNotesModel" "mine" "[I") (by decide +kernel)) (fun _ h9 => h9) rfl hin9 rfl (by decide +kernel) rfl rfl (Nat.le_of_ble_eq_true rfl) dX2_init_64 (fun H16 locs16 hP hD hS => ?_)
  have hP : va_P (gD g) vwCl ((b, .inr (2, [.int 0, .int 0, .ref q0, .ref q1, .ref q2, .ref q3, .ref q4, .ref q5, .ref q6, .ref q7, .null])) :: ((((((((R ++ [(q0, .inl (gI g, 4, .inl (fun _ => 0)))]) ++ [(q1, .inl (gI g, 4, .inl (fun _ => 0)))]) ++ [(q2, .inl (gI g, 12, .inl (fun _ => 0)))]) ++ [(q3, .inl (gI g, 96, .inl (fun _ => 0)))]) ++ [(q4, .inl (gI g, 96, .inl (fun _ => 0)))]) ++ [(q5, .inl (gZ g, 96, .inl (fun _ => 0)))]) ++ [(q6, .inl (gI g, 96, .inl (fun _ => 0)))]) ++ [(q7, .inl (gI g, 648, .inl (fun _ => 0)))])) H16 := hP
  have hD : va_D A ((b, .inr (2, [.int 0, .int 0, .ref q0, .ref q1, .ref q2, .ref q3, .ref q4, .ref q5, .ref q6, .ref q7, .null])) :: ((((((((R ++ [(q0, .inl (gI g, 4, .inl (fun _ => 0)))]) ++ [(q1, .inl (gI g, 4, .inl (fun _ => 0)))]) ++ [(q2, .inl (gI g, 12, .inl (fun _ => 0)))]) ++ [(q3, .inl (gI g, 96, .inl (fun _ => 0)))]) ++ [(q4, .inl (gI g, 96, .inl (fun _ => 0)))]) ++ [(q5, .inl (gZ g, 96, .inl (fun _ => 0)))]) ++ [(q6, .inl (gI g, 96, .inl (fun _ => 0)))]) ++ [(q7, .inl (gI g, 648, .inl (fun _ => 0)))])) := hD
  refine lv_aload_n (pc := 67) hx hb dX2_init_67 rfl (lv_at hl 0 rfl) ?_
  refine lv_sipush (v := 648) (pc := 68) hx hb dX2_init_68 (by decide) ?_
  refine k_newa (pc := 71) (atype := .int) (ty := .int) (a0 := (648, .inl (fun _ => 0))) hx hb (hts (.arrayClass .int) (by decide +kernel)) rfl hK hP hD hS hA 0 rfl (fun _ => rfl) (by decide) (by decide) (by decide) (Nat.le_of_ble_eq_true rfl) (Nat.le_of_ble_eq_true rfl) dX2_init_71 (fun q8 H17 hP hD hS => ?_)
  have hP : va_P (gD g) vwCl ((b, .inr (2, [.int 0, .int 0, .ref q0, .ref q1, .ref q2, .ref q3, .ref q4, .ref q5, .ref q6, .ref q7, .null])) :: (((((((((R ++ [(q0, .inl (gI g, 4, .inl (fun _ => 0)))]) ++ [(q1, .inl (gI g, 4, .inl (fun _ => 0)))]) ++ [(q2, .inl (gI g, 12, .inl (fun _ => 0)))]) ++ [(q3, .inl (gI g, 96, .inl (fun _ => 0)))]) ++ [(q4, .inl (gI g, 96, .inl (fun _ => 0)))]) ++ [(q5, .inl (gZ g, 96, .inl (fun _ => 0)))]) ++ [(q6, .inl (gI g, 96, .inl (fun _ => 0)))]) ++ [(q7, .inl (gI g, 648, .inl (fun _ => 0)))]) ++ [(q8, .inl (gI g, 648, .inl (fun _ => 0)))])) H17 := hP
  have hD : va_D A ((b, .inr (2, [.int 0, .int 0, .ref q0, .ref q1, .ref q2, .ref q3, .ref q4, .ref q5, .ref q6, .ref q7, .null])) :: (((((((((R ++ [(q0, .inl (gI g, 4, .inl (fun _ => 0)))]) ++ [(q1, .inl (gI g, 4, .inl (fun _ => 0)))]) ++ [(q2, .inl (gI g, 12, .inl (fun _ => 0)))]) ++ [(q3, .inl (gI g, 96, .inl (fun _ => 0)))]) ++ [(q4, .inl (gI g, 96, .inl (fun _ => 0)))]) ++ [(q5, .inl (gZ g, 96, .inl (fun _ => 0)))]) ++ [(q6, .inl (gI g, 96, .inl (fun _ => 0)))]) ++ [(q7, .inl (gI g, 648, .inl (fun _ => 0)))]) ++ [(q8, .inl (gI g, 648, .inl (fun _ => 0)))])) := hD
  refine va_putF (pc := 73) (D := gD g) (ci := 2) (v := .ref q8) (ty := .array .int) (C := RX2) (T := TX2) (N := 11) hx hb hts hinX2 tyX2 tyX2_ok nmX2 hown hK hP hD hS 0 rfl rfl 10 (by decide) (hts (.fieldLink RX2 35 "ChoirNotesModel" "theirs" "[I") (by decide +kernel)) (fun _ h9 => h9) rfl hin9 rfl (by decide +kernel) rfl rfl (Nat.le_of_ble_eq_true rfl) dX2_init_73 (fun H18 locs18 hP hD hS => ?_)
  have hP : va_P (gD g) vwCl ((b, .inr (2, [.int 0, .int 0, .ref q0, .ref q1, .ref q2, .ref q3, .ref q4, .ref q5, .ref q6, .ref q7, .ref q8])) :: (((((((((R ++ [(q0, .inl (gI g, 4, .inl (fun _ => 0)))]) ++ [(q1, .inl (gI g, 4, .inl (fun _ => 0)))]) ++ [(q2, .inl (gI g, 12, .inl (fun _ => 0)))]) ++ [(q3, .inl (gI g, 96, .inl (fun _ => 0)))]) ++ [(q4, .inl (gI g, 96, .inl (fun _ => 0)))]) ++ [(q5, .inl (gZ g, 96, .inl (fun _ => 0)))]) ++ [(q6, .inl (gI g, 96, .inl (fun _ => 0)))]) ++ [(q7, .inl (gI g, 648, .inl (fun _ => 0)))]) ++ [(q8, .inl (gI g, 648, .inl (fun _ => 0)))])) H18 := hP
  have hD : va_D A ((b, .inr (2, [.int 0, .int 0, .ref q0, .ref q1, .ref q2, .ref q3, .ref q4, .ref q5, .ref q6, .ref q7, .ref q8])) :: (((((((((R ++ [(q0, .inl (gI g, 4, .inl (fun _ => 0)))]) ++ [(q1, .inl (gI g, 4, .inl (fun _ => 0)))]) ++ [(q2, .inl (gI g, 12, .inl (fun _ => 0)))]) ++ [(q3, .inl (gI g, 96, .inl (fun _ => 0)))]) ++ [(q4, .inl (gI g, 96, .inl (fun _ => 0)))]) ++ [(q5, .inl (gZ g, 96, .inl (fun _ => 0)))]) ++ [(q6, .inl (gI g, 96, .inl (fun _ => 0)))]) ++ [(q7, .inl (gI g, 648, .inl (fun _ => 0)))]) ++ [(q8, .inl (gI g, 648, .inl (fun _ => 0)))])) := hD
  refine W.widen (k := 9) (n := 1700) (Nat.le_of_ble_eq_true rfl) (Nat.le_of_ble_eq_true rfl) ?_
  exact W.vret hx hb hr (fun t ht hW => ⟨⟨(q0, q1, q2, q3, q4, q5, q6, q7, q8), rfl, trivial, by rw [ht]; exact hP, hD⟩, hS.F ht⟩) hS.2.2 dX2_init_76
