/-! THE CLASS IS MADE -/
theorem k_newq {p : Program} {l : Launch} {e : Env} {R : Room} {s : State} {m : MethodId} {args : Array Value} {below : List Frame} {meth : Method} {c : Code} {H : Heap} {locs : List Loc} {cells slots : Nat} {Q : State → Prop} {cc : ByteArray} {pc : Nat} {ls : Array Slot} {rest : List Value} {D : va_G} {cl : List vw_C} {A : Nat → Prop} {tys : List (ClassId × FieldType)} {ws : va_W} {H0 : Heap}
    (hexec : p.tables.exec = Jvm.exec) (hb : c.code = cc) {own C : String} {index : Nat} (hown : s.vm.findClass own = some m.cls) (hclink : (Cond.classLink own index C).before args s = true) (hover : va_AO C s) (hK : va_K D cl tys s) (hP : va_P D cl ws H) (hD : va_D A ws) (hS : va_S A H0 H locs) (hA : ∀ q, H0.size ≤ q → A q) (t0 : Nat) {cA : ClassId} (ht : tys[t0]? = some (cA, .object C))
    {n : Int32} {N' : Nat} (hn : ¬ n < 0) (hN : n.toNatClampNeg = N') (hbytes : N' * 4 ≤ 536870912) (hcells : cells + 1 ≤ R.cells) (hslots : slots + N' ≤ R.slots) (hdg : decode cc pc = .ok (.anewarray index, 3))
    (kk : ∀ (q : Nat) (H1 : Heap), va_P D cl (ws ++ [(q, .inl (cA, N', .inr (.inr (.inr (.inr (fun _ => none))))))]) H1 → va_D A (ws ++ [(q, .inl (cA, N', .inr (.inr (.inr (.inr (fun _ => none))))))]) → va_S A H0 H1 locs → W p l e R s m args below meth c H1 locs (cells + 1) (slots + N') Q (F0 m (pc + 3) ls (.ref q :: rest))) : W p l e R s m args below meth c H locs cells slots Q (F0 m pc ls (.int n :: rest)) := by
  refine va_newq hexec hb hown hclink hover hK hP hD hS hA hn hN hbytes hcells hslots hdg (fun q cB H1 hK1 hP1 hD1 hS1 => ?_)
  have h9 := hK1.2 tys.length (cB, .object C) List.getElem?_concat_length
  have hq : cB = cA := ra_inj h9.2 (hK.2 t0 _ ht).2
  subst hq
  exact kk q H1 hP1 hD1 hS1
theorem kpm3 {x y z : Nat × va_E} {l : va_W} : (x :: y :: z :: l).Perm (z :: x :: y :: l) := List.perm_middle (l₁ := [x, y])
theorem kpm2 {x y : Nat × va_E} {l : va_W} : (x :: y :: l).Perm (x :: (l ++ [y])) := List.Perm.cons x (List.perm_append_singleton y l).symm
theorem kpm1 {z : Nat × va_E} {l : va_W} : (z :: l).Perm (l ++ [z]) := (List.perm_append_singleton z l).symm
/-- what the class's constructor is given -/
def CxN (g : GA) (A : Nat → Prop) (ws : va_W) (U : State) : Prop := Cx g A ws U ∧ va_AO RX0 U
def vRow (g : GA) (q : Nat) (f : Nat → Option Nat) : Nat × va_E := (q, .inl (gW g, 4, .inr (.inr (.inr (.inr f)))))
def wX1Z (g : GA) (b q p0 p1 p2 p3 : Nat) (u0 u1 u2 u3 : Nat × Nat × Nat × Nat × Nat) (R : va_W) : va_W := (b, .inr (1, [.ref q, .int 0])) :: vRow g q (va_up (va_up (va_up (va_up (fun _ => none) 0 (some p0)) 1 (some p1)) 2 (some p2)) 3 (some p3)) :: wX0Z g p3 u3 (wX0Z g p2 u2 (wX0Z g p1 u1 (wX0Z g p0 u0 R)))
set_option maxHeartbeats 4000000 in
set_option maxRecDepth 100000 in
/-- the class is made: its book, four voices -/
theorem cX1_init_m (l : Launch) (g : GA) (A : Nat → Prop) (b : Nat) (R : va_W) : Met l yX1_init wsX1_init ({ frames := 2, cells := 25, slots := 528, locals := 44 }) (va_Pc [.ref b] (CxN g A ((b, .inr (1, [.null, .int 0])) :: R))) (va_Qv (fun (_ : Nat × Nat × Nat × Nat × Nat × (Nat × Nat × Nat × Nat × Nat) × (Nat × Nat × Nat × Nat × Nat) × (Nat × Nat × Nat × Nat × Nat) × Nat × Nat × Nat × Nat × Nat) => True) (fun u t => kB g A (wX1Z g b u.1 u.2.1 u.2.2.1 u.2.2.2.1 u.2.2.2.2.1 u.2.2.2.2.2.1 u.2.2.2.2.2.2.1 u.2.2.2.2.2.2.2.1 u.2.2.2.2.2.2.2.2 R) t) A) 25 528 A := by
  refine Met.ofW (cc := cX1_init) (maxL := 2) (ret := none) (by decide) rfl ?_
  intro p e s m args below meth c s₁ B hml hv0
  obtain ⟨rfl, ⟨hP, hD, hA, hK, hX⟩, hAO⟩ := hv0
  have hx := B.exec
  have hb := B.bytes
  have hr := B.returns
  have hts := atoms_spec (ws := wsX1_init) B.pre
  have hown : s.vm.findClass RX1 = some m.cls := findClass_of_methodNamed B.named
  have hlocks := B.notSynchronized
  have hin9 : meth.name = "<init>" := (name_of_methodNamed B.named B.method).1
  have hS : va_S A s.heap s.heap [] := va_S.rf
  have hinX1 : ∀ w ∈ u_ws RX1 TX1 2, w ∈ wsX1_init := by decide +kernel
  have hinX0 : ∀ w ∈ u_ws RX0 TX0 10, w ∈ wsX1_init := by decide +kernel
  have hl := lv_entry ([.ref b]) (n := 2) (Nat.le_of_ble_eq_true rfl)
  rw [lg_entry_eq]
  generalize (lg_sl ([.ref b]) ++ List.replicate (2 - (lg_sl ([.ref b])).length) Slot.unset).toArray = ls at hl ⊢
  have hl : lv_has ls 2 [(0, .ref b)] := hl
  refine lv_aload_n (pc := 0) hx hb dX1_init_0 rfl (lv_at hl 0 rfl) ?_
  refine W.objInit hx hb hown (hts (.methodLink RX1 1 objectInit) (by decide +kernel)) (hts (.instanceMethod objectInit) (by decide +kernel)) (hts _ (List.mem_cons_of_mem _ (List.mem_append_left _ (List.mem_append_left _ (List.mem_of_getElem? (i := 2) rfl))))) rfl (by rw [hml]; exact hl.1) rfl dX1_init_1 (Nat.le_of_ble_eq_true rfl) (Nat.le_of_ble_eq_true rfl) ?_
  refine W.eq (g2 := F0 m 4 ls []) rfl ?_
  refine lv_aload_n (pc := 4) hx hb dX1_init_4 rfl (lv_at hl 0 rfl) ?_
  refine lv_iconst (v := 4) (pc := 5) hx hb dX1_init_5 (by decide) ?_
  refine k_newq (pc := 6) (N' := 4) hx hb hown (hts (.classLink RX1 9 RX0) (by decide +kernel)) hAO hK hP hD hS hA 2 rfl (by decide) (by decide) (by decide) (Nat.le_of_ble_eq_true rfl) (Nat.le_of_ble_eq_true rfl) dX1_init_6 (fun q H1 hP hD hS => ?_)
  have hP : va_P (gD g) vwCl ((b, .inr (1, [.null, .int 0])) :: (R ++ [vRow g q (fun _ => none)])) H1 := hP
  have hD : va_D A ((b, .inr (1, [.null, .int 0])) :: (R ++ [vRow g q (fun _ => none)])) := hD
  refine va_putF (pc := 9) (D := gD g) (ci := 1) (v := .ref q) (ty := .array (.object "ChoirNotes$Voice")) (C := RX1) (T := TX1) (N := 2) hx hb hts hinX1 tyX1 tyX1_ok nmX1 hown hK hP hD hS 0 rfl rfl 0 (by decide) (hts (.fieldLink RX1 11 "ChoirNotes" "book" "[LChoirNotes$Voice;") (by decide +kernel)) (fun _ h9 => h9) rfl hin9 rfl (by decide +kernel) rfl rfl (Nat.le_of_ble_eq_true rfl) dX1_init_9 (fun H2 locs2 hP hD hS => ?_)
  have hP : va_P (gD g) vwCl ((b, .inr (1, [.ref q, .int 0])) :: vRow g q (fun _ => none) :: R) H2 := kP_perm hP kpm2
  have hD : va_D A ((b, .inr (1, [.ref q, .int 0])) :: vRow g q (fun _ => none) :: R) := kD_perm hD kpm2
  refine lv_iconst (v := 0) (pc := 12) hx hb dX1_init_12 (by decide) ?_
  refine lv_istore_n (lv' := [(1, .int 0), (0, .ref b)]) (pc := 13) hx hb dX1_init_13 rfl hl (by decide) rfl (fun ls hl => ?_)
  refine lv_iload_n (pc := 14) hx hb dX1_init_14 rfl (lv_at hl 0 rfl) ?_
  refine lv_iconst (v := 4) (pc := 15) hx hb dX1_init_15 (by decide) ?_
  refine lv_icmp_ge (tgt := 38) (pc := 16) hx hb dX1_init_16 (by decide) (fun c1 => absurd c1 (by decide)) (fun _ => ?_)
  refine lv_aload_n (pc := 19) hx hb dX1_init_19 rfl (lv_at hl 1 rfl) ?_
  refine va_get (v := .ref q) (pc := 20) (D := gD g) (ci := 1) (C := RX1) (T := TX1) (N := 2) hx hb hts hinX1 hown hK hP 0 rfl rfl 0 (by decide) (hts (.fieldLink RX1 11 "ChoirNotes" "book" "[LChoirNotes$Voice;") (by decide +kernel)) (fun _ h9 => h9) rfl dX1_init_20 ?_
  refine lv_iload_n (pc := 23) hx hb dX1_init_23 rfl (lv_at hl 0 rfl) ?_
  refine va_new (pc := 24) (ci := 0) (fs := [.int 0, .int 0, .int 0, .int 0, .int 0, .null, .null, .null, .null, .null]) (C := RX0) (T := TX0) (N := 10) hx hb hts hinX0 tyX0 tyX0_ok hown (hts (.classLink RX1 9 RX0) (by decide +kernel)) (hts (.instantiable RX0 10) (by decide +kernel)) (hts (.initialized RX0) (by decide +kernel)) hK hP hD hS hA rfl (fun j hj => by rcases (show j = 0 ∨ j = 1 ∨ j = 2 ∨ j = 3 ∨ j = 4 ∨ j = 5 ∨ j = 6 ∨ j = 7 ∨ j = 8 ∨ j = 9 by omega) with rfl | rfl | rfl | rfl | rfl | rfl | rfl | rfl | rfl | rfl <;> rfl) (Nat.le_of_ble_eq_true rfl) (Nat.le_of_ble_eq_true rfl) dX1_init_24 (fun p0 H3 hP hD hS => ?_)
  have hP : va_P (gD g) vwCl ((p0, .inr (0, [.int 0, .int 0, .int 0, .int 0, .int 0, .null, .null, .null, .null, .null])) :: ((b, .inr (1, [.ref q, .int 0])) :: vRow g q (fun _ => none) :: R)) H3 := kP_perm hP kpm1
  have hD : va_D A ((p0, .inr (0, [.int 0, .int 0, .int 0, .int 0, .int 0, .null, .null, .null, .null, .null])) :: ((b, .inr (1, [.ref q, .int 0])) :: vRow g q (fun _ => none) :: R)) := kD_perm hD kpm1
  refine lv_dup (pc := 27) hx hb dX1_init_27 rfl ?_
  refine va_callv (pc := 28) (va_runIN (As := []) (rest := [.ref p0, .int 0, .ref q]) ⟨hx, hb, hml, hown, hts⟩ (cX0_init_m l g A p0 ((b, .inr (1, [.ref q, .int 0])) :: vRow g q (fun _ => none) :: R)) ⟨va_cnB 0 hts gX1_init_X0_init_n15 rfl rfl rfl (nm_15 hX) (hts (.initialized RX0) (by decide +kernel)) (by decide +kernel) ⟨(Nat.le_of_ble_eq_true rfl), (Nat.le_of_ble_eq_true rfl)⟩, rfl, hts (.instanceMethod yX0_init) (by decide +kernel)⟩ (cx_S hP hD hA hK hX hS) rfl rfl hl.1 rfl (lv_room (Nat.le_of_ble_eq_true rfl)) dX1_init_28 ⟨(Nat.le_of_ble_eq_true rfl), (Nat.le_of_ble_eq_true rfl)⟩) hS (fun _ _ h => h) (fun _ h => h) (fun u0 t4 H4 locs4 ht hvm hw hB hz hk hS => ?_)
  obtain ⟨hP, hD⟩ := hB
  rw [ht] at hP
  have hP : va_P (gD g) vwCl ((b, .inr (1, [.ref q, .int 0])) :: vRow g q (fun _ => none) :: (wX0Z g p0 u0 R)) H4 := kP_perm hP kpm3
  have hD : va_D A ((b, .inr (1, [.ref q, .int 0])) :: vRow g q (fun _ => none) :: (wX0Z g p0 u0 R)) := kD_perm hD kpm3
  refine va_astq (pc := 31) hx hb hK hP hD hS 1 2 2 0 rfl rfl rfl rfl (vp_in_nI (n := 0) (N := 4) (by decide) (by decide)) dX1_init_31 (fun H5 locs5 hP hD hS => ?_)
  have hP : va_P (gD g) vwCl ((b, .inr (1, [.ref q, .int 0])) :: vRow g q (va_up (fun _ => none) 0 (some p0)) :: (wX0Z g p0 u0 R)) H5 := hP
  have hD : va_D A ((b, .inr (1, [.ref q, .int 0])) :: vRow g q (va_up (fun _ => none) 0 (some p0)) :: (wX0Z g p0 u0 R)) := hD
  refine lv_iinc (v := 1) (lv' := [(1, .int 1), (0, .ref b)]) (pc := 32) hx hb dX1_init_32 hl (k := 0) rfl (by decide) (by decide) rfl (fun ls hl => ?_)
  refine lv_goto (tgt := 14) (pc := 35) hx hb dX1_init_35 (by decide) ?_
  refine lv_iload_n (pc := 14) hx hb dX1_init_14 rfl (lv_at hl 0 rfl) ?_
  refine lv_iconst (v := 4) (pc := 15) hx hb dX1_init_15 (by decide) ?_
  refine lv_icmp_ge (tgt := 38) (pc := 16) hx hb dX1_init_16 (by decide) (fun c1 => absurd c1 (by decide)) (fun _ => ?_)
  refine lv_aload_n (pc := 19) hx hb dX1_init_19 rfl (lv_at hl 1 rfl) ?_
  refine va_get (v := .ref q) (pc := 20) (D := gD g) (ci := 1) (C := RX1) (T := TX1) (N := 2) hx hb hts hinX1 hown hK hP 0 rfl rfl 0 (by decide) (hts (.fieldLink RX1 11 "ChoirNotes" "book" "[LChoirNotes$Voice;") (by decide +kernel)) (fun _ h9 => h9) rfl dX1_init_20 ?_
  refine lv_iload_n (pc := 23) hx hb dX1_init_23 rfl (lv_at hl 0 rfl) ?_
  refine va_new (pc := 24) (ci := 0) (fs := [.int 0, .int 0, .int 0, .int 0, .int 0, .null, .null, .null, .null, .null]) (C := RX0) (T := TX0) (N := 10) hx hb hts hinX0 tyX0 tyX0_ok hown (hts (.classLink RX1 9 RX0) (by decide +kernel)) (hts (.instantiable RX0 10) (by decide +kernel)) (hts (.initialized RX0) (by decide +kernel)) hK hP hD hS hA rfl (fun j hj => by rcases (show j = 0 ∨ j = 1 ∨ j = 2 ∨ j = 3 ∨ j = 4 ∨ j = 5 ∨ j = 6 ∨ j = 7 ∨ j = 8 ∨ j = 9 by omega) with rfl | rfl | rfl | rfl | rfl | rfl | rfl | rfl | rfl | rfl <;> rfl) (Nat.le_of_ble_eq_true rfl) (Nat.le_of_ble_eq_true rfl) dX1_init_24 (fun p1 H6 hP hD hS => ?_)
  have hP : va_P (gD g) vwCl ((p1, .inr (0, [.int 0, .int 0, .int 0, .int 0, .int 0, .null, .null, .null, .null, .null])) :: ((b, .inr (1, [.ref q, .int 0])) :: vRow g q (va_up (fun _ => none) 0 (some p0)) :: (wX0Z g p0 u0 R))) H6 := kP_perm hP kpm1
  have hD : va_D A ((p1, .inr (0, [.int 0, .int 0, .int 0, .int 0, .int 0, .null, .null, .null, .null, .null])) :: ((b, .inr (1, [.ref q, .int 0])) :: vRow g q (va_up (fun _ => none) 0 (some p0)) :: (wX0Z g p0 u0 R))) := kD_perm hD kpm1
  refine lv_dup (pc := 27) hx hb dX1_init_27 rfl ?_
  refine va_callv (pc := 28) (va_runIN (As := []) (rest := [.ref p1, .int 1, .ref q]) ⟨hx, hb, hml, hown, hts⟩ (cX0_init_m l g A p1 ((b, .inr (1, [.ref q, .int 0])) :: vRow g q (va_up (fun _ => none) 0 (some p0)) :: (wX0Z g p0 u0 R))) ⟨va_cnB 0 hts gX1_init_X0_init_n15 rfl rfl rfl (nm_15 hX) (hts (.initialized RX0) (by decide +kernel)) (by decide +kernel) ⟨(Nat.le_of_ble_eq_true rfl), (Nat.le_of_ble_eq_true rfl)⟩, rfl, hts (.instanceMethod yX0_init) (by decide +kernel)⟩ (cx_S hP hD hA hK hX hS) rfl rfl hl.1 rfl (lv_room (Nat.le_of_ble_eq_true rfl)) dX1_init_28 ⟨(Nat.le_of_ble_eq_true rfl), (Nat.le_of_ble_eq_true rfl)⟩) hS (fun _ _ h => h) (fun _ h => h) (fun u1 t7 H7 locs7 ht hvm hw hB hz hk hS => ?_)
  obtain ⟨hP, hD⟩ := hB
  rw [ht] at hP
  have hP : va_P (gD g) vwCl ((b, .inr (1, [.ref q, .int 0])) :: vRow g q (va_up (fun _ => none) 0 (some p0)) :: (wX0Z g p1 u1 (wX0Z g p0 u0 R))) H7 := kP_perm hP kpm3
  have hD : va_D A ((b, .inr (1, [.ref q, .int 0])) :: vRow g q (va_up (fun _ => none) 0 (some p0)) :: (wX0Z g p1 u1 (wX0Z g p0 u0 R))) := kD_perm hD kpm3
  refine va_astq (pc := 31) hx hb hK hP hD hS 1 2 2 0 rfl rfl rfl rfl (vp_in_nI (n := 1) (N := 4) (by decide) (by decide)) dX1_init_31 (fun H8 locs8 hP hD hS => ?_)
  have hP : va_P (gD g) vwCl ((b, .inr (1, [.ref q, .int 0])) :: vRow g q (va_up (va_up (fun _ => none) 0 (some p0)) 1 (some p1)) :: (wX0Z g p1 u1 (wX0Z g p0 u0 R))) H8 := hP
  have hD : va_D A ((b, .inr (1, [.ref q, .int 0])) :: vRow g q (va_up (va_up (fun _ => none) 0 (some p0)) 1 (some p1)) :: (wX0Z g p1 u1 (wX0Z g p0 u0 R))) := hD
  refine lv_iinc (v := 2) (lv' := [(1, .int 2), (0, .ref b)]) (pc := 32) hx hb dX1_init_32 hl (k := 0) rfl (by decide) (by decide) rfl (fun ls hl => ?_)
  refine lv_goto (tgt := 14) (pc := 35) hx hb dX1_init_35 (by decide) ?_
  refine lv_iload_n (pc := 14) hx hb dX1_init_14 rfl (lv_at hl 0 rfl) ?_
  refine lv_iconst (v := 4) (pc := 15) hx hb dX1_init_15 (by decide) ?_
  refine lv_icmp_ge (tgt := 38) (pc := 16) hx hb dX1_init_16 (by decide) (fun c1 => absurd c1 (by decide)) (fun _ => ?_)
  refine lv_aload_n (pc := 19) hx hb dX1_init_19 rfl (lv_at hl 1 rfl) ?_
  refine va_get (v := .ref q) (pc := 20) (D := gD g) (ci := 1) (C := RX1) (T := TX1) (N := 2) hx hb hts hinX1 hown hK hP 0 rfl rfl 0 (by decide) (hts (.fieldLink RX1 11 "ChoirNotes" "book" "[LChoirNotes$Voice;") (by decide +kernel)) (fun _ h9 => h9) rfl dX1_init_20 ?_
  refine lv_iload_n (pc := 23) hx hb dX1_init_23 rfl (lv_at hl 0 rfl) ?_
  refine va_new (pc := 24) (ci := 0) (fs := [.int 0, .int 0, .int 0, .int 0, .int 0, .null, .null, .null, .null, .null]) (C := RX0) (T := TX0) (N := 10) hx hb hts hinX0 tyX0 tyX0_ok hown (hts (.classLink RX1 9 RX0) (by decide +kernel)) (hts (.instantiable RX0 10) (by decide +kernel)) (hts (.initialized RX0) (by decide +kernel)) hK hP hD hS hA rfl (fun j hj => by rcases (show j = 0 ∨ j = 1 ∨ j = 2 ∨ j = 3 ∨ j = 4 ∨ j = 5 ∨ j = 6 ∨ j = 7 ∨ j = 8 ∨ j = 9 by omega) with rfl | rfl | rfl | rfl | rfl | rfl | rfl | rfl | rfl | rfl <;> rfl) (Nat.le_of_ble_eq_true rfl) (Nat.le_of_ble_eq_true rfl) dX1_init_24 (fun p2 H9 hP hD hS => ?_)
  have hP : va_P (gD g) vwCl ((p2, .inr (0, [.int 0, .int 0, .int 0, .int 0, .int 0, .null, .null, .null, .null, .null])) :: ((b, .inr (1, [.ref q, .int 0])) :: vRow g q (va_up (va_up (fun _ => none) 0 (some p0)) 1 (some p1)) :: (wX0Z g p1 u1 (wX0Z g p0 u0 R)))) H9 := kP_perm hP kpm1
  have hD : va_D A ((p2, .inr (0, [.int 0, .int 0, .int 0, .int 0, .int 0, .null, .null, .null, .null, .null])) :: ((b, .inr (1, [.ref q, .int 0])) :: vRow g q (va_up (va_up (fun _ => none) 0 (some p0)) 1 (some p1)) :: (wX0Z g p1 u1 (wX0Z g p0 u0 R)))) := kD_perm hD kpm1
  refine lv_dup (pc := 27) hx hb dX1_init_27 rfl ?_
  refine va_callv (pc := 28) (va_runIN (As := []) (rest := [.ref p2, .int 2, .ref q]) ⟨hx, hb, hml, hown, hts⟩ (cX0_init_m l g A p2 ((b, .inr (1, [.ref q, .int 0])) :: vRow g q (va_up (va_up (fun _ => none) 0 (some p0)) 1 (some p1)) :: (wX0Z g p1 u1 (wX0Z g p0 u0 R)))) ⟨va_cnB 0 hts gX1_init_X0_init_n15 rfl rfl rfl (nm_15 hX) (hts (.initialized RX0) (by decide +kernel)) (by decide +kernel) ⟨(Nat.le_of_ble_eq_true rfl), (Nat.le_of_ble_eq_true rfl)⟩, rfl, hts (.instanceMethod yX0_init) (by decide +kernel)⟩ (cx_S hP hD hA hK hX hS) rfl rfl hl.1 rfl (lv_room (Nat.le_of_ble_eq_true rfl)) dX1_init_28 ⟨(Nat.le_of_ble_eq_true rfl), (Nat.le_of_ble_eq_true rfl)⟩) hS (fun _ _ h => h) (fun _ h => h) (fun u2 t10 H10 locs10 ht hvm hw hB hz hk hS => ?_)
  obtain ⟨hP, hD⟩ := hB
  rw [ht] at hP
  have hP : va_P (gD g) vwCl ((b, .inr (1, [.ref q, .int 0])) :: vRow g q (va_up (va_up (fun _ => none) 0 (some p0)) 1 (some p1)) :: (wX0Z g p2 u2 (wX0Z g p1 u1 (wX0Z g p0 u0 R)))) H10 := kP_perm hP kpm3
  have hD : va_D A ((b, .inr (1, [.ref q, .int 0])) :: vRow g q (va_up (va_up (fun _ => none) 0 (some p0)) 1 (some p1)) :: (wX0Z g p2 u2 (wX0Z g p1 u1 (wX0Z g p0 u0 R)))) := kD_perm hD kpm3
  refine va_astq (pc := 31) hx hb hK hP hD hS 1 2 2 0 rfl rfl rfl rfl (vp_in_nI (n := 2) (N := 4) (by decide) (by decide)) dX1_init_31 (fun H11 locs11 hP hD hS => ?_)
  have hP : va_P (gD g) vwCl ((b, .inr (1, [.ref q, .int 0])) :: vRow g q (va_up (va_up (va_up (fun _ => none) 0 (some p0)) 1 (some p1)) 2 (some p2)) :: (wX0Z g p2 u2 (wX0Z g p1 u1 (wX0Z g p0 u0 R)))) H11 := hP
  have hD : va_D A ((b, .inr (1, [.ref q, .int 0])) :: vRow g q (va_up (va_up (va_up (fun _ => none) 0 (some p0)) 1 (some p1)) 2 (some p2)) :: (wX0Z g p2 u2 (wX0Z g p1 u1 (wX0Z g p0 u0 R)))) := hD
  refine lv_iinc (v := 3) (lv' := [(1, .int 3), (0, .ref b)]) (pc := 32) hx hb dX1_init_32 hl (k := 0) rfl (by decide) (by decide) rfl (fun ls hl => ?_)
  refine lv_goto (tgt := 14) (pc := 35) hx hb dX1_init_35 (by decide) ?_
  refine lv_iload_n (pc := 14) hx hb dX1_init_14 rfl (lv_at hl 0 rfl) ?_
  refine lv_iconst (v := 4) (pc := 15) hx hb dX1_init_15 (by decide) ?_
  refine lv_icmp_ge (tgt := 38) (pc := 16) hx hb dX1_init_16 (by decide) (fun c1 => absurd c1 (by decide)) (fun _ => ?_)
  refine lv_aload_n (pc := 19) hx hb dX1_init_19 rfl (lv_at hl 1 rfl) ?_
  refine va_get (v := .ref q) (pc := 20) (D := gD g) (ci := 1) (C := RX1) (T := TX1) (N := 2) hx hb hts hinX1 hown hK hP 0 rfl rfl 0 (by decide) (hts (.fieldLink RX1 11 "ChoirNotes" "book" "[LChoirNotes$Voice;") (by decide +kernel)) (fun _ h9 => h9) rfl dX1_init_20 ?_
  refine lv_iload_n (pc := 23) hx hb dX1_init_23 rfl (lv_at hl 0 rfl) ?_
  refine va_new (pc := 24) (ci := 0) (fs := [.int 0, .int 0, .int 0, .int 0, .int 0, .null, .null, .null, .null, .null]) (C := RX0) (T := TX0) (N := 10) hx hb hts hinX0 tyX0 tyX0_ok hown (hts (.classLink RX1 9 RX0) (by decide +kernel)) (hts (.instantiable RX0 10) (by decide +kernel)) (hts (.initialized RX0) (by decide +kernel)) hK hP hD hS hA rfl (fun j hj => by rcases (show j = 0 ∨ j = 1 ∨ j = 2 ∨ j = 3 ∨ j = 4 ∨ j = 5 ∨ j = 6 ∨ j = 7 ∨ j = 8 ∨ j = 9 by omega) with rfl | rfl | rfl | rfl | rfl | rfl | rfl | rfl | rfl | rfl <;> rfl) (Nat.le_of_ble_eq_true rfl) (Nat.le_of_ble_eq_true rfl) dX1_init_24 (fun p3 H12 hP hD hS => ?_)
  have hP : va_P (gD g) vwCl ((p3, .inr (0, [.int 0, .int 0, .int 0, .int 0, .int 0, .null, .null, .null, .null, .null])) :: ((b, .inr (1, [.ref q, .int 0])) :: vRow g q (va_up (va_up (va_up (fun _ => none) 0 (some p0)) 1 (some p1)) 2 (some p2)) :: (wX0Z g p2 u2 (wX0Z g p1 u1 (wX0Z g p0 u0 R))))) H12 := kP_perm hP kpm1
  have hD : va_D A ((p3, .inr (0, [.int 0, .int 0, .int 0, .int 0, .int 0, .null, .null, .null, .null, .null])) :: ((b, .inr (1, [.ref q, .int 0])) :: vRow g q (va_up (va_up (va_up (fun _ => none) 0 (some p0)) 1 (some p1)) 2 (some p2)) :: (wX0Z g p2 u2 (wX0Z g p1 u1 (wX0Z g p0 u0 R))))) := kD_perm hD kpm1
  refine lv_dup (pc := 27) hx hb dX1_init_27 rfl ?_
  refine va_callv (pc := 28) (va_runIN (As := []) (rest := [.ref p3, .int 3, .ref q]) ⟨hx, hb, hml, hown, hts⟩ (cX0_init_m l g A p3 ((b, .inr (1, [.ref q, .int 0])) :: vRow g q (va_up (va_up (va_up (fun _ => none) 0 (some p0)) 1 (some p1)) 2 (some p2)) :: (wX0Z g p2 u2 (wX0Z g p1 u1 (wX0Z g p0 u0 R))))) ⟨va_cnB 0 hts gX1_init_X0_init_n15 rfl rfl rfl (nm_15 hX) (hts (.initialized RX0) (by decide +kernel)) (by decide +kernel) ⟨(Nat.le_of_ble_eq_true rfl), (Nat.le_of_ble_eq_true rfl)⟩, rfl, hts (.instanceMethod yX0_init) (by decide +kernel)⟩ (cx_S hP hD hA hK hX hS) rfl rfl hl.1 rfl (lv_room (Nat.le_of_ble_eq_true rfl)) dX1_init_28 ⟨(Nat.le_of_ble_eq_true rfl), (Nat.le_of_ble_eq_true rfl)⟩) hS (fun _ _ h => h) (fun _ h => h) (fun u3 t13 H13 locs13 ht hvm hw hB hz hk hS => ?_)
  obtain ⟨hP, hD⟩ := hB
  rw [ht] at hP
  have hP : va_P (gD g) vwCl ((b, .inr (1, [.ref q, .int 0])) :: vRow g q (va_up (va_up (va_up (fun _ => none) 0 (some p0)) 1 (some p1)) 2 (some p2)) :: (wX0Z g p3 u3 (wX0Z g p2 u2 (wX0Z g p1 u1 (wX0Z g p0 u0 R))))) H13 := kP_perm hP kpm3
  have hD : va_D A ((b, .inr (1, [.ref q, .int 0])) :: vRow g q (va_up (va_up (va_up (fun _ => none) 0 (some p0)) 1 (some p1)) 2 (some p2)) :: (wX0Z g p3 u3 (wX0Z g p2 u2 (wX0Z g p1 u1 (wX0Z g p0 u0 R))))) := kD_perm hD kpm3
  refine va_astq (pc := 31) hx hb hK hP hD hS 1 2 2 0 rfl rfl rfl rfl (vp_in_nI (n := 3) (N := 4) (by decide) (by decide)) dX1_init_31 (fun H14 locs14 hP hD hS => ?_)
  have hP : va_P (gD g) vwCl ((b, .inr (1, [.ref q, .int 0])) :: vRow g q (va_up (va_up (va_up (va_up (fun _ => none) 0 (some p0)) 1 (some p1)) 2 (some p2)) 3 (some p3)) :: (wX0Z g p3 u3 (wX0Z g p2 u2 (wX0Z g p1 u1 (wX0Z g p0 u0 R))))) H14 := hP
  have hD : va_D A ((b, .inr (1, [.ref q, .int 0])) :: vRow g q (va_up (va_up (va_up (va_up (fun _ => none) 0 (some p0)) 1 (some p1)) 2 (some p2)) 3 (some p3)) :: (wX0Z g p3 u3 (wX0Z g p2 u2 (wX0Z g p1 u1 (wX0Z g p0 u0 R))))) := hD
  refine lv_iinc (v := 4) (lv' := [(1, .int 4), (0, .ref b)]) (pc := 32) hx hb dX1_init_32 hl (k := 0) rfl (by decide) (by decide) rfl (fun ls hl => ?_)
  refine lv_goto (tgt := 14) (pc := 35) hx hb dX1_init_35 (by decide) ?_
  refine lv_iload_n (pc := 14) hx hb dX1_init_14 rfl (lv_at hl 0 rfl) ?_
  refine lv_iconst (v := 4) (pc := 15) hx hb dX1_init_15 (by decide) ?_
  refine lv_icmp_ge (tgt := 38) (pc := 16) hx hb dX1_init_16 (by decide) (fun _ => ?_) (fun c1 => absurd (by decide) c1)
  refine W.widen (k := 25) (n := 528) (Nat.le_of_ble_eq_true rfl) (Nat.le_of_ble_eq_true rfl) ?_
  exact W.vret hx hb hr (fun t ht hW => ⟨⟨(q, p0, p1, p2, p3, u0, u1, u2, u3), rfl, trivial, by rw [ht]; exact hP, hD⟩, hS.F ht⟩) hS.2.2 dX1_init_38
