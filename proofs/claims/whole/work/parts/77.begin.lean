/-! THE LAW, from its entry: the two sides are made, then the loop -/
theorem ows_p (g0 : GA) (b q p0 p1 p2 p3 : Nat) (u0 u1 u2 u3 : U5) (b2 : Nat) (w : U9) (o : Nat) : (wL (gMk g0 b q p0 p1 p2 p3 u0 u1 u2 u3 b2 w o) sZ (fun _ => 0) 0 (fun _ => 0) (fun _ => 0)).Perm (wX2Z g0 b2 w (wX1Z g0 b q p0 p1 p2 p3 u0 u1 u2 u3 []) ++ ow (gMk g0 b q p0 p1 p2 p3 u0 u1 u2 u3 b2 w o) (fun _ => 0)) := by
  unfold wL
  rw [st_mw]
  have h1 : (cw (gMk g0 b q p0 p1 p2 p3 u0 u1 u2 u3 b2 w o) sZ).Perm (wX1Z g0 b q p0 p1 p2 p3 u0 u1 u2 u3 []) := st_x1 g0 b q p0 p1 p2 p3 u0 u1 u2 u3 [] b2 w o
  have h2 := (h1.append_right (mZl g0 b2 w)).trans (wX2Z_p g0 b2 w _)
  refine List.Perm.trans (List.Perm.append_left _ List.perm_append_comm) ?_
  rw [← List.append_assoc]
  exact h2.append_right _
set_option maxHeartbeats 4000000 in
set_option maxRecDepth 100000 in
theorem law_start {p : Program} {e : Env} {s : State} {m : MethodId} {below : List Frame} {meth : Method} {c : Code} (l : Launch) (hflags : l.flags = flags0) {b L : Nat} {xs : Nat → Int32} (hL : L ≤ 3072) (C0 : lw_At p s m meth c b L xs) : W p l e room_1 s m #[Value.ref b] below meth c s.heap [] 0 0 (lw_Z below #[Value.ref b] s) (entryFrame m ([Value.ref b] : List Value).toArray 9) := by
  obtain ⟨hx, hb, hr, hml, hown, htb, hX0, hbl, hlocks, hgv⟩ := id C0
  have hfl : l.stackTraces = false := by
    unfold Launch.stackTraces
    rw [hflags]
    decide
  have hb : c.code = cL_law := hb
  have hown : s.vm.findClass RL = some m.cls := hown
  have hts : ∀ w ∈ wsL_law, w.before #[Value.ref b] s = true := fun w h => htb w (wsL_law_in w h)
  have hAO : va_AO RX0 s := va_AO.of (htb (.arrayOver (.object RX0)) (by decide +kernel))
  have w1 := hts (.instantiable RX1 2) (by decide +kernel)
  have w2 := hts (.instantiable RX2 11) (by decide +kernel)
  have wj := hts (.arrayClass .long) (by decide +kernel)
  obtain ⟨g0, hK⟩ := st_K hts inlX0 inlX1 inlX2 (hts (.instantiable RX0 10) (by decide +kernel)) w1 w2 (hts (.arrayClass .int) (by decide +kernel)) (hts (.arrayClass .boolean) (by decide +kernel)) wj hAO
  have hX : XS (AL s) s := st_XS htb hgv
  have hNc : NcS s := st_Nc hgv
  have hA : ∀ q : Nat, s.heap.size ≤ q → AL s q := fun _ h => h
  have hS : va_S (AL s) s.heap s.heap [] := va_S.rf
  have hP : va_P (gD g0) vwCl [] s.heap := fun k q h => by simp at h
  have hD : va_D (AL s) [] := ⟨fun i j p q h => by simp at h, fun k q h => by simp at h⟩
  have hl := lv_entry ([.ref b]) (n := 9) (Nat.le_of_ble_eq_true rfl)
  rw [lg_entry_eq]
  generalize (lg_sl ([.ref b]) ++ List.replicate (9 - (lg_sl ([.ref b])).length) Slot.unset).toArray = ls at hl ⊢
  have hl : lv_has ls 9 [(0, .ref b)] := hl
  refine va_new (pc := 0) (ci := 1) (fs := [.null, .int 0]) (C := RX1) (T := TX1) (N := 2) hx hb hts inlX1 tyX1 tyX1_ok hown (hts (.classLink RL 8 RX1) (by decide +kernel)) w1 (hts (.initialized RX1) (by decide +kernel)) hK hP hD hS hA rfl (fun j hj => by rcases (show j = 0 ∨ j = 1 by omega) with rfl | rfl <;> rfl) (Nat.le_of_ble_eq_true rfl) (Nat.le_of_ble_eq_true rfl) dL_law_0 (fun bX H hP hD hS => ?_)
  have hP : va_P (gD g0) vwCl [(bX, .inr (1, [.null, .int 0]))] H := hP
  have hD : va_D (AL s) [(bX, .inr (1, [.null, .int 0]))] := hD
  refine lv_dup (pc := 3) hx hb dL_law_3 rfl ?_
  refine va_callv (pc := 4) (va_runI (As := []) (rest := [.ref bX]) ⟨hx, hb, hml, hown, hts⟩ (cX1_init_m l g0 (AL s) bX []) (cwI 0 hts gL_law_X1_init rfl rfl rfl (hts (.initialized RX1) (by decide +kernel)) (hts (.methodLink RL 109 yX1_init) (by decide +kernel)) (hts (.instanceMethod yX1_init) (by decide +kernel)) rfl (by decide +kernel) ⟨Nat.le_of_ble_eq_true rfl, Nat.le_of_ble_eq_true rfl⟩) (cxn_S hAO hP hD hA hK hX hS) rfl rfl hl.1 rfl (lv_room (Nat.le_of_ble_eq_true rfl)) dL_law_4 ⟨Nat.le_of_ble_eq_true rfl, Nat.le_of_ble_eq_true rfl⟩) hS (fun _ _ h => h) (fun _ h => h) (fun u1 t1 H1 locs1 ht1 hvm1 hw1 hB1 hz1 hk1 hS => ?_)
  obtain ⟨hP, hD⟩ := hB1
  rw [ht1] at hP
  obtain ⟨q, p0, p1, p2, p3, v0, v1, v2, v3⟩ := u1
  have hP : va_P (gD g0) vwCl (wX1Z g0 bX q p0 p1 p2 p3 v0 v1 v2 v3 []) H1 := hP
  have hD : va_D (AL s) (wX1Z g0 bX q p0 p1 p2 p3 v0 v1 v2 v3 []) := hD
  refine lv_astore_n (lv' := [(1, .ref bX), (0, .ref b)]) (pc := 7) hx hb dL_law_7 rfl hl (by decide) rfl (fun ls hl => ?_)
  refine va_new (pc := 8) (ci := 2) (fs := [.int 0, .int 0, .null, .null, .null, .null, .null, .null, .null, .null, .null]) (C := RX2) (T := TX2) (N := 11) hx hb hts inlX2 tyX2 tyX2_ok hown (hts (.classLink RL 110 RX2) (by decide +kernel)) w2 (hts (.initialized RX2) (by decide +kernel)) hK hP hD hS hA rfl (fun j hj => by rcases (show j = 0 ∨ j = 1 ∨ j = 2 ∨ j = 3 ∨ j = 4 ∨ j = 5 ∨ j = 6 ∨ j = 7 ∨ j = 8 ∨ j = 9 ∨ j = 10 by omega) with rfl | rfl | rfl | rfl | rfl | rfl | rfl | rfl | rfl | rfl | rfl <;> rfl) (Nat.le_of_ble_eq_true rfl) (Nat.le_of_ble_eq_true rfl) dL_law_8 (fun bM H hP hD hS => ?_)
  have hpm : ((bM, .inr (2, [.int 0, .int 0, .null, .null, .null, .null, .null, .null, .null, .null, .null])) :: wX1Z g0 bX q p0 p1 p2 p3 v0 v1 v2 v3 [] : va_W).Perm (wX1Z g0 bX q p0 p1 p2 p3 v0 v1 v2 v3 [] ++ [(bM, .inr (2, [.int 0, .int 0, .null, .null, .null, .null, .null, .null, .null, .null, .null]))]) := (List.perm_append_comm (l₁ := ([(bM, .inr (2, [.int 0, .int 0, .null, .null, .null, .null, .null, .null, .null, .null, .null]))] : va_W)))
  have hP := kP_perm hP hpm
  have hD := kD_perm hD hpm
  refine lv_dup (pc := 11) hx hb dL_law_11 rfl ?_
  refine va_callv (pc := 12) (va_runI (As := []) (rest := [.ref bM]) ⟨hx, hb, hml, hown, hts⟩ (cX2_init_m l g0 (AL s) bM (wX1Z g0 bX q p0 p1 p2 p3 v0 v1 v2 v3 [])) (cwI 0 hts gL_law_X2_init rfl rfl rfl (hts (.initialized RX2) (by decide +kernel)) (hts (.methodLink RL 112 yX2_init) (by decide +kernel)) (hts (.instanceMethod yX2_init) (by decide +kernel)) rfl (by decide +kernel) ⟨Nat.le_of_ble_eq_true rfl, Nat.le_of_ble_eq_true rfl⟩) (cx_S hP hD hA hK hX hS) rfl rfl hl.1 rfl (lv_room (Nat.le_of_ble_eq_true rfl)) dL_law_12 ⟨Nat.le_of_ble_eq_true rfl, Nat.le_of_ble_eq_true rfl⟩) hS (fun _ _ h => h) (fun _ h => h) (fun u2 t2 H2 locs2 ht2 hvm2 hw2 hB2 hz2 hk2 hS => ?_)
  obtain ⟨hP, hD⟩ := hB2
  rw [ht2] at hP
  refine lv_astore_n (lv' := [(2, .ref bM), (1, .ref bX), (0, .ref b)]) (pc := 15) hx hb dL_law_15 rfl hl (by decide) rfl (fun ls hl => ?_)
  refine lv_iconst (v := 1) (pc := 16) hx hb dL_law_16 (by decide) ?_
  refine k_newa (pc := 17) (atype := .long) (ty := .long) (a0 := (1, .inr (.inl (fun _ => 0)))) hx hb wj rfl hK hP hD hS hA 3 rfl (fun _ => rfl) (by decide) (by decide) (by decide) (Nat.le_of_ble_eq_true rfl) (Nat.le_of_ble_eq_true rfl) dL_law_17 (fun o H3 hP hD hS => ?_)
  refine lv_astore_n (lv' := [(3, .ref o), (2, .ref bM), (1, .ref bX), (0, .ref b)]) (pc := 19) hx hb dL_law_19 rfl hl (by decide) rfl (fun ls hl => ?_)
  refine lv_iconst (v := nI (6 * 0)) (pc := 20) hx hb dL_law_20 (by decide) ?_
  refine lv_istore (lv' := [(4, .int (nI (6 * 0))), (3, .ref o), (2, .ref bM), (1, .ref bX), (0, .ref b)]) (pc := 21) hx hb dL_law_21 hl (by decide) rfl (fun ls hl => ?_)
  have hpo := ows_p g0 bX q p0 p1 p2 p3 v0 v1 v2 v3 bM u2 o
  have hP := kP_perm hP hpo
  have hD := kD_perm hD hpo
  have CX : LwX p s m meth c b L xs (gMk g0 bX q p0 p1 p2 p3 v0 v1 v2 v3 bM u2 o) := ⟨hx, hb, hml, hown, hts, hX0, hbl, hK, hX, hNc, hL⟩
  refine W.base ?_
  exact law_loop l hfl CX hr hlocks (L + 1) 0 _ _ s.drawn (by omega) (by omega) (Nat.le_of_ble_eq_true rfl) (Nat.le_of_ble_eq_true rfl) (Drawn.sameBut.refl s.drawn lw_cs) sZ (fun _ => 0) 0 (fun _ => 0) (fun _ => 0) H3 locs2 ls inv_sZ hP hD hS (lv_sub hl [4, 3, 2, 1, 0] rfl)
