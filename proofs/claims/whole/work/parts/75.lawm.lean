/-! THE LAW: the mean length, which may draw; the switch; the loop -/
set_option maxHeartbeats 4000000 in
set_option maxRecDepth 100000 in
/-- the law: meanLength -/
theorem kL_meanLength {p : Program} {e : Env} {s : State} {m : MethodId} {below : List Frame} {meth : Method} {c : Code} {H : Heap} {locs : List Loc} {cells slots : Nat} {Q : State → Prop} {ls : Array Slot} {b L : Nat} {xs : Nat → Int32} {g : GA} {σ : St} {f : Nat → Int64} {th : Int32} {mi ti : Nat → Int32} {i : Nat} {d0 : Drawn} (l : Launch) (C0 : LwX p s m meth c b L xs g) (hd0 : s.drawn.sameBut d0 lw_cs) (hI : Inv σ) (hc : cells + 110 ≤ 601024) (hs : slots + 600 ≤ 7293034) (hP : va_P (gD g) vwCl (wL g σ f th mi ti) H) (hD : va_D (AL s) (wL g σ f th mi ti)) (hS : va_S (AL s) s.heap H locs) (hl : lv_has ls 9 (vL b g i)) (hgo : ∀ d', s.drawn.sameBut d' lw_cs → LwGo p l e (s.setDrawn d') m below meth c b g i Q 2306 (cells + 110) (slots + 600)) : W p l e room_1 (s.setDrawn d0) m #[Value.ref b] below meth c H locs cells slots Q (F0 m 2251 ls []) := by
  have hA : ∀ q : Nat, s.heap.size ≤ q → AL s q := fun _ h => h
  obtain ⟨hx, hb, hml, hown, hts, hX0, hbl, hK, hX, hNc, hL⟩ := C0.draw d0
  refine lv_aload_n (pc := 2251) hx hb dL_law_2251 rfl (lv_at hl 1 rfl) ?_
  refine va_calldD hd0 (pc := 2252) (va_runV_D (As := []) (rest := []) ⟨hx, hb, hml, hown, hts⟩ (cX1_meanLength_m l g (AL s) σ (ow g f ++ mw g σ th mi ti) hI) (cwV 0 hts gL_law_X1_meanLength rfl rfl rfl (by decide +kernel) ⟨Nat.le_of_ble_eq_true rfl, Nat.le_of_ble_eq_true rfl⟩) (cx_V (q0 := 0) (ci := 1) (r := (RX1, TX1, 2)) rfl (cx0 g σ (ow g f ++ mw g σ th mi ti)) hP hD hA hK hX hS) rfl rfl hl.1 rfl (lv_room (Nat.le_of_ble_eq_true rfl)) dL_law_2252 ⟨show cells + 0 ≤ 601024 by omega, show slots + 0 ≤ 7293034 by omega⟩) hS (fun _ _ h => h) (fun _ h => h) (fun r1 u1 t1 H1 locs1 ht1 hvm1 hw1 hB1 hz1 hk1 hS d1 hd1 => ?_)
  obtain ⟨hP, hD⟩ := hB1
  rw [ht1] at hP
  obtain ⟨-, -, -, -, hts, -, -, hK, hX, -, -⟩ := C0.draw d1
  refine lv_dstore (lv' := (5, .double r1) :: vL b g i) (pc := 2255) hx hb dL_law_2255 hl (by decide) rfl (fun ls hl => ?_)
  refine lv_aload_n (pc := 2257) hx hb dL_law_2257 rfl (lv_at hl 3 rfl) ?_
  have hP := kP_perm hP (wm_p g σ σ f th mi ti)
  have hD := kD_perm hD (wm_p g σ σ f th mi ti)
  refine va_calldD hd1 (pc := 2258) (va_runV_D (As := []) (rest := []) ⟨hx, hb, hml, hown, hts⟩ (cX2_meanLength_m l g (AL s) σ (cw g σ ++ ow g f) th mi ti hI) (cwV 0 hts gL_law_X2_meanLength rfl rfl rfl (by decide +kernel) ⟨Nat.le_of_ble_eq_true rfl, Nat.le_of_ble_eq_true rfl⟩) (cx_V (q0 := 0) (ci := 2) (r := (RX2, TX2, 11)) rfl (ma0 g σ th mi ti (cw g σ ++ ow g f)) hP hD hA hK hX hS) rfl rfl hl.1 rfl (lv_room (Nat.le_of_ble_eq_true rfl)) dL_law_2258 ⟨show cells + 0 + 0 ≤ 601024 by omega, show slots + 0 + 0 ≤ 7293034 by omega⟩) hS (fun _ _ h => h) (fun _ h => h) (fun r2 u2 t2 H2 locs2 ht2 hvm2 hw2 hB2 hz2 hk2 hS d2 hd2 => ?_)
  obtain ⟨hP, hD⟩ := hB2
  rw [ht2] at hP
  have hP := kP_perm hP (wm_p g σ σ f 0 mi ti).symm
  have hD := kD_perm hD (wm_p g σ σ f 0 mi ti).symm
  refine lv_dstore (lv' := (7, .double r2) :: (5, .double r1) :: vL b g i) (pc := 2261) hx hb dL_law_2261 hl (by decide) rfl (fun ls hl => ?_)
  have hl2 : lv_has ls 9 (vL b g i) := lv_sub hl [2, 3, 4, 5, 6] rfl
  have fin : W p l e room_1 (s.setDrawn d2) m #[Value.ref b] below meth c H2 locs2 (cells + 0 + 0) (slots + 0 + 0) Q (F0 m 2289 ls []) := lw_end (s := s.setDrawn d2) hx hb dL_law_2289 (by decide) (hgo d2 hd2) hI (by omega) (by omega) hP hD hS hl2
  have h2 := mn_two hw1 hw2
  refine lv_dload (pc := 2263) hx hb dL_law_2263 (lv_at hl 1 rfl) ?_
  refine lv_dload (pc := 2265) hx hb dL_law_2265 (lv_at hl 0 rfl) ?_
  refine lv_dcmp (pc := 2267) hx hb dL_law_2267 ?_
  refine lv_if_eq (tgt := 2289) (pc := 2268) hx hb dL_law_2268 (by decide) (fun _ => fin) (fun h => ?_)
  have h3 : ¬ Op.cmpValue (FP.dcmp r1 r1) .l = 0 ∧ ¬ Op.cmpValue (FP.dcmp r2 r2) .l = 0 := by
    rcases h2 with rfl | ⟨n1, n2⟩
    · exact ⟨h, h⟩
    · rw [nan_cmp n1, nan_cmp n2]
      exact ⟨by decide, by decide⟩
  refine lv_dload (pc := 2271) hx hb dL_law_2271 (lv_at hl 1 rfl) ?_
  refine lv_dload (pc := 2273) hx hb dL_law_2273 (lv_at hl 1 rfl) ?_
  refine lv_dcmp (pc := 2275) hx hb dL_law_2275 ?_
  refine lv_if_eq (tgt := 2287) (pc := 2276) hx hb dL_law_2276 (by decide) (fun z => absurd z h3.1) (fun _ => ?_)
  refine lv_dload (pc := 2279) hx hb dL_law_2279 (lv_at hl 0 rfl) ?_
  refine lv_dload (pc := 2281) hx hb dL_law_2281 (lv_at hl 0 rfl) ?_
  refine lv_dcmp (pc := 2283) hx hb dL_law_2283 ?_
  exact lv_if_ne (tgt := 2289) (pc := 2284) hx hb dL_law_2284 (by decide) (fun _ => fin) (fun z => absurd z h3.2)
