/-! THE LAW'S CASES -/
set_option maxHeartbeats 4000000 in
set_option maxRecDepth 100000 in
/-- the law: addVoice -/
theorem kL_addVoice {p : Program} {e : Env} {s : State} {m : MethodId} {below : List Frame} {meth : Method} {c : Code} {H : Heap} {locs : List Loc} {cells slots : Nat} {Q : State → Prop} {ls : Array Slot} {b L : Nat} {xs : Nat → Int32} {g : GA} {σ : St} {f : Nat → Int64} {th : Int32} {mi ti : Nat → Int32} {i : Nat} (l : Launch) (hfl : l.stackTraces = false) (C0 : LwX p s m meth c b L xs g) (hI : Inv σ) (hi : i + 6 ≤ L) (hc : cells + 110 ≤ 601024) (hs : slots + 600 ≤ 7293034) (hP : va_P (gD g) vwCl (wL g σ f th mi ti) H) (hD : va_D (AL s) (wL g σ f th mi ti)) (hS : va_S (AL s) s.heap H locs) (hl : lv_has ls 9 (vL b g i)) (hgo : LwGo p l e s m below meth c b g i Q 2306 (cells + 110) (slots + 600)) : W p l e room_1 s m #[Value.ref b] below meth c H locs cells slots Q (F0 m 188 ls []) := by
  obtain ⟨hx, hb, hml, hown, hts, hX0, hbl, hK, hX, hNc, hL⟩ := id C0
  have hA : ∀ q : Nat, s.heap.size ≤ q → AL s q := fun _ h => h
  have hbA : ¬ AL s b := Nat.not_le.mpr hbl
  have hcd : cd_addVoice σ (xs (i + 1)) (xs (i + 2)) (xs (i + 3)) ≤ 3 := (cd_addVoice_le _ _ _ _)
  refine lv_aload_n (pc := 188) hx hb dL_law_188 rfl (lv_at hl 1 rfl) ?_
  refine lw_cell (pc := 189) hx hb hX0 hbl hbA hS hL hi (lv_at hl 0 rfl) (lv_at hl 4 rfl) 1 (by decide) (by decide) dL_law_189 dL_law_190 dL_law_192 dL_law_193 dL_law_194 ?_
  refine lw_cell (pc := 195) hx hb hX0 hbl hbA hS hL hi (lv_at hl 0 rfl) (lv_at hl 4 rfl) 2 (by decide) (by decide) dL_law_195 dL_law_196 dL_law_198 dL_law_199 dL_law_200 ?_
  refine lw_cell (pc := 201) hx hb hX0 hbl hbA hS hL hi (lv_at hl 0 rfl) (lv_at hl 4 rfl) 3 (by decide) (by decide) dL_law_201 dL_law_202 dL_law_204 dL_law_205 dL_law_206 ?_
  refine lv_aload_n (pc := 207) hx hb dL_law_207 rfl (lv_at hl 3 rfl) ?_
  refine va_calli (pc := 208) (vx_runSW (As := [.ref (gX g), .int (xs (i + 1)), .int (xs (i + 2)), .int (xs (i + 3)), .ref (gO g)]) (rest := []) ⟨hx, hb, hml, hown, hts⟩ (hL_addVoice l hfl g (AL s) σ f (mw g σ th mi ti) (xs (i + 1)) (xs (i + 2)) (xs (i + 3)) hI) (vx_cwSW 5 hts gL_law_L_addVoice rfl rfl rfl (by decide +kernel) ⟨Nat.le_of_ble_eq_true rfl, Nat.le_of_ble_eq_true rfl⟩) (cxl_S hNc hP hD hA hK hX hS) rfl rfl hl.1 rfl (lv_room (Nat.le_of_ble_eq_true rfl)) dL_law_208 ⟨show cells + 4 ≤ 601024 by omega, show slots + 24 ≤ 7293034 by omega⟩) hS (fun _ _ h => h) (fun _ h => h) (fun r1 u1 t1 H1 locs1 ht1 hvm1 hw1 hB1 hz1 hk1 hS => ?_)
  obtain ⟨hP, hD⟩ := hB1
  rw [ht1] at hP
  obtain ⟨rfl, hI1, hf1⟩ := hw1
  refine lv_istore (lv' := (5, .int (nI (cd_addVoice σ (xs (i + 1)) (xs (i + 2)) (xs (i + 3))))) :: vL b g i) hx hb dL_law_211 hl (by decide) rfl (fun ls hl => ?_)
  refine lv_aload_n (pc := 213) hx hb dL_law_213 rfl (lv_at hl 3 rfl) ?_
  refine lw_cell (pc := 214) hx hb hX0 hbl hbA hS hL hi (lv_at hl 1 rfl) (lv_at hl 5 rfl) 1 (by decide) (by decide) dL_law_214 dL_law_215 dL_law_217 dL_law_218 dL_law_219 ?_
  refine lw_cell (pc := 220) hx hb hX0 hbl hbA hS hL hi (lv_at hl 1 rfl) (lv_at hl 5 rfl) 2 (by decide) (by decide) dL_law_220 dL_law_221 dL_law_223 dL_law_224 dL_law_225 ?_
  refine lw_cell (pc := 226) hx hb hX0 hbl hbA hS hL hi (lv_at hl 1 rfl) (lv_at hl 5 rfl) 3 (by decide) (by decide) dL_law_226 dL_law_227 dL_law_229 dL_law_230 dL_law_231 ?_
  have hP := kP_perm hP (wm_p g (uB (efs (cd_addVoice σ (xs (i + 1)) (xs (i + 2)) (xs (i + 3))) (ef_addVoice σ (xs (i + 1)) (xs (i + 2)) (xs (i + 3))) σ) u1.1) σ u1.2 th mi ti)
  have hD := kD_perm hD (wm_p g (uB (efs (cd_addVoice σ (xs (i + 1)) (xs (i + 2)) (xs (i + 3))) (ef_addVoice σ (xs (i + 1)) (xs (i + 2)) (xs (i + 3))) σ) u1.1) σ u1.2 th mi ti)
  refine va_calli (pc := 232) (va_runV (As := [.int (xs (i + 1)), .int (xs (i + 2)), .int (xs (i + 3))]) (rest := []) ⟨hx, hb, hml, hown, hts⟩ (cX2_addVoice_m l g (AL s) σ (cw g (uB (efs (cd_addVoice σ (xs (i + 1)) (xs (i + 2)) (xs (i + 3))) (ef_addVoice σ (xs (i + 1)) (xs (i + 2)) (xs (i + 3))) σ) u1.1) ++ ow g u1.2) th mi ti (xs (i + 1)) (xs (i + 2)) (xs (i + 3)) hI) (cwV 3 hts gL_law_X2_addVoice rfl rfl rfl (by decide +kernel) ⟨Nat.le_of_ble_eq_true rfl, Nat.le_of_ble_eq_true rfl⟩) (cx_V (q0 := 0) (ci := 2) (r := (RX2, TX2, 11)) rfl (ma0 g σ th mi ti (cw g (uB (efs (cd_addVoice σ (xs (i + 1)) (xs (i + 2)) (xs (i + 3))) (ef_addVoice σ (xs (i + 1)) (xs (i + 2)) (xs (i + 3))) σ) u1.1) ++ ow g u1.2)) hP hD hA hK hX hS) rfl rfl hl.1 rfl (lv_room (Nat.le_of_ble_eq_true rfl)) dL_law_232 ⟨show cells + 4 + 0 ≤ 601024 by omega, show slots + 24 + 0 ≤ 7293034 by omega⟩) hS (fun _ _ h => h) (fun _ h => h) (fun r2 u2 t2 H2 locs2 ht2 hvm2 hw2 hB2 hz2 hk2 hS => ?_)
  obtain ⟨hP, hD⟩ := hB2
  rw [ht2] at hP
  rw [← mw_uB g (efs (cd_addVoice σ (xs (i + 1)) (xs (i + 2)) (xs (i + 3))) (ef_addVoice σ (xs (i + 1)) (xs (i + 2)) (xs (i + 3))) σ) u1.1] at hP hD
  exact lw_tail (q := 235) C0 ⟨dL_law_235, dL_law_237, dL_law_238, dL_law_241, dL_law_243, dL_law_248⟩ ⟨dL_law_250, dL_law_253, dL_law_254, dL_law_255, dL_law_256, dL_law_258, dL_law_259, dL_law_260⟩ dL_law_265 (by decide) hcd hI1 hw2 hf1 hgo hc hs (by omega) (by omega) hP hD hS hl
set_option maxHeartbeats 4000000 in
set_option maxRecDepth 100000 in
/-- the law: addNote -/
theorem kL_addNote {p : Program} {e : Env} {s : State} {m : MethodId} {below : List Frame} {meth : Method} {c : Code} {H : Heap} {locs : List Loc} {cells slots : Nat} {Q : State → Prop} {ls : Array Slot} {b L : Nat} {xs : Nat → Int32} {g : GA} {σ : St} {f : Nat → Int64} {th : Int32} {mi ti : Nat → Int32} {i : Nat} (l : Launch) (hfl : l.stackTraces = false) (C0 : LwX p s m meth c b L xs g) (hI : Inv σ) (hi : i + 6 ≤ L) (hc : cells + 110 ≤ 601024) (hs : slots + 600 ≤ 7293034) (hP : va_P (gD g) vwCl (wL g σ f th mi ti) H) (hD : va_D (AL s) (wL g σ f th mi ti)) (hS : va_S (AL s) s.heap H locs) (hl : lv_has ls 9 (vL b g i)) (hgo : LwGo p l e s m below meth c b g i Q 2306 (cells + 110) (slots + 600)) : W p l e room_1 s m #[Value.ref b] below meth c H locs cells slots Q (F0 m 268 ls []) := by
  obtain ⟨hx, hb, hml, hown, hts, hX0, hbl, hK, hX, hNc, hL⟩ := id C0
  have hA : ∀ q : Nat, s.heap.size ≤ q → AL s q := fun _ h => h
  have hbA : ¬ AL s b := Nat.not_le.mpr hbl
  have hcd : cd_addNote σ (xs (i + 1)) (xs (i + 2)) (xs (i + 3)) ≤ 3 := (cd_addNote_le _ _ _ _)
  refine lv_aload_n (pc := 268) hx hb dL_law_268 rfl (lv_at hl 1 rfl) ?_
  refine lw_cell (pc := 269) hx hb hX0 hbl hbA hS hL hi (lv_at hl 0 rfl) (lv_at hl 4 rfl) 1 (by decide) (by decide) dL_law_269 dL_law_270 dL_law_272 dL_law_273 dL_law_274 ?_
  refine lw_cell (pc := 275) hx hb hX0 hbl hbA hS hL hi (lv_at hl 0 rfl) (lv_at hl 4 rfl) 2 (by decide) (by decide) dL_law_275 dL_law_276 dL_law_278 dL_law_279 dL_law_280 ?_
  refine lw_cell (pc := 281) hx hb hX0 hbl hbA hS hL hi (lv_at hl 0 rfl) (lv_at hl 4 rfl) 3 (by decide) (by decide) dL_law_281 dL_law_282 dL_law_284 dL_law_285 dL_law_286 ?_
  refine lw_cell (pc := 287) hx hb hX0 hbl hbA hS hL hi (lv_at hl 0 rfl) (lv_at hl 4 rfl) 4 (by decide) (by decide) dL_law_287 dL_law_288 dL_law_290 dL_law_291 dL_law_292 ?_
  refine lw_flag (pc := 293) hx hb dL_law_293 dL_law_296 dL_law_297 dL_law_300 ?_
  refine lv_aload_n (pc := 301) hx hb dL_law_301 rfl (lv_at hl 3 rfl) ?_
  refine va_calli (pc := 302) (vx_runSW (As := [.ref (gX g), .int (xs (i + 1)), .int (xs (i + 2)), .int (xs (i + 3)), .int (bI (!decide (xs (i + 4) = 0))), .ref (gO g)]) (rest := []) ⟨hx, hb, hml, hown, hts⟩ (hL_addNote l hfl g (AL s) σ f (mw g σ th mi ti) (xs (i + 1)) (xs (i + 2)) (xs (i + 3)) (!decide (xs (i + 4) = 0)) hI) (vx_cwSW 6 hts gL_law_L_addNote rfl rfl rfl (by decide +kernel) ⟨Nat.le_of_ble_eq_true rfl, Nat.le_of_ble_eq_true rfl⟩) (cxl_S hNc hP hD hA hK hX hS) rfl rfl hl.1 rfl (lv_room (Nat.le_of_ble_eq_true rfl)) dL_law_302 ⟨show cells + 4 ≤ 601024 by omega, show slots + 24 ≤ 7293034 by omega⟩) hS (fun _ _ h => h) (fun _ h => h) (fun r1 u1 t1 H1 locs1 ht1 hvm1 hw1 hB1 hz1 hk1 hS => ?_)
  obtain ⟨hP, hD⟩ := hB1
  rw [ht1] at hP
  obtain ⟨rfl, hI1, hf1⟩ := hw1
  refine lv_istore (lv' := (5, .int (nI (cd_addNote σ (xs (i + 1)) (xs (i + 2)) (xs (i + 3))))) :: vL b g i) hx hb dL_law_305 hl (by decide) rfl (fun ls hl => ?_)
  refine lv_aload_n (pc := 307) hx hb dL_law_307 rfl (lv_at hl 3 rfl) ?_
  refine lw_cell (pc := 308) hx hb hX0 hbl hbA hS hL hi (lv_at hl 1 rfl) (lv_at hl 5 rfl) 1 (by decide) (by decide) dL_law_308 dL_law_309 dL_law_311 dL_law_312 dL_law_313 ?_
  refine lw_cell (pc := 314) hx hb hX0 hbl hbA hS hL hi (lv_at hl 1 rfl) (lv_at hl 5 rfl) 2 (by decide) (by decide) dL_law_314 dL_law_315 dL_law_317 dL_law_318 dL_law_319 ?_
  refine lw_cell (pc := 320) hx hb hX0 hbl hbA hS hL hi (lv_at hl 1 rfl) (lv_at hl 5 rfl) 3 (by decide) (by decide) dL_law_320 dL_law_321 dL_law_323 dL_law_324 dL_law_325 ?_
  refine lw_cell (pc := 326) hx hb hX0 hbl hbA hS hL hi (lv_at hl 1 rfl) (lv_at hl 5 rfl) 4 (by decide) (by decide) dL_law_326 dL_law_327 dL_law_329 dL_law_330 dL_law_331 ?_
  refine lw_flag (pc := 332) hx hb dL_law_332 dL_law_335 dL_law_336 dL_law_339 ?_
  have hP := kP_perm hP (wm_p g (uB (efs (cd_addNote σ (xs (i + 1)) (xs (i + 2)) (xs (i + 3))) (apS σ (ix (xs (i + 1))) (ix (xs (i + 2))) (xs (i + 3)) (!decide (xs (i + 4) = 0)) (-1)) σ) u1.1) σ u1.2 th mi ti)
  have hD := kD_perm hD (wm_p g (uB (efs (cd_addNote σ (xs (i + 1)) (xs (i + 2)) (xs (i + 3))) (apS σ (ix (xs (i + 1))) (ix (xs (i + 2))) (xs (i + 3)) (!decide (xs (i + 4) = 0)) (-1)) σ) u1.1) σ u1.2 th mi ti)
  refine va_calli (pc := 340) (va_runV (As := [.int (xs (i + 1)), .int (xs (i + 2)), .int (xs (i + 3)), .int (bI (!decide (xs (i + 4) = 0)))]) (rest := []) ⟨hx, hb, hml, hown, hts⟩ (cX2_addNote_m l g (AL s) σ (cw g (uB (efs (cd_addNote σ (xs (i + 1)) (xs (i + 2)) (xs (i + 3))) (apS σ (ix (xs (i + 1))) (ix (xs (i + 2))) (xs (i + 3)) (!decide (xs (i + 4) = 0)) (-1)) σ) u1.1) ++ ow g u1.2) th mi ti (xs (i + 1)) (xs (i + 2)) (xs (i + 3)) (!decide (xs (i + 4) = 0)) hI) (cwV 4 hts gL_law_X2_addNote rfl rfl rfl (by decide +kernel) ⟨Nat.le_of_ble_eq_true rfl, Nat.le_of_ble_eq_true rfl⟩) (cx_V (q0 := 0) (ci := 2) (r := (RX2, TX2, 11)) rfl (ma0 g σ th mi ti (cw g (uB (efs (cd_addNote σ (xs (i + 1)) (xs (i + 2)) (xs (i + 3))) (apS σ (ix (xs (i + 1))) (ix (xs (i + 2))) (xs (i + 3)) (!decide (xs (i + 4) = 0)) (-1)) σ) u1.1) ++ ow g u1.2)) hP hD hA hK hX hS) rfl rfl hl.1 rfl (lv_room (Nat.le_of_ble_eq_true rfl)) dL_law_340 ⟨show cells + 4 + 0 ≤ 601024 by omega, show slots + 24 + 0 ≤ 7293034 by omega⟩) hS (fun _ _ h => h) (fun _ h => h) (fun r2 u2 t2 H2 locs2 ht2 hvm2 hw2 hB2 hz2 hk2 hS => ?_)
  obtain ⟨hP, hD⟩ := hB2
  rw [ht2] at hP
  rw [← mw_uB g (efs (cd_addNote σ (xs (i + 1)) (xs (i + 2)) (xs (i + 3))) (apS σ (ix (xs (i + 1))) (ix (xs (i + 2))) (xs (i + 3)) (!decide (xs (i + 4) = 0)) (-1)) σ) u1.1] at hP hD
  exact lw_tail (q := 343) C0 ⟨dL_law_343, dL_law_345, dL_law_346, dL_law_349, dL_law_351, dL_law_356⟩ ⟨dL_law_358, dL_law_361, dL_law_362, dL_law_363, dL_law_364, dL_law_366, dL_law_367, dL_law_368⟩ dL_law_373 (by decide) hcd hI1 hw2 hf1 hgo hc hs (by omega) (by omega) hP hD hS hl
set_option maxHeartbeats 4000000 in
set_option maxRecDepth 100000 in
/-- the law: addRest -/
theorem kL_addRest {p : Program} {e : Env} {s : State} {m : MethodId} {below : List Frame} {meth : Method} {c : Code} {H : Heap} {locs : List Loc} {cells slots : Nat} {Q : State → Prop} {ls : Array Slot} {b L : Nat} {xs : Nat → Int32} {g : GA} {σ : St} {f : Nat → Int64} {th : Int32} {mi ti : Nat → Int32} {i : Nat} (l : Launch) (hfl : l.stackTraces = false) (C0 : LwX p s m meth c b L xs g) (hI : Inv σ) (hi : i + 6 ≤ L) (hc : cells + 110 ≤ 601024) (hs : slots + 600 ≤ 7293034) (hP : va_P (gD g) vwCl (wL g σ f th mi ti) H) (hD : va_D (AL s) (wL g σ f th mi ti)) (hS : va_S (AL s) s.heap H locs) (hl : lv_has ls 9 (vL b g i)) (hgo : LwGo p l e s m below meth c b g i Q 2306 (cells + 110) (slots + 600)) : W p l e room_1 s m #[Value.ref b] below meth c H locs cells slots Q (F0 m 376 ls []) := by
  obtain ⟨hx, hb, hml, hown, hts, hX0, hbl, hK, hX, hNc, hL⟩ := id C0
  have hA : ∀ q : Nat, s.heap.size ≤ q → AL s q := fun _ h => h
  have hbA : ¬ AL s b := Nat.not_le.mpr hbl
  have hcd : cd_addRest σ (xs (i + 1)) (xs (i + 2)) ≤ 3 := (cd_addRest_le _ _ _)
  refine lv_aload_n (pc := 376) hx hb dL_law_376 rfl (lv_at hl 1 rfl) ?_
  refine lw_cell (pc := 377) hx hb hX0 hbl hbA hS hL hi (lv_at hl 0 rfl) (lv_at hl 4 rfl) 1 (by decide) (by decide) dL_law_377 dL_law_378 dL_law_380 dL_law_381 dL_law_382 ?_
  refine lw_cell (pc := 383) hx hb hX0 hbl hbA hS hL hi (lv_at hl 0 rfl) (lv_at hl 4 rfl) 2 (by decide) (by decide) dL_law_383 dL_law_384 dL_law_386 dL_law_387 dL_law_388 ?_
  refine lv_aload_n (pc := 389) hx hb dL_law_389 rfl (lv_at hl 3 rfl) ?_
  refine va_calli (pc := 390) (vx_runSW (As := [.ref (gX g), .int (xs (i + 1)), .int (xs (i + 2)), .ref (gO g)]) (rest := []) ⟨hx, hb, hml, hown, hts⟩ (hL_addRest l hfl g (AL s) σ f (mw g σ th mi ti) (xs (i + 1)) (xs (i + 2)) hI) (vx_cwSW 4 hts gL_law_L_addRest rfl rfl rfl (by decide +kernel) ⟨Nat.le_of_ble_eq_true rfl, Nat.le_of_ble_eq_true rfl⟩) (cxl_S hNc hP hD hA hK hX hS) rfl rfl hl.1 rfl (lv_room (Nat.le_of_ble_eq_true rfl)) dL_law_390 ⟨show cells + 3 ≤ 601024 by omega, show slots + 18 ≤ 7293034 by omega⟩) hS (fun _ _ h => h) (fun _ h => h) (fun r1 u1 t1 H1 locs1 ht1 hvm1 hw1 hB1 hz1 hk1 hS => ?_)
  obtain ⟨hP, hD⟩ := hB1
  rw [ht1] at hP
  obtain ⟨rfl, hI1, hf1⟩ := hw1
  refine lv_istore (lv' := (5, .int (nI (cd_addRest σ (xs (i + 1)) (xs (i + 2))))) :: vL b g i) hx hb dL_law_393 hl (by decide) rfl (fun ls hl => ?_)
  refine lv_aload_n (pc := 395) hx hb dL_law_395 rfl (lv_at hl 3 rfl) ?_
  refine lw_cell (pc := 396) hx hb hX0 hbl hbA hS hL hi (lv_at hl 1 rfl) (lv_at hl 5 rfl) 1 (by decide) (by decide) dL_law_396 dL_law_397 dL_law_399 dL_law_400 dL_law_401 ?_
  refine lw_cell (pc := 402) hx hb hX0 hbl hbA hS hL hi (lv_at hl 1 rfl) (lv_at hl 5 rfl) 2 (by decide) (by decide) dL_law_402 dL_law_403 dL_law_405 dL_law_406 dL_law_407 ?_
  have hP := kP_perm hP (wm_p g (uB (efs (cd_addRest σ (xs (i + 1)) (xs (i + 2))) (apS σ (ix (xs (i + 1))) (ix (xs (i + 2))) (-1) false (-1)) σ) u1.1) σ u1.2 th mi ti)
  have hD := kD_perm hD (wm_p g (uB (efs (cd_addRest σ (xs (i + 1)) (xs (i + 2))) (apS σ (ix (xs (i + 1))) (ix (xs (i + 2))) (-1) false (-1)) σ) u1.1) σ u1.2 th mi ti)
  refine va_calli (pc := 408) (va_runV (As := [.int (xs (i + 1)), .int (xs (i + 2))]) (rest := []) ⟨hx, hb, hml, hown, hts⟩ (cX2_addRest_m l g (AL s) σ (cw g (uB (efs (cd_addRest σ (xs (i + 1)) (xs (i + 2))) (apS σ (ix (xs (i + 1))) (ix (xs (i + 2))) (-1) false (-1)) σ) u1.1) ++ ow g u1.2) th mi ti (xs (i + 1)) (xs (i + 2)) hI) (cwV 2 hts gL_law_X2_addRest rfl rfl rfl (by decide +kernel) ⟨Nat.le_of_ble_eq_true rfl, Nat.le_of_ble_eq_true rfl⟩) (cx_V (q0 := 0) (ci := 2) (r := (RX2, TX2, 11)) rfl (ma0 g σ th mi ti (cw g (uB (efs (cd_addRest σ (xs (i + 1)) (xs (i + 2))) (apS σ (ix (xs (i + 1))) (ix (xs (i + 2))) (-1) false (-1)) σ) u1.1) ++ ow g u1.2)) hP hD hA hK hX hS) rfl rfl hl.1 rfl (lv_room (Nat.le_of_ble_eq_true rfl)) dL_law_408 ⟨show cells + 3 + 0 ≤ 601024 by omega, show slots + 18 + 0 ≤ 7293034 by omega⟩) hS (fun _ _ h => h) (fun _ h => h) (fun r2 u2 t2 H2 locs2 ht2 hvm2 hw2 hB2 hz2 hk2 hS => ?_)
  obtain ⟨hP, hD⟩ := hB2
  rw [ht2] at hP
  rw [← mw_uB g (efs (cd_addRest σ (xs (i + 1)) (xs (i + 2))) (apS σ (ix (xs (i + 1))) (ix (xs (i + 2))) (-1) false (-1)) σ) u1.1] at hP hD
  exact lw_tail (q := 411) C0 ⟨dL_law_411, dL_law_413, dL_law_414, dL_law_417, dL_law_419, dL_law_424⟩ ⟨dL_law_426, dL_law_429, dL_law_430, dL_law_431, dL_law_432, dL_law_434, dL_law_435, dL_law_436⟩ dL_law_441 (by decide) hcd hI1 hw2 hf1 hgo hc hs (by omega) (by omega) hP hD hS hl
set_option maxHeartbeats 4000000 in
set_option maxRecDepth 100000 in
/-- the law: addLigature -/
theorem kL_addLigature {p : Program} {e : Env} {s : State} {m : MethodId} {below : List Frame} {meth : Method} {c : Code} {H : Heap} {locs : List Loc} {cells slots : Nat} {Q : State → Prop} {ls : Array Slot} {b L : Nat} {xs : Nat → Int32} {g : GA} {σ : St} {f : Nat → Int64} {th : Int32} {mi ti : Nat → Int32} {i : Nat} (l : Launch) (hfl : l.stackTraces = false) (C0 : LwX p s m meth c b L xs g) (hI : Inv σ) (hi : i + 6 ≤ L) (hc : cells + 110 ≤ 601024) (hs : slots + 600 ≤ 7293034) (hP : va_P (gD g) vwCl (wL g σ f th mi ti) H) (hD : va_D (AL s) (wL g σ f th mi ti)) (hS : va_S (AL s) s.heap H locs) (hl : lv_has ls 9 (vL b g i)) (hgo : LwGo p l e s m below meth c b g i Q 2306 (cells + 110) (slots + 600)) : W p l e room_1 s m #[Value.ref b] below meth c H locs cells slots Q (F0 m 444 ls []) := by
  obtain ⟨hx, hb, hml, hown, hts, hX0, hbl, hK, hX, hNc, hL⟩ := id C0
  have hA : ∀ q : Nat, s.heap.size ≤ q → AL s q := fun _ h => h
  have hbA : ¬ AL s b := Nat.not_le.mpr hbl
  have hcd : cd_addLigature σ (xs (i + 1)) (xs (i + 2)) (xs (i + 3)) (xs (i + 4)) ≤ 3 := (cd_addLigature_le _ _ _ _ _)
  refine lv_aload_n (pc := 444) hx hb dL_law_444 rfl (lv_at hl 1 rfl) ?_
  refine lw_cell (pc := 445) hx hb hX0 hbl hbA hS hL hi (lv_at hl 0 rfl) (lv_at hl 4 rfl) 1 (by decide) (by decide) dL_law_445 dL_law_446 dL_law_448 dL_law_449 dL_law_450 ?_
  refine lw_cell (pc := 451) hx hb hX0 hbl hbA hS hL hi (lv_at hl 0 rfl) (lv_at hl 4 rfl) 2 (by decide) (by decide) dL_law_451 dL_law_452 dL_law_454 dL_law_455 dL_law_456 ?_
  refine lw_cell (pc := 457) hx hb hX0 hbl hbA hS hL hi (lv_at hl 0 rfl) (lv_at hl 4 rfl) 3 (by decide) (by decide) dL_law_457 dL_law_458 dL_law_460 dL_law_461 dL_law_462 ?_
  refine lw_cell (pc := 463) hx hb hX0 hbl hbA hS hL hi (lv_at hl 0 rfl) (lv_at hl 4 rfl) 4 (by decide) (by decide) dL_law_463 dL_law_464 dL_law_466 dL_law_467 dL_law_468 ?_
  refine lw_cell (pc := 469) hx hb hX0 hbl hbA hS hL hi (lv_at hl 0 rfl) (lv_at hl 4 rfl) 5 (by decide) (by decide) dL_law_469 dL_law_470 dL_law_472 dL_law_473 dL_law_474 ?_
  refine lw_flag (pc := 475) hx hb dL_law_475 dL_law_478 dL_law_479 dL_law_482 ?_
  refine lv_aload_n (pc := 483) hx hb dL_law_483 rfl (lv_at hl 3 rfl) ?_
  refine va_calli (pc := 484) (vx_runSW (As := [.ref (gX g), .int (xs (i + 1)), .int (xs (i + 2)), .int (xs (i + 3)), .int (xs (i + 4)), .int (bI (!decide (xs (i + 5) = 0))), .ref (gO g)]) (rest := []) ⟨hx, hb, hml, hown, hts⟩ (hL_addLigature l hfl g (AL s) σ f (mw g σ th mi ti) (xs (i + 1)) (xs (i + 2)) (xs (i + 3)) (xs (i + 4)) (!decide (xs (i + 5) = 0)) hI) (vx_cwSW 7 hts gL_law_L_addLigature rfl rfl rfl (by decide +kernel) ⟨Nat.le_of_ble_eq_true rfl, Nat.le_of_ble_eq_true rfl⟩) (cxl_S hNc hP hD hA hK hX hS) rfl rfl hl.1 rfl (lv_room (Nat.le_of_ble_eq_true rfl)) dL_law_484 ⟨show cells + 6 ≤ 601024 by omega, show slots + 36 ≤ 7293034 by omega⟩) hS (fun _ _ h => h) (fun _ h => h) (fun r1 u1 t1 H1 locs1 ht1 hvm1 hw1 hB1 hz1 hk1 hS => ?_)
  obtain ⟨hP, hD⟩ := hB1
  rw [ht1] at hP
  obtain ⟨rfl, hI1, hf1⟩ := hw1
  refine lv_istore (lv' := (5, .int (nI (cd_addLigature σ (xs (i + 1)) (xs (i + 2)) (xs (i + 3)) (xs (i + 4))))) :: vL b g i) hx hb dL_law_487 hl (by decide) rfl (fun ls hl => ?_)
  refine lv_aload_n (pc := 489) hx hb dL_law_489 rfl (lv_at hl 3 rfl) ?_
  refine lw_cell (pc := 490) hx hb hX0 hbl hbA hS hL hi (lv_at hl 1 rfl) (lv_at hl 5 rfl) 1 (by decide) (by decide) dL_law_490 dL_law_491 dL_law_493 dL_law_494 dL_law_495 ?_
  refine lw_cell (pc := 496) hx hb hX0 hbl hbA hS hL hi (lv_at hl 1 rfl) (lv_at hl 5 rfl) 2 (by decide) (by decide) dL_law_496 dL_law_497 dL_law_499 dL_law_500 dL_law_501 ?_
  refine lw_cell (pc := 502) hx hb hX0 hbl hbA hS hL hi (lv_at hl 1 rfl) (lv_at hl 5 rfl) 3 (by decide) (by decide) dL_law_502 dL_law_503 dL_law_505 dL_law_506 dL_law_507 ?_
  refine lw_cell (pc := 508) hx hb hX0 hbl hbA hS hL hi (lv_at hl 1 rfl) (lv_at hl 5 rfl) 4 (by decide) (by decide) dL_law_508 dL_law_509 dL_law_511 dL_law_512 dL_law_513 ?_
  refine lw_cell (pc := 514) hx hb hX0 hbl hbA hS hL hi (lv_at hl 1 rfl) (lv_at hl 5 rfl) 5 (by decide) (by decide) dL_law_514 dL_law_515 dL_law_517 dL_law_518 dL_law_519 ?_
  refine lw_flag (pc := 520) hx hb dL_law_520 dL_law_523 dL_law_524 dL_law_527 ?_
  have hP := kP_perm hP (wm_p g (uB (efs (cd_addLigature σ (xs (i + 1)) (xs (i + 2)) (xs (i + 3)) (xs (i + 4))) (ef_addLigature σ (ix (xs (i + 1))) (xs (i + 2)) (xs (i + 3)) (xs (i + 4)) (!decide (xs (i + 5) = 0))) σ) u1.1) σ u1.2 th mi ti)
  have hD := kD_perm hD (wm_p g (uB (efs (cd_addLigature σ (xs (i + 1)) (xs (i + 2)) (xs (i + 3)) (xs (i + 4))) (ef_addLigature σ (ix (xs (i + 1))) (xs (i + 2)) (xs (i + 3)) (xs (i + 4)) (!decide (xs (i + 5) = 0))) σ) u1.1) σ u1.2 th mi ti)
  refine va_calli (pc := 528) (va_runV (As := [.int (xs (i + 1)), .int (xs (i + 2)), .int (xs (i + 3)), .int (xs (i + 4)), .int (bI (!decide (xs (i + 5) = 0)))]) (rest := []) ⟨hx, hb, hml, hown, hts⟩ (cX2_addLigature_m l g (AL s) σ (cw g (uB (efs (cd_addLigature σ (xs (i + 1)) (xs (i + 2)) (xs (i + 3)) (xs (i + 4))) (ef_addLigature σ (ix (xs (i + 1))) (xs (i + 2)) (xs (i + 3)) (xs (i + 4)) (!decide (xs (i + 5) = 0))) σ) u1.1) ++ ow g u1.2) th mi ti (xs (i + 1)) (xs (i + 2)) (xs (i + 3)) (xs (i + 4)) (!decide (xs (i + 5) = 0)) hI) (cwV 5 hts gL_law_X2_addLigature rfl rfl rfl (by decide +kernel) ⟨Nat.le_of_ble_eq_true rfl, Nat.le_of_ble_eq_true rfl⟩) (cx_V (q0 := 0) (ci := 2) (r := (RX2, TX2, 11)) rfl (ma0 g σ th mi ti (cw g (uB (efs (cd_addLigature σ (xs (i + 1)) (xs (i + 2)) (xs (i + 3)) (xs (i + 4))) (ef_addLigature σ (ix (xs (i + 1))) (xs (i + 2)) (xs (i + 3)) (xs (i + 4)) (!decide (xs (i + 5) = 0))) σ) u1.1) ++ ow g u1.2)) hP hD hA hK hX hS) rfl rfl hl.1 rfl (lv_room (Nat.le_of_ble_eq_true rfl)) dL_law_528 ⟨show cells + 6 + 0 ≤ 601024 by omega, show slots + 36 + 0 ≤ 7293034 by omega⟩) hS (fun _ _ h => h) (fun _ h => h) (fun r2 u2 t2 H2 locs2 ht2 hvm2 hw2 hB2 hz2 hk2 hS => ?_)
  obtain ⟨hP, hD⟩ := hB2
  rw [ht2] at hP
  rw [← mw_uB g (efs (cd_addLigature σ (xs (i + 1)) (xs (i + 2)) (xs (i + 3)) (xs (i + 4))) (ef_addLigature σ (ix (xs (i + 1))) (xs (i + 2)) (xs (i + 3)) (xs (i + 4)) (!decide (xs (i + 5) = 0))) σ) u1.1] at hP hD
  exact lw_tail (q := 531) C0 ⟨dL_law_531, dL_law_533, dL_law_534, dL_law_537, dL_law_539, dL_law_544⟩ ⟨dL_law_546, dL_law_549, dL_law_550, dL_law_551, dL_law_552, dL_law_554, dL_law_555, dL_law_556⟩ dL_law_561 (by decide) hcd hI1 hw2 hf1 hgo hc hs (by omega) (by omega) hP hD hS hl
set_option maxHeartbeats 4000000 in
set_option maxRecDepth 100000 in
/-- the law: erase -/
theorem kL_erase {p : Program} {e : Env} {s : State} {m : MethodId} {below : List Frame} {meth : Method} {c : Code} {H : Heap} {locs : List Loc} {cells slots : Nat} {Q : State → Prop} {ls : Array Slot} {b L : Nat} {xs : Nat → Int32} {g : GA} {σ : St} {f : Nat → Int64} {th : Int32} {mi ti : Nat → Int32} {i : Nat} (l : Launch) (hfl : l.stackTraces = false) (C0 : LwX p s m meth c b L xs g) (hI : Inv σ) (hi : i + 6 ≤ L) (hc : cells + 110 ≤ 601024) (hs : slots + 600 ≤ 7293034) (hP : va_P (gD g) vwCl (wL g σ f th mi ti) H) (hD : va_D (AL s) (wL g σ f th mi ti)) (hS : va_S (AL s) s.heap H locs) (hl : lv_has ls 9 (vL b g i)) (hgo : LwGo p l e s m below meth c b g i Q 2306 (cells + 110) (slots + 600)) : W p l e room_1 s m #[Value.ref b] below meth c H locs cells slots Q (F0 m 564 ls []) := by
  obtain ⟨hx, hb, hml, hown, hts, hX0, hbl, hK, hX, hNc, hL⟩ := id C0
  have hA : ∀ q : Nat, s.heap.size ≤ q → AL s q := fun _ h => h
  have hbA : ¬ AL s b := Nat.not_le.mpr hbl
  have hcd : cd_erase σ (xs (i + 1)) ≤ 3 := (cd_erase_le _ _)
  refine lv_aload_n (pc := 564) hx hb dL_law_564 rfl (lv_at hl 1 rfl) ?_
  refine lw_cell (pc := 565) hx hb hX0 hbl hbA hS hL hi (lv_at hl 0 rfl) (lv_at hl 4 rfl) 1 (by decide) (by decide) dL_law_565 dL_law_566 dL_law_568 dL_law_569 dL_law_570 ?_
  refine lv_aload_n (pc := 571) hx hb dL_law_571 rfl (lv_at hl 3 rfl) ?_
  refine va_calli (pc := 572) (vx_runSW (As := [.ref (gX g), .int (xs (i + 1)), .ref (gO g)]) (rest := []) ⟨hx, hb, hml, hown, hts⟩ (hL_erase l hfl g (AL s) σ f (mw g σ th mi ti) (xs (i + 1)) hI) (vx_cwSW 3 hts gL_law_L_erase rfl rfl rfl (by decide +kernel) ⟨Nat.le_of_ble_eq_true rfl, Nat.le_of_ble_eq_true rfl⟩) (cxl_S hNc hP hD hA hK hX hS) rfl rfl hl.1 rfl (lv_room (Nat.le_of_ble_eq_true rfl)) dL_law_572 ⟨show cells + 2 ≤ 601024 by omega, show slots + 12 ≤ 7293034 by omega⟩) hS (fun _ _ h => h) (fun _ h => h) (fun r1 u1 t1 H1 locs1 ht1 hvm1 hw1 hB1 hz1 hk1 hS => ?_)
  obtain ⟨hP, hD⟩ := hB1
  rw [ht1] at hP
  obtain ⟨rfl, hI1, hf1⟩ := hw1
  refine lv_istore (lv' := (5, .int (nI (cd_erase σ (xs (i + 1))))) :: vL b g i) hx hb dL_law_575 hl (by decide) rfl (fun ls hl => ?_)
  refine lv_aload_n (pc := 577) hx hb dL_law_577 rfl (lv_at hl 3 rfl) ?_
  refine lw_cell (pc := 578) hx hb hX0 hbl hbA hS hL hi (lv_at hl 1 rfl) (lv_at hl 5 rfl) 1 (by decide) (by decide) dL_law_578 dL_law_579 dL_law_581 dL_law_582 dL_law_583 ?_
  have hP := kP_perm hP (wm_p g (uB (efs (cd_erase σ (xs (i + 1))) (uC σ (ix (xs (i + 1))) (sC σ (ix (xs (i + 1))) - drN (sT σ (ix (xs (i + 1))) (sC σ (ix (xs (i + 1))) - 1)))) σ) u1.1) σ u1.2 th mi ti)
  have hD := kD_perm hD (wm_p g (uB (efs (cd_erase σ (xs (i + 1))) (uC σ (ix (xs (i + 1))) (sC σ (ix (xs (i + 1))) - drN (sT σ (ix (xs (i + 1))) (sC σ (ix (xs (i + 1))) - 1)))) σ) u1.1) σ u1.2 th mi ti)
  refine va_calli (pc := 584) (va_runV (As := [.int (xs (i + 1))]) (rest := []) ⟨hx, hb, hml, hown, hts⟩ (cX2_erase_m l g (AL s) σ (cw g (uB (efs (cd_erase σ (xs (i + 1))) (uC σ (ix (xs (i + 1))) (sC σ (ix (xs (i + 1))) - drN (sT σ (ix (xs (i + 1))) (sC σ (ix (xs (i + 1))) - 1)))) σ) u1.1) ++ ow g u1.2) th mi ti (xs (i + 1)) hI) (cwV 1 hts gL_law_X2_erase rfl rfl rfl (by decide +kernel) ⟨Nat.le_of_ble_eq_true rfl, Nat.le_of_ble_eq_true rfl⟩) (cx_V (q0 := 0) (ci := 2) (r := (RX2, TX2, 11)) rfl (ma0 g σ th mi ti (cw g (uB (efs (cd_erase σ (xs (i + 1))) (uC σ (ix (xs (i + 1))) (sC σ (ix (xs (i + 1))) - drN (sT σ (ix (xs (i + 1))) (sC σ (ix (xs (i + 1))) - 1)))) σ) u1.1) ++ ow g u1.2)) hP hD hA hK hX hS) rfl rfl hl.1 rfl (lv_room (Nat.le_of_ble_eq_true rfl)) dL_law_584 ⟨show cells + 2 + 0 ≤ 601024 by omega, show slots + 12 + 0 ≤ 7293034 by omega⟩) hS (fun _ _ h => h) (fun _ h => h) (fun r2 u2 t2 H2 locs2 ht2 hvm2 hw2 hB2 hz2 hk2 hS => ?_)
  obtain ⟨hP, hD⟩ := hB2
  rw [ht2] at hP
  rw [← mw_uB g (efs (cd_erase σ (xs (i + 1))) (uC σ (ix (xs (i + 1))) (sC σ (ix (xs (i + 1))) - drN (sT σ (ix (xs (i + 1))) (sC σ (ix (xs (i + 1))) - 1)))) σ) u1.1] at hP hD
  exact lw_tail (q := 587) C0 ⟨dL_law_587, dL_law_589, dL_law_590, dL_law_593, dL_law_595, dL_law_600⟩ ⟨dL_law_602, dL_law_605, dL_law_606, dL_law_607, dL_law_608, dL_law_610, dL_law_611, dL_law_612⟩ dL_law_617 (by decide) hcd hI1 hw2 hf1 hgo hc hs (by omega) (by omega) hP hD hS hl
set_option maxHeartbeats 4000000 in
set_option maxRecDepth 100000 in
/-- the law: recolour -/
theorem kL_recolour {p : Program} {e : Env} {s : State} {m : MethodId} {below : List Frame} {meth : Method} {c : Code} {H : Heap} {locs : List Loc} {cells slots : Nat} {Q : State → Prop} {ls : Array Slot} {b L : Nat} {xs : Nat → Int32} {g : GA} {σ : St} {f : Nat → Int64} {th : Int32} {mi ti : Nat → Int32} {i : Nat} (l : Launch) (hfl : l.stackTraces = false) (C0 : LwX p s m meth c b L xs g) (hI : Inv σ) (hi : i + 6 ≤ L) (hc : cells + 110 ≤ 601024) (hs : slots + 600 ≤ 7293034) (hP : va_P (gD g) vwCl (wL g σ f th mi ti) H) (hD : va_D (AL s) (wL g σ f th mi ti)) (hS : va_S (AL s) s.heap H locs) (hl : lv_has ls 9 (vL b g i)) (hgo : LwGo p l e s m below meth c b g i Q 2306 (cells + 110) (slots + 600)) : W p l e room_1 s m #[Value.ref b] below meth c H locs cells slots Q (F0 m 620 ls []) := by
  obtain ⟨hx, hb, hml, hown, hts, hX0, hbl, hK, hX, hNc, hL⟩ := id C0
  have hA : ∀ q : Nat, s.heap.size ≤ q → AL s q := fun _ h => h
  have hbA : ¬ AL s b := Nat.not_le.mpr hbl
  have hcd : cd_recolour σ (xs (i + 1)) (xs (i + 2)) ≤ 3 := (cd_recolour_le _ _ _)
  refine lv_aload_n (pc := 620) hx hb dL_law_620 rfl (lv_at hl 1 rfl) ?_
  refine lw_cell (pc := 621) hx hb hX0 hbl hbA hS hL hi (lv_at hl 0 rfl) (lv_at hl 4 rfl) 1 (by decide) (by decide) dL_law_621 dL_law_622 dL_law_624 dL_law_625 dL_law_626 ?_
  refine lw_cell (pc := 627) hx hb hX0 hbl hbA hS hL hi (lv_at hl 0 rfl) (lv_at hl 4 rfl) 2 (by decide) (by decide) dL_law_627 dL_law_628 dL_law_630 dL_law_631 dL_law_632 ?_
  refine lv_aload_n (pc := 633) hx hb dL_law_633 rfl (lv_at hl 3 rfl) ?_
  refine va_calli (pc := 634) (vx_runSW (As := [.ref (gX g), .int (xs (i + 1)), .int (xs (i + 2)), .ref (gO g)]) (rest := []) ⟨hx, hb, hml, hown, hts⟩ (hL_recolour l hfl g (AL s) σ f (mw g σ th mi ti) (xs (i + 1)) (xs (i + 2)) hI) (vx_cwSW 4 hts gL_law_L_recolour rfl rfl rfl (by decide +kernel) ⟨Nat.le_of_ble_eq_true rfl, Nat.le_of_ble_eq_true rfl⟩) (cxl_S hNc hP hD hA hK hX hS) rfl rfl hl.1 rfl (lv_room (Nat.le_of_ble_eq_true rfl)) dL_law_634 ⟨show cells + 3 ≤ 601024 by omega, show slots + 18 ≤ 7293034 by omega⟩) hS (fun _ _ h => h) (fun _ h => h) (fun r1 u1 t1 H1 locs1 ht1 hvm1 hw1 hB1 hz1 hk1 hS => ?_)
  obtain ⟨hP, hD⟩ := hB1
  rw [ht1] at hP
  obtain ⟨rfl, hI1, hf1⟩ := hw1
  refine lv_istore (lv' := (5, .int (nI (cd_recolour σ (xs (i + 1)) (xs (i + 2))))) :: vL b g i) hx hb dL_law_637 hl (by decide) rfl (fun ls hl => ?_)
  refine lv_aload_n (pc := 639) hx hb dL_law_639 rfl (lv_at hl 3 rfl) ?_
  refine lw_cell (pc := 640) hx hb hX0 hbl hbA hS hL hi (lv_at hl 1 rfl) (lv_at hl 5 rfl) 1 (by decide) (by decide) dL_law_640 dL_law_641 dL_law_643 dL_law_644 dL_law_645 ?_
  refine lw_cell (pc := 646) hx hb hX0 hbl hbA hS hL hi (lv_at hl 1 rfl) (lv_at hl 5 rfl) 2 (by decide) (by decide) dL_law_646 dL_law_647 dL_law_649 dL_law_650 dL_law_651 ?_
  have hP := kP_perm hP (wm_p g (uB (efs (cd_recolour σ (xs (i + 1)) (xs (i + 2))) (uR σ (ix (xs (i + 1))) (ix (xs (i + 2))) (!sR σ (ix (xs (i + 1))) (ix (xs (i + 2))))) σ) u1.1) σ u1.2 th mi ti)
  have hD := kD_perm hD (wm_p g (uB (efs (cd_recolour σ (xs (i + 1)) (xs (i + 2))) (uR σ (ix (xs (i + 1))) (ix (xs (i + 2))) (!sR σ (ix (xs (i + 1))) (ix (xs (i + 2))))) σ) u1.1) σ u1.2 th mi ti)
  refine va_calli (pc := 652) (va_runV (As := [.int (xs (i + 1)), .int (xs (i + 2))]) (rest := []) ⟨hx, hb, hml, hown, hts⟩ (cX2_recolour_m l g (AL s) σ (cw g (uB (efs (cd_recolour σ (xs (i + 1)) (xs (i + 2))) (uR σ (ix (xs (i + 1))) (ix (xs (i + 2))) (!sR σ (ix (xs (i + 1))) (ix (xs (i + 2))))) σ) u1.1) ++ ow g u1.2) th mi ti (xs (i + 1)) (xs (i + 2)) hI) (cwV 2 hts gL_law_X2_recolour rfl rfl rfl (by decide +kernel) ⟨Nat.le_of_ble_eq_true rfl, Nat.le_of_ble_eq_true rfl⟩) (cx_V (q0 := 0) (ci := 2) (r := (RX2, TX2, 11)) rfl (ma0 g σ th mi ti (cw g (uB (efs (cd_recolour σ (xs (i + 1)) (xs (i + 2))) (uR σ (ix (xs (i + 1))) (ix (xs (i + 2))) (!sR σ (ix (xs (i + 1))) (ix (xs (i + 2))))) σ) u1.1) ++ ow g u1.2)) hP hD hA hK hX hS) rfl rfl hl.1 rfl (lv_room (Nat.le_of_ble_eq_true rfl)) dL_law_652 ⟨show cells + 3 + 0 ≤ 601024 by omega, show slots + 18 + 0 ≤ 7293034 by omega⟩) hS (fun _ _ h => h) (fun _ h => h) (fun r2 u2 t2 H2 locs2 ht2 hvm2 hw2 hB2 hz2 hk2 hS => ?_)
  obtain ⟨hP, hD⟩ := hB2
  rw [ht2] at hP
  rw [← mw_uB g (efs (cd_recolour σ (xs (i + 1)) (xs (i + 2))) (uR σ (ix (xs (i + 1))) (ix (xs (i + 2))) (!sR σ (ix (xs (i + 1))) (ix (xs (i + 2))))) σ) u1.1] at hP hD
  exact lw_tailz (q := 655) C0 ⟨dL_law_655, dL_law_657, dL_law_658, dL_law_661, dL_law_663, dL_law_668⟩ ⟨dL_law_670, dL_law_673, dL_law_674, dL_law_675, dL_law_676, dL_law_678, dL_law_681, dL_law_682, dL_law_685, dL_law_686, dL_law_687⟩ dL_law_692 (by decide) hcd hI1 hw2 hf1 hgo hc hs (by omega) (by omega) hP hD hS hl
set_option maxHeartbeats 4000000 in
set_option maxRecDepth 100000 in
/-- the law: setClef -/
theorem kL_setClef {p : Program} {e : Env} {s : State} {m : MethodId} {below : List Frame} {meth : Method} {c : Code} {H : Heap} {locs : List Loc} {cells slots : Nat} {Q : State → Prop} {ls : Array Slot} {b L : Nat} {xs : Nat → Int32} {g : GA} {σ : St} {f : Nat → Int64} {th : Int32} {mi ti : Nat → Int32} {i : Nat} (l : Launch) (hfl : l.stackTraces = false) (C0 : LwX p s m meth c b L xs g) (hI : Inv σ) (hi : i + 6 ≤ L) (hc : cells + 110 ≤ 601024) (hs : slots + 600 ≤ 7293034) (hP : va_P (gD g) vwCl (wL g σ f th mi ti) H) (hD : va_D (AL s) (wL g σ f th mi ti)) (hS : va_S (AL s) s.heap H locs) (hl : lv_has ls 9 (vL b g i)) (hgo : LwGo p l e s m below meth c b g i Q 2306 (cells + 110) (slots + 600)) : W p l e room_1 s m #[Value.ref b] below meth c H locs cells slots Q (F0 m 695 ls []) := by
  obtain ⟨hx, hb, hml, hown, hts, hX0, hbl, hK, hX, hNc, hL⟩ := id C0
  have hA : ∀ q : Nat, s.heap.size ≤ q → AL s q := fun _ h => h
  have hbA : ¬ AL s b := Nat.not_le.mpr hbl
  have hcd : cdVR σ (xs (i + 1)) (inr (-1) 5 (xs (i + 2))) ≤ 3 := (cdVR_le _ _ _)
  refine lv_aload_n (pc := 695) hx hb dL_law_695 rfl (lv_at hl 1 rfl) ?_
  refine lw_cell (pc := 696) hx hb hX0 hbl hbA hS hL hi (lv_at hl 0 rfl) (lv_at hl 4 rfl) 1 (by decide) (by decide) dL_law_696 dL_law_697 dL_law_699 dL_law_700 dL_law_701 ?_
  refine lw_cell (pc := 702) hx hb hX0 hbl hbA hS hL hi (lv_at hl 0 rfl) (lv_at hl 4 rfl) 2 (by decide) (by decide) dL_law_702 dL_law_703 dL_law_705 dL_law_706 dL_law_707 ?_
  refine lv_aload_n (pc := 708) hx hb dL_law_708 rfl (lv_at hl 3 rfl) ?_
  refine va_calli (pc := 709) (vx_runSW (As := [.ref (gX g), .int (xs (i + 1)), .int (xs (i + 2)), .ref (gO g)]) (rest := []) ⟨hx, hb, hml, hown, hts⟩ (hL_setClef l hfl g (AL s) σ f (mw g σ th mi ti) (xs (i + 1)) (xs (i + 2)) hI) (vx_cwSW 4 hts gL_law_L_setClef rfl rfl rfl (by decide +kernel) ⟨Nat.le_of_ble_eq_true rfl, Nat.le_of_ble_eq_true rfl⟩) (cxl_S hNc hP hD hA hK hX hS) rfl rfl hl.1 rfl (lv_room (Nat.le_of_ble_eq_true rfl)) dL_law_709 ⟨show cells + 2 ≤ 601024 by omega, show slots + 12 ≤ 7293034 by omega⟩) hS (fun _ _ h => h) (fun _ h => h) (fun r1 u1 t1 H1 locs1 ht1 hvm1 hw1 hB1 hz1 hk1 hS => ?_)
  obtain ⟨hP, hD⟩ := hB1
  rw [ht1] at hP
  obtain ⟨rfl, hI1, hf1⟩ := hw1
  refine lv_istore (lv' := (5, .int (nI (cdVR σ (xs (i + 1)) (inr (-1) 5 (xs (i + 2)))))) :: vL b g i) hx hb dL_law_712 hl (by decide) rfl (fun ls hl => ?_)
  refine lv_aload_n (pc := 714) hx hb dL_law_714 rfl (lv_at hl 3 rfl) ?_
  refine lw_cell (pc := 715) hx hb hX0 hbl hbA hS hL hi (lv_at hl 1 rfl) (lv_at hl 5 rfl) 1 (by decide) (by decide) dL_law_715 dL_law_716 dL_law_718 dL_law_719 dL_law_720 ?_
  refine lw_cell (pc := 721) hx hb hX0 hbl hbA hS hL hi (lv_at hl 1 rfl) (lv_at hl 5 rfl) 2 (by decide) (by decide) dL_law_721 dL_law_722 dL_law_724 dL_law_725 dL_law_726 ?_
  have hP := kP_perm hP (wm_p g (uB (efs (cdVR σ (xs (i + 1)) (inr (-1) 5 (xs (i + 2)))) (uL σ (ix (xs (i + 1))) (xs (i + 2))) σ) u1.1) σ u1.2 th mi ti)
  have hD := kD_perm hD (wm_p g (uB (efs (cdVR σ (xs (i + 1)) (inr (-1) 5 (xs (i + 2)))) (uL σ (ix (xs (i + 1))) (xs (i + 2))) σ) u1.1) σ u1.2 th mi ti)
  refine va_calli (pc := 727) (va_runV (As := [.int (xs (i + 1)), .int (xs (i + 2))]) (rest := []) ⟨hx, hb, hml, hown, hts⟩ (cX2_setClef_m l g (AL s) σ (cw g (uB (efs (cdVR σ (xs (i + 1)) (inr (-1) 5 (xs (i + 2)))) (uL σ (ix (xs (i + 1))) (xs (i + 2))) σ) u1.1) ++ ow g u1.2) th mi ti (xs (i + 1)) (xs (i + 2)) hI) (cwV 2 hts gL_law_X2_setClef rfl rfl rfl (by decide +kernel) ⟨Nat.le_of_ble_eq_true rfl, Nat.le_of_ble_eq_true rfl⟩) (cx_V (q0 := 0) (ci := 2) (r := (RX2, TX2, 11)) rfl (ma0 g σ th mi ti (cw g (uB (efs (cdVR σ (xs (i + 1)) (inr (-1) 5 (xs (i + 2)))) (uL σ (ix (xs (i + 1))) (xs (i + 2))) σ) u1.1) ++ ow g u1.2)) hP hD hA hK hX hS) rfl rfl hl.1 rfl (lv_room (Nat.le_of_ble_eq_true rfl)) dL_law_727 ⟨show cells + 2 + 0 ≤ 601024 by omega, show slots + 12 + 0 ≤ 7293034 by omega⟩) hS (fun _ _ h => h) (fun _ h => h) (fun r2 u2 t2 H2 locs2 ht2 hvm2 hw2 hB2 hz2 hk2 hS => ?_)
  obtain ⟨hP, hD⟩ := hB2
  rw [ht2] at hP
  rw [← mw_uB g (efs (cdVR σ (xs (i + 1)) (inr (-1) 5 (xs (i + 2)))) (uL σ (ix (xs (i + 1))) (xs (i + 2))) σ) u1.1] at hP hD
  exact lw_tail (q := 730) C0 ⟨dL_law_730, dL_law_732, dL_law_733, dL_law_736, dL_law_738, dL_law_743⟩ ⟨dL_law_745, dL_law_748, dL_law_749, dL_law_750, dL_law_751, dL_law_753, dL_law_754, dL_law_755⟩ dL_law_760 (by decide) hcd hI1 hw2 hf1 hgo hc hs (by omega) (by omega) hP hD hS hl
set_option maxHeartbeats 4000000 in
set_option maxRecDepth 100000 in
/-- the law: setMensuration -/
theorem kL_setMensuration {p : Program} {e : Env} {s : State} {m : MethodId} {below : List Frame} {meth : Method} {c : Code} {H : Heap} {locs : List Loc} {cells slots : Nat} {Q : State → Prop} {ls : Array Slot} {b L : Nat} {xs : Nat → Int32} {g : GA} {σ : St} {f : Nat → Int64} {th : Int32} {mi ti : Nat → Int32} {i : Nat} (l : Launch) (hfl : l.stackTraces = false) (C0 : LwX p s m meth c b L xs g) (hI : Inv σ) (hi : i + 6 ≤ L) (hc : cells + 110 ≤ 601024) (hs : slots + 600 ≤ 7293034) (hP : va_P (gD g) vwCl (wL g σ f th mi ti) H) (hD : va_D (AL s) (wL g σ f th mi ti)) (hS : va_S (AL s) s.heap H locs) (hl : lv_has ls 9 (vL b g i)) (hgo : LwGo p l e s m below meth c b g i Q 2306 (cells + 110) (slots + 600)) : W p l e room_1 s m #[Value.ref b] below meth c H locs cells slots Q (F0 m 763 ls []) := by
  obtain ⟨hx, hb, hml, hown, hts, hX0, hbl, hK, hX, hNc, hL⟩ := id C0
  have hA : ∀ q : Nat, s.heap.size ≤ q → AL s q := fun _ h => h
  have hbA : ¬ AL s b := Nat.not_le.mpr hbl
  have hcd : cdVR σ (xs (i + 1)) (inM (xs (i + 2)) (xs (i + 3)) (xs (i + 4))) ≤ 3 := (cdVR_le _ _ _)
  refine lv_aload_n (pc := 763) hx hb dL_law_763 rfl (lv_at hl 1 rfl) ?_
  refine lw_cell (pc := 764) hx hb hX0 hbl hbA hS hL hi (lv_at hl 0 rfl) (lv_at hl 4 rfl) 1 (by decide) (by decide) dL_law_764 dL_law_765 dL_law_767 dL_law_768 dL_law_769 ?_
  refine lw_cell (pc := 770) hx hb hX0 hbl hbA hS hL hi (lv_at hl 0 rfl) (lv_at hl 4 rfl) 2 (by decide) (by decide) dL_law_770 dL_law_771 dL_law_773 dL_law_774 dL_law_775 ?_
  refine lw_cell (pc := 776) hx hb hX0 hbl hbA hS hL hi (lv_at hl 0 rfl) (lv_at hl 4 rfl) 3 (by decide) (by decide) dL_law_776 dL_law_777 dL_law_779 dL_law_780 dL_law_781 ?_
  refine lw_cell (pc := 782) hx hb hX0 hbl hbA hS hL hi (lv_at hl 0 rfl) (lv_at hl 4 rfl) 4 (by decide) (by decide) dL_law_782 dL_law_783 dL_law_785 dL_law_786 dL_law_787 ?_
  refine lv_aload_n (pc := 788) hx hb dL_law_788 rfl (lv_at hl 3 rfl) ?_
  refine va_calli (pc := 789) (vx_runSW (As := [.ref (gX g), .int (xs (i + 1)), .int (xs (i + 2)), .int (xs (i + 3)), .int (xs (i + 4)), .ref (gO g)]) (rest := []) ⟨hx, hb, hml, hown, hts⟩ (hL_setMensuration l hfl g (AL s) σ f (mw g σ th mi ti) (xs (i + 1)) (xs (i + 2)) (xs (i + 3)) (xs (i + 4)) hI) (vx_cwSW 6 hts gL_law_L_setMensuration rfl rfl rfl (by decide +kernel) ⟨Nat.le_of_ble_eq_true rfl, Nat.le_of_ble_eq_true rfl⟩) (cxl_S hNc hP hD hA hK hX hS) rfl rfl hl.1 rfl (lv_room (Nat.le_of_ble_eq_true rfl)) dL_law_789 ⟨show cells + 4 ≤ 601024 by omega, show slots + 24 ≤ 7293034 by omega⟩) hS (fun _ _ h => h) (fun _ h => h) (fun r1 u1 t1 H1 locs1 ht1 hvm1 hw1 hB1 hz1 hk1 hS => ?_)
  obtain ⟨hP, hD⟩ := hB1
  rw [ht1] at hP
  obtain ⟨rfl, hI1, hf1⟩ := hw1
  refine lv_istore (lv' := (5, .int (nI (cdVR σ (xs (i + 1)) (inM (xs (i + 2)) (xs (i + 3)) (xs (i + 4)))))) :: vL b g i) hx hb dL_law_792 hl (by decide) rfl (fun ls hl => ?_)
  refine lv_aload_n (pc := 794) hx hb dL_law_794 rfl (lv_at hl 3 rfl) ?_
  refine lw_cell (pc := 795) hx hb hX0 hbl hbA hS hL hi (lv_at hl 1 rfl) (lv_at hl 5 rfl) 1 (by decide) (by decide) dL_law_795 dL_law_796 dL_law_798 dL_law_799 dL_law_800 ?_
  refine lw_cell (pc := 801) hx hb hX0 hbl hbA hS hL hi (lv_at hl 1 rfl) (lv_at hl 5 rfl) 2 (by decide) (by decide) dL_law_801 dL_law_802 dL_law_804 dL_law_805 dL_law_806 ?_
  refine lw_cell (pc := 807) hx hb hX0 hbl hbA hS hL hi (lv_at hl 1 rfl) (lv_at hl 5 rfl) 3 (by decide) (by decide) dL_law_807 dL_law_808 dL_law_810 dL_law_811 dL_law_812 ?_
  refine lw_cell (pc := 813) hx hb hX0 hbl hbA hS hL hi (lv_at hl 1 rfl) (lv_at hl 5 rfl) 4 (by decide) (by decide) dL_law_813 dL_law_814 dL_law_816 dL_law_817 dL_law_818 ?_
  have hP := kP_perm hP (wm_p g (uB (efs (cdVR σ (xs (i + 1)) (inM (xs (i + 2)) (xs (i + 3)) (xs (i + 4)))) (meS σ (ix (xs (i + 1))) (ix (xs (i + 2))) (ix (xs (i + 3))) (ix (xs (i + 4)))) σ) u1.1) σ u1.2 th mi ti)
  have hD := kD_perm hD (wm_p g (uB (efs (cdVR σ (xs (i + 1)) (inM (xs (i + 2)) (xs (i + 3)) (xs (i + 4)))) (meS σ (ix (xs (i + 1))) (ix (xs (i + 2))) (ix (xs (i + 3))) (ix (xs (i + 4)))) σ) u1.1) σ u1.2 th mi ti)
  refine va_calli (pc := 819) (va_runV (As := [.int (xs (i + 1)), .int (xs (i + 2)), .int (xs (i + 3)), .int (xs (i + 4))]) (rest := []) ⟨hx, hb, hml, hown, hts⟩ (cX2_setMensuration_m l g (AL s) σ (cw g (uB (efs (cdVR σ (xs (i + 1)) (inM (xs (i + 2)) (xs (i + 3)) (xs (i + 4)))) (meS σ (ix (xs (i + 1))) (ix (xs (i + 2))) (ix (xs (i + 3))) (ix (xs (i + 4)))) σ) u1.1) ++ ow g u1.2) th mi ti (xs (i + 1)) (xs (i + 2)) (xs (i + 3)) (xs (i + 4)) hI) (cwV 4 hts gL_law_X2_setMensuration rfl rfl rfl (by decide +kernel) ⟨Nat.le_of_ble_eq_true rfl, Nat.le_of_ble_eq_true rfl⟩) (cx_V (q0 := 0) (ci := 2) (r := (RX2, TX2, 11)) rfl (ma0 g σ th mi ti (cw g (uB (efs (cdVR σ (xs (i + 1)) (inM (xs (i + 2)) (xs (i + 3)) (xs (i + 4)))) (meS σ (ix (xs (i + 1))) (ix (xs (i + 2))) (ix (xs (i + 3))) (ix (xs (i + 4)))) σ) u1.1) ++ ow g u1.2)) hP hD hA hK hX hS) rfl rfl hl.1 rfl (lv_room (Nat.le_of_ble_eq_true rfl)) dL_law_819 ⟨show cells + 4 + 0 ≤ 601024 by omega, show slots + 24 + 0 ≤ 7293034 by omega⟩) hS (fun _ _ h => h) (fun _ h => h) (fun r2 u2 t2 H2 locs2 ht2 hvm2 hw2 hB2 hz2 hk2 hS => ?_)
  obtain ⟨hP, hD⟩ := hB2
  rw [ht2] at hP
  rw [← mw_uB g (efs (cdVR σ (xs (i + 1)) (inM (xs (i + 2)) (xs (i + 3)) (xs (i + 4)))) (meS σ (ix (xs (i + 1))) (ix (xs (i + 2))) (ix (xs (i + 3))) (ix (xs (i + 4)))) σ) u1.1] at hP hD
  exact lw_tail (q := 822) C0 ⟨dL_law_822, dL_law_824, dL_law_825, dL_law_828, dL_law_830, dL_law_835⟩ ⟨dL_law_837, dL_law_840, dL_law_841, dL_law_842, dL_law_843, dL_law_845, dL_law_846, dL_law_847⟩ dL_law_852 (by decide) hcd hI1 hw2 hf1 hgo hc hs (by omega) (by omega) hP hD hS hl
