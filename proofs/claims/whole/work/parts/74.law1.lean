/-! THE LAW'S CASES -/
set_option maxHeartbeats 4000000 in
set_option maxRecDepth 100000 in
/-- the law: voices -/
theorem kL_voices {p : Program} {e : Env} {s : State} {m : MethodId} {below : List Frame} {meth : Method} {c : Code} {H : Heap} {locs : List Loc} {cells slots : Nat} {Q : State → Prop} {ls : Array Slot} {b L : Nat} {xs : Nat → Int32} {g : GA} {σ : St} {f : Nat → Int64} {th : Int32} {mi ti : Nat → Int32} {i : Nat} (l : Launch) (hfl : l.stackTraces = false) (C0 : LwX p s m meth c b L xs g) (hI : Inv σ) (hi : i + 6 ≤ L) (hc : cells + 110 ≤ 601024) (hs : slots + 600 ≤ 7293034) (hP : va_P (gD g) vwCl (wL g σ f th mi ti) H) (hD : va_D (AL s) (wL g σ f th mi ti)) (hS : va_S (AL s) s.heap H locs) (hl : lv_has ls 9 (vL b g i)) (hgo : LwGo p l e s m below meth c b g i Q 2306 (cells + 110) (slots + 600)) : W p l e room_1 s m #[Value.ref b] below meth c H locs cells slots Q (F0 m 855 ls []) := by
  obtain ⟨hx, hb, hml, hown, hts, hX0, hbl, hK, hX, hNc, hL⟩ := id C0
  have hA : ∀ q : Nat, s.heap.size ≤ q → AL s q := fun _ h => h
  have hbA : ¬ AL s b := Nat.not_le.mpr hbl
  refine lv_aload_n (pc := 855) hx hb dL_law_855 rfl (lv_at hl 1 rfl) ?_
  refine k_ri (pc := 856) (va_runV (As := []) (rest := []) ⟨hx, hb, hml, hown, hts⟩ (cX1_voices_m l g (AL s) σ (ow g f ++ mw g σ th mi ti)) (cwV 0 hts gL_law_X1_voices rfl rfl rfl (by decide +kernel) ⟨Nat.le_of_ble_eq_true rfl, Nat.le_of_ble_eq_true rfl⟩) (cx_V (q0 := 0) (ci := 1) (r := (RX1, TX1, 2)) rfl (cx0 g σ (ow g f ++ mw g σ th mi ti)) hP hD hA hK hX hS) rfl rfl hl.1 rfl (lv_room (Nat.le_of_ble_eq_true rfl)) dL_law_856 ⟨show cells + 0 ≤ 601024 by omega, show slots + 0 ≤ 7293034 by omega⟩) (fun r1 hr1 => ?_)
  subst hr1
  refine lv_aload_n (pc := 859) hx hb dL_law_859 rfl (lv_at hl 2 rfl) ?_
  have hP := kP_perm hP (wm_p g σ σ f th mi ti)
  have hD := kD_perm hD (wm_p g σ σ f th mi ti)
  refine va_calli (pc := 860) (va_runV (As := []) (rest := [.int (nI (sN σ))]) ⟨hx, hb, hml, hown, hts⟩ (cX2_voices_m l g (AL s) σ (cw g σ ++ ow g f) th mi ti hI) (cwV 0 hts gL_law_X2_voices rfl rfl rfl (by decide +kernel) ⟨Nat.le_of_ble_eq_true rfl, Nat.le_of_ble_eq_true rfl⟩) (cx_V (q0 := 0) (ci := 2) (r := (RX2, TX2, 11)) rfl (ma0 g σ th mi ti (cw g σ ++ ow g f)) hP hD hA hK hX hS) rfl rfl hl.1 rfl (lv_room (Nat.le_of_ble_eq_true rfl)) dL_law_860 ⟨show cells + 0 ≤ 601024 by omega, show slots + 0 ≤ 7293034 by omega⟩) hS (fun _ _ h => h) (fun _ h => h) (fun r2 u2 t2 H2 locs2 ht2 hvm2 hw2 hB2 hz2 hk2 hS => ?_)
  obtain ⟨hP, hD⟩ := hB2
  rw [ht2] at hP
  subst hw2
  have hP := kP_perm hP (wm_p g σ σ f 0 mi ti).symm
  have hD := kD_perm hD (wm_p g σ σ f 0 mi ti).symm
  refine lv_icmp_eq (tgt := 2306) (pc := 863) hx hb dL_law_863 (by decide) (fun z => ?_) (fun z => absurd rfl z)
  exact W.widen (by omega) (by omega) (hgo σ f 0 mi ti _ _ ls hI hP hD hS hl)
set_option maxHeartbeats 4000000 in
set_option maxRecDepth 100000 in
/-- the law: signs -/
theorem kL_signs {p : Program} {e : Env} {s : State} {m : MethodId} {below : List Frame} {meth : Method} {c : Code} {H : Heap} {locs : List Loc} {cells slots : Nat} {Q : State → Prop} {ls : Array Slot} {b L : Nat} {xs : Nat → Int32} {g : GA} {σ : St} {f : Nat → Int64} {th : Int32} {mi ti : Nat → Int32} {i : Nat} (l : Launch) (hfl : l.stackTraces = false) (C0 : LwX p s m meth c b L xs g) (hI : Inv σ) (hi : i + 6 ≤ L) (hc : cells + 110 ≤ 601024) (hs : slots + 600 ≤ 7293034) (hP : va_P (gD g) vwCl (wL g σ f th mi ti) H) (hD : va_D (AL s) (wL g σ f th mi ti)) (hS : va_S (AL s) s.heap H locs) (hl : lv_has ls 9 (vL b g i)) (hgo : LwGo p l e s m below meth c b g i Q 2306 (cells + 110) (slots + 600)) : W p l e room_1 s m #[Value.ref b] below meth c H locs cells slots Q (F0 m 868 ls []) := by
  obtain ⟨hx, hb, hml, hown, hts, hX0, hbl, hK, hX, hNc, hL⟩ := id C0
  have hA : ∀ q : Nat, s.heap.size ≤ q → AL s q := fun _ h => h
  have hbA : ¬ AL s b := Nat.not_le.mpr hbl
  have hcd : cdV σ (xs (i + 1)) ≤ 3 := (cdV_le _ _)
  refine lv_aload_n (pc := 868) hx hb dL_law_868 rfl (lv_at hl 1 rfl) ?_
  refine lw_cell (pc := 869) hx hb hX0 hbl hbA hS hL hi (lv_at hl 0 rfl) (lv_at hl 4 rfl) 1 (by decide) (by decide) dL_law_869 dL_law_870 dL_law_872 dL_law_873 dL_law_874 ?_
  refine lv_aload_n (pc := 875) hx hb dL_law_875 rfl (lv_at hl 3 rfl) ?_
  refine va_calli (pc := 876) (vx_runSW (As := [.ref (gX g), .int (xs (i + 1)), .ref (gO g)]) (rest := []) ⟨hx, hb, hml, hown, hts⟩ (hL_signs l hfl g (AL s) σ f (mw g σ th mi ti) (xs (i + 1)) hI) (vx_cwSW 3 hts gL_law_L_signs rfl rfl rfl (by decide +kernel) ⟨Nat.le_of_ble_eq_true rfl, Nat.le_of_ble_eq_true rfl⟩) (cxl_S hNc hP hD hA hK hX hS) rfl rfl hl.1 rfl (lv_room (Nat.le_of_ble_eq_true rfl)) dL_law_876 ⟨show cells + 1 ≤ 601024 by omega, show slots + 6 ≤ 7293034 by omega⟩) hS (fun _ _ h => h) (fun _ h => h) (fun r1 u1 t1 H1 locs1 ht1 hvm1 hw1 hB1 hz1 hk1 hS => ?_)
  obtain ⟨hP, hD⟩ := hB1
  rw [ht1] at hP
  obtain ⟨rfl, hf1⟩ := hw1
  refine lv_istore (lv' := (5, .int (nI (cdV σ (xs (i + 1))))) :: vL b g i) hx hb dL_law_879 hl (by decide) rfl (fun ls hl => ?_)
  refine lv_aload_n (pc := 881) hx hb dL_law_881 rfl (lv_at hl 3 rfl) ?_
  refine lw_cell (pc := 882) hx hb hX0 hbl hbA hS hL hi (lv_at hl 1 rfl) (lv_at hl 5 rfl) 1 (by decide) (by decide) dL_law_882 dL_law_883 dL_law_885 dL_law_886 dL_law_887 ?_
  have hP := kP_perm hP (wm_p g σ σ u1 th mi ti)
  have hD := kD_perm hD (wm_p g σ σ u1 th mi ti)
  refine va_calli (pc := 888) (va_runV (As := [.int (xs (i + 1))]) (rest := []) ⟨hx, hb, hml, hown, hts⟩ (cX2_signs_m l g (AL s) σ (cw g σ ++ ow g u1) th mi ti (xs (i + 1)) hI) (cwV 1 hts gL_law_X2_signs rfl rfl rfl (by decide +kernel) ⟨Nat.le_of_ble_eq_true rfl, Nat.le_of_ble_eq_true rfl⟩) (cx_V (q0 := 0) (ci := 2) (r := (RX2, TX2, 11)) rfl (ma0 g σ th mi ti (cw g σ ++ ow g u1)) hP hD hA hK hX hS) rfl rfl hl.1 rfl (lv_room (Nat.le_of_ble_eq_true rfl)) dL_law_888 ⟨show cells + 1 + 0 ≤ 601024 by omega, show slots + 6 + 0 ≤ 7293034 by omega⟩) hS (fun _ _ h => h) (fun _ h => h) (fun r2 u2 t2 H2 locs2 ht2 hvm2 hw2 hB2 hz2 hk2 hS => ?_)
  obtain ⟨hP, hD⟩ := hB2
  rw [ht2] at hP
  exact lw_tail (q := 891) C0 ⟨dL_law_891, dL_law_893, dL_law_894, dL_law_897, dL_law_899, dL_law_904⟩ ⟨dL_law_906, dL_law_909, dL_law_910, dL_law_911, dL_law_912, dL_law_914, dL_law_915, dL_law_916⟩ dL_law_921 (by decide) hcd hI hw2 hf1 hgo hc hs (by omega) (by omega) hP hD hS hl
set_option maxHeartbeats 4000000 in
set_option maxRecDepth 100000 in
/-- the law: notes -/
theorem kL_notes {p : Program} {e : Env} {s : State} {m : MethodId} {below : List Frame} {meth : Method} {c : Code} {H : Heap} {locs : List Loc} {cells slots : Nat} {Q : State → Prop} {ls : Array Slot} {b L : Nat} {xs : Nat → Int32} {g : GA} {σ : St} {f : Nat → Int64} {th : Int32} {mi ti : Nat → Int32} {i : Nat} (l : Launch) (hfl : l.stackTraces = false) (C0 : LwX p s m meth c b L xs g) (hI : Inv σ) (hi : i + 6 ≤ L) (hc : cells + 110 ≤ 601024) (hs : slots + 600 ≤ 7293034) (hP : va_P (gD g) vwCl (wL g σ f th mi ti) H) (hD : va_D (AL s) (wL g σ f th mi ti)) (hS : va_S (AL s) s.heap H locs) (hl : lv_has ls 9 (vL b g i)) (hgo : LwGo p l e s m below meth c b g i Q 2306 (cells + 110) (slots + 600)) : W p l e room_1 s m #[Value.ref b] below meth c H locs cells slots Q (F0 m 924 ls []) := by
  obtain ⟨hx, hb, hml, hown, hts, hX0, hbl, hK, hX, hNc, hL⟩ := id C0
  have hA : ∀ q : Nat, s.heap.size ≤ q → AL s q := fun _ h => h
  have hbA : ¬ AL s b := Nat.not_le.mpr hbl
  have hcd : cdV σ (xs (i + 1)) ≤ 3 := (cdV_le _ _)
  refine lv_aload_n (pc := 924) hx hb dL_law_924 rfl (lv_at hl 1 rfl) ?_
  refine lw_cell (pc := 925) hx hb hX0 hbl hbA hS hL hi (lv_at hl 0 rfl) (lv_at hl 4 rfl) 1 (by decide) (by decide) dL_law_925 dL_law_926 dL_law_928 dL_law_929 dL_law_930 ?_
  refine lv_aload_n (pc := 931) hx hb dL_law_931 rfl (lv_at hl 3 rfl) ?_
  refine va_calli (pc := 932) (vx_runSW (As := [.ref (gX g), .int (xs (i + 1)), .ref (gO g)]) (rest := []) ⟨hx, hb, hml, hown, hts⟩ (hL_notes l hfl g (AL s) σ f (mw g σ th mi ti) (xs (i + 1)) hI) (vx_cwSW 3 hts gL_law_L_notes rfl rfl rfl (by decide +kernel) ⟨Nat.le_of_ble_eq_true rfl, Nat.le_of_ble_eq_true rfl⟩) (cxl_S hNc hP hD hA hK hX hS) rfl rfl hl.1 rfl (lv_room (Nat.le_of_ble_eq_true rfl)) dL_law_932 ⟨show cells + 1 ≤ 601024 by omega, show slots + 6 ≤ 7293034 by omega⟩) hS (fun _ _ h => h) (fun _ h => h) (fun r1 u1 t1 H1 locs1 ht1 hvm1 hw1 hB1 hz1 hk1 hS => ?_)
  obtain ⟨hP, hD⟩ := hB1
  rw [ht1] at hP
  obtain ⟨rfl, hf1⟩ := hw1
  refine lv_istore (lv' := (5, .int (nI (cdV σ (xs (i + 1))))) :: vL b g i) hx hb dL_law_935 hl (by decide) rfl (fun ls hl => ?_)
  refine lv_aload_n (pc := 937) hx hb dL_law_937 rfl (lv_at hl 3 rfl) ?_
  refine lw_cell (pc := 938) hx hb hX0 hbl hbA hS hL hi (lv_at hl 1 rfl) (lv_at hl 5 rfl) 1 (by decide) (by decide) dL_law_938 dL_law_939 dL_law_941 dL_law_942 dL_law_943 ?_
  have hP := kP_perm hP (wm_p g σ σ u1 th mi ti)
  have hD := kD_perm hD (wm_p g σ σ u1 th mi ti)
  refine va_calli (pc := 944) (va_runV (As := [.int (xs (i + 1))]) (rest := []) ⟨hx, hb, hml, hown, hts⟩ (cX2_notes_m l g (AL s) σ (cw g σ ++ ow g u1) th mi ti (xs (i + 1)) hI) (cwV 1 hts gL_law_X2_notes rfl rfl rfl (by decide +kernel) ⟨Nat.le_of_ble_eq_true rfl, Nat.le_of_ble_eq_true rfl⟩) (cx_V (q0 := 0) (ci := 2) (r := (RX2, TX2, 11)) rfl (ma0 g σ th mi ti (cw g σ ++ ow g u1)) hP hD hA hK hX hS) rfl rfl hl.1 rfl (lv_room (Nat.le_of_ble_eq_true rfl)) dL_law_944 ⟨show cells + 1 + 0 ≤ 601024 by omega, show slots + 6 + 0 ≤ 7293034 by omega⟩) hS (fun _ _ h => h) (fun _ h => h) (fun r2 u2 t2 H2 locs2 ht2 hvm2 hw2 hB2 hz2 hk2 hS => ?_)
  obtain ⟨hP, hD⟩ := hB2
  rw [ht2] at hP
  exact lw_tail (q := 947) C0 ⟨dL_law_947, dL_law_949, dL_law_950, dL_law_953, dL_law_955, dL_law_960⟩ ⟨dL_law_962, dL_law_965, dL_law_966, dL_law_967, dL_law_968, dL_law_970, dL_law_971, dL_law_972⟩ dL_law_977 (by decide) hcd hI hw2 hf1 hgo hc hs (by omega) (by omega) hP hD hS hl
set_option maxHeartbeats 4000000 in
set_option maxRecDepth 100000 in
/-- the law: ligatures -/
theorem kL_ligatures {p : Program} {e : Env} {s : State} {m : MethodId} {below : List Frame} {meth : Method} {c : Code} {H : Heap} {locs : List Loc} {cells slots : Nat} {Q : State → Prop} {ls : Array Slot} {b L : Nat} {xs : Nat → Int32} {g : GA} {σ : St} {f : Nat → Int64} {th : Int32} {mi ti : Nat → Int32} {i : Nat} (l : Launch) (hfl : l.stackTraces = false) (C0 : LwX p s m meth c b L xs g) (hI : Inv σ) (hi : i + 6 ≤ L) (hc : cells + 110 ≤ 601024) (hs : slots + 600 ≤ 7293034) (hP : va_P (gD g) vwCl (wL g σ f th mi ti) H) (hD : va_D (AL s) (wL g σ f th mi ti)) (hS : va_S (AL s) s.heap H locs) (hl : lv_has ls 9 (vL b g i)) (hgo : LwGo p l e s m below meth c b g i Q 2306 (cells + 110) (slots + 600)) : W p l e room_1 s m #[Value.ref b] below meth c H locs cells slots Q (F0 m 980 ls []) := by
  obtain ⟨hx, hb, hml, hown, hts, hX0, hbl, hK, hX, hNc, hL⟩ := id C0
  have hA : ∀ q : Nat, s.heap.size ≤ q → AL s q := fun _ h => h
  have hbA : ¬ AL s b := Nat.not_le.mpr hbl
  have hcd : cdV σ (xs (i + 1)) ≤ 3 := (cdV_le _ _)
  refine lv_aload_n (pc := 980) hx hb dL_law_980 rfl (lv_at hl 1 rfl) ?_
  refine lw_cell (pc := 981) hx hb hX0 hbl hbA hS hL hi (lv_at hl 0 rfl) (lv_at hl 4 rfl) 1 (by decide) (by decide) dL_law_981 dL_law_982 dL_law_984 dL_law_985 dL_law_986 ?_
  refine lv_aload_n (pc := 987) hx hb dL_law_987 rfl (lv_at hl 3 rfl) ?_
  refine va_calli (pc := 988) (vx_runSW (As := [.ref (gX g), .int (xs (i + 1)), .ref (gO g)]) (rest := []) ⟨hx, hb, hml, hown, hts⟩ (hL_ligatures l hfl g (AL s) σ f (mw g σ th mi ti) (xs (i + 1)) hI) (vx_cwSW 3 hts gL_law_L_ligatures rfl rfl rfl (by decide +kernel) ⟨Nat.le_of_ble_eq_true rfl, Nat.le_of_ble_eq_true rfl⟩) (cxl_S hNc hP hD hA hK hX hS) rfl rfl hl.1 rfl (lv_room (Nat.le_of_ble_eq_true rfl)) dL_law_988 ⟨show cells + 1 ≤ 601024 by omega, show slots + 6 ≤ 7293034 by omega⟩) hS (fun _ _ h => h) (fun _ h => h) (fun r1 u1 t1 H1 locs1 ht1 hvm1 hw1 hB1 hz1 hk1 hS => ?_)
  obtain ⟨hP, hD⟩ := hB1
  rw [ht1] at hP
  obtain ⟨rfl, hf1⟩ := hw1
  refine lv_istore (lv' := (5, .int (nI (cdV σ (xs (i + 1))))) :: vL b g i) hx hb dL_law_991 hl (by decide) rfl (fun ls hl => ?_)
  refine lv_aload_n (pc := 993) hx hb dL_law_993 rfl (lv_at hl 3 rfl) ?_
  refine lw_cell (pc := 994) hx hb hX0 hbl hbA hS hL hi (lv_at hl 1 rfl) (lv_at hl 5 rfl) 1 (by decide) (by decide) dL_law_994 dL_law_995 dL_law_997 dL_law_998 dL_law_999 ?_
  have hP := kP_perm hP (wm_p g σ σ u1 th mi ti)
  have hD := kD_perm hD (wm_p g σ σ u1 th mi ti)
  refine va_calli (pc := 1000) (va_runV (As := [.int (xs (i + 1))]) (rest := []) ⟨hx, hb, hml, hown, hts⟩ (cX2_ligatures_m l g (AL s) σ (cw g σ ++ ow g u1) th mi ti (xs (i + 1)) hI) (cwV 1 hts gL_law_X2_ligatures rfl rfl rfl (by decide +kernel) ⟨Nat.le_of_ble_eq_true rfl, Nat.le_of_ble_eq_true rfl⟩) (cx_V (q0 := 0) (ci := 2) (r := (RX2, TX2, 11)) rfl (ma0 g σ th mi ti (cw g σ ++ ow g u1)) hP hD hA hK hX hS) rfl rfl hl.1 rfl (lv_room (Nat.le_of_ble_eq_true rfl)) dL_law_1000 ⟨show cells + 1 + 0 ≤ 601024 by omega, show slots + 6 + 0 ≤ 7293034 by omega⟩) hS (fun _ _ h => h) (fun _ h => h) (fun r2 u2 t2 H2 locs2 ht2 hvm2 hw2 hB2 hz2 hk2 hS => ?_)
  obtain ⟨hP, hD⟩ := hB2
  rw [ht2] at hP
  exact lw_tail (q := 1003) C0 ⟨dL_law_1003, dL_law_1005, dL_law_1006, dL_law_1009, dL_law_1011, dL_law_1016⟩ ⟨dL_law_1018, dL_law_1021, dL_law_1022, dL_law_1023, dL_law_1024, dL_law_1026, dL_law_1027, dL_law_1028⟩ dL_law_1033 (by decide) hcd hI hw2 hf1 hgo hc hs (by omega) (by omega) hP hD hS hl
set_option maxHeartbeats 4000000 in
set_option maxRecDepth 100000 in
/-- the law: kindOf -/
theorem kL_kindOf {p : Program} {e : Env} {s : State} {m : MethodId} {below : List Frame} {meth : Method} {c : Code} {H : Heap} {locs : List Loc} {cells slots : Nat} {Q : State → Prop} {ls : Array Slot} {b L : Nat} {xs : Nat → Int32} {g : GA} {σ : St} {f : Nat → Int64} {th : Int32} {mi ti : Nat → Int32} {i : Nat} (l : Launch) (hfl : l.stackTraces = false) (C0 : LwX p s m meth c b L xs g) (hI : Inv σ) (hi : i + 6 ≤ L) (hc : cells + 110 ≤ 601024) (hs : slots + 600 ≤ 7293034) (hP : va_P (gD g) vwCl (wL g σ f th mi ti) H) (hD : va_D (AL s) (wL g σ f th mi ti)) (hS : va_S (AL s) s.heap H locs) (hl : lv_has ls 9 (vL b g i)) (hgo : LwGo p l e s m below meth c b g i Q 2306 (cells + 110) (slots + 600)) : W p l e room_1 s m #[Value.ref b] below meth c H locs cells slots Q (F0 m 1036 ls []) := by
  obtain ⟨hx, hb, hml, hown, hts, hX0, hbl, hK, hX, hNc, hL⟩ := id C0
  have hA : ∀ q : Nat, s.heap.size ≤ q → AL s q := fun _ h => h
  have hbA : ¬ AL s b := Nat.not_le.mpr hbl
  have hcd : cdS σ (xs (i + 1)) (xs (i + 2)) ≤ 3 := (cdS_le _ _ _)
  refine lv_aload_n (pc := 1036) hx hb dL_law_1036 rfl (lv_at hl 1 rfl) ?_
  refine lw_cell (pc := 1037) hx hb hX0 hbl hbA hS hL hi (lv_at hl 0 rfl) (lv_at hl 4 rfl) 1 (by decide) (by decide) dL_law_1037 dL_law_1038 dL_law_1040 dL_law_1041 dL_law_1042 ?_
  refine lw_cell (pc := 1043) hx hb hX0 hbl hbA hS hL hi (lv_at hl 0 rfl) (lv_at hl 4 rfl) 2 (by decide) (by decide) dL_law_1043 dL_law_1044 dL_law_1046 dL_law_1047 dL_law_1048 ?_
  refine lv_aload_n (pc := 1049) hx hb dL_law_1049 rfl (lv_at hl 3 rfl) ?_
  refine va_calli (pc := 1050) (vx_runSW (As := [.ref (gX g), .int (xs (i + 1)), .int (xs (i + 2)), .ref (gO g)]) (rest := []) ⟨hx, hb, hml, hown, hts⟩ (hL_kindOf l hfl g (AL s) σ f (mw g σ th mi ti) (xs (i + 1)) (xs (i + 2)) hI) (vx_cwSW 4 hts gL_law_L_kindOf rfl rfl rfl (by decide +kernel) ⟨Nat.le_of_ble_eq_true rfl, Nat.le_of_ble_eq_true rfl⟩) (cxl_S hNc hP hD hA hK hX hS) rfl rfl hl.1 rfl (lv_room (Nat.le_of_ble_eq_true rfl)) dL_law_1050 ⟨show cells + 2 ≤ 601024 by omega, show slots + 12 ≤ 7293034 by omega⟩) hS (fun _ _ h => h) (fun _ h => h) (fun r1 u1 t1 H1 locs1 ht1 hvm1 hw1 hB1 hz1 hk1 hS => ?_)
  obtain ⟨hP, hD⟩ := hB1
  rw [ht1] at hP
  obtain ⟨rfl, hf1⟩ := hw1
  refine lv_istore (lv' := (5, .int (nI (cdS σ (xs (i + 1)) (xs (i + 2))))) :: vL b g i) hx hb dL_law_1053 hl (by decide) rfl (fun ls hl => ?_)
  refine lv_aload_n (pc := 1055) hx hb dL_law_1055 rfl (lv_at hl 3 rfl) ?_
  refine lw_cell (pc := 1056) hx hb hX0 hbl hbA hS hL hi (lv_at hl 1 rfl) (lv_at hl 5 rfl) 1 (by decide) (by decide) dL_law_1056 dL_law_1057 dL_law_1059 dL_law_1060 dL_law_1061 ?_
  refine lw_cell (pc := 1062) hx hb hX0 hbl hbA hS hL hi (lv_at hl 1 rfl) (lv_at hl 5 rfl) 2 (by decide) (by decide) dL_law_1062 dL_law_1063 dL_law_1065 dL_law_1066 dL_law_1067 ?_
  have hP := kP_perm hP (wm_p g σ σ u1 th mi ti)
  have hD := kD_perm hD (wm_p g σ σ u1 th mi ti)
  refine va_calli (pc := 1068) (va_runV (As := [.int (xs (i + 1)), .int (xs (i + 2))]) (rest := []) ⟨hx, hb, hml, hown, hts⟩ (cX2_kindOf_m l g (AL s) σ (cw g σ ++ ow g u1) th mi ti (xs (i + 1)) (xs (i + 2)) hI) (cwV 2 hts gL_law_X2_kindOf rfl rfl rfl (by decide +kernel) ⟨Nat.le_of_ble_eq_true rfl, Nat.le_of_ble_eq_true rfl⟩) (cx_V (q0 := 0) (ci := 2) (r := (RX2, TX2, 11)) rfl (ma0 g σ th mi ti (cw g σ ++ ow g u1)) hP hD hA hK hX hS) rfl rfl hl.1 rfl (lv_room (Nat.le_of_ble_eq_true rfl)) dL_law_1068 ⟨show cells + 2 + 0 ≤ 601024 by omega, show slots + 12 + 0 ≤ 7293034 by omega⟩) hS (fun _ _ h => h) (fun _ h => h) (fun r2 u2 t2 H2 locs2 ht2 hvm2 hw2 hB2 hz2 hk2 hS => ?_)
  obtain ⟨hP, hD⟩ := hB2
  rw [ht2] at hP
  exact lw_tail (q := 1071) C0 ⟨dL_law_1071, dL_law_1073, dL_law_1074, dL_law_1077, dL_law_1079, dL_law_1084⟩ ⟨dL_law_1086, dL_law_1089, dL_law_1090, dL_law_1091, dL_law_1092, dL_law_1094, dL_law_1095, dL_law_1096⟩ dL_law_1101 (by decide) hcd hI hw2 hf1 hgo hc hs (by omega) (by omega) hP hD hS hl
set_option maxHeartbeats 4000000 in
set_option maxRecDepth 100000 in
/-- the law: placeOf -/
theorem kL_placeOf {p : Program} {e : Env} {s : State} {m : MethodId} {below : List Frame} {meth : Method} {c : Code} {H : Heap} {locs : List Loc} {cells slots : Nat} {Q : State → Prop} {ls : Array Slot} {b L : Nat} {xs : Nat → Int32} {g : GA} {σ : St} {f : Nat → Int64} {th : Int32} {mi ti : Nat → Int32} {i : Nat} (l : Launch) (hfl : l.stackTraces = false) (C0 : LwX p s m meth c b L xs g) (hI : Inv σ) (hi : i + 6 ≤ L) (hc : cells + 110 ≤ 601024) (hs : slots + 600 ≤ 7293034) (hP : va_P (gD g) vwCl (wL g σ f th mi ti) H) (hD : va_D (AL s) (wL g σ f th mi ti)) (hS : va_S (AL s) s.heap H locs) (hl : lv_has ls 9 (vL b g i)) (hgo : LwGo p l e s m below meth c b g i Q 2306 (cells + 110) (slots + 600)) : W p l e room_1 s m #[Value.ref b] below meth c H locs cells slots Q (F0 m 1104 ls []) := by
  obtain ⟨hx, hb, hml, hown, hts, hX0, hbl, hK, hX, hNc, hL⟩ := id C0
  have hA : ∀ q : Nat, s.heap.size ≤ q → AL s q := fun _ h => h
  have hbA : ¬ AL s b := Nat.not_le.mpr hbl
  have hcd : cdS σ (xs (i + 1)) (xs (i + 2)) ≤ 3 := (cdS_le _ _ _)
  refine lv_aload_n (pc := 1104) hx hb dL_law_1104 rfl (lv_at hl 1 rfl) ?_
  refine lw_cell (pc := 1105) hx hb hX0 hbl hbA hS hL hi (lv_at hl 0 rfl) (lv_at hl 4 rfl) 1 (by decide) (by decide) dL_law_1105 dL_law_1106 dL_law_1108 dL_law_1109 dL_law_1110 ?_
  refine lw_cell (pc := 1111) hx hb hX0 hbl hbA hS hL hi (lv_at hl 0 rfl) (lv_at hl 4 rfl) 2 (by decide) (by decide) dL_law_1111 dL_law_1112 dL_law_1114 dL_law_1115 dL_law_1116 ?_
  refine lv_aload_n (pc := 1117) hx hb dL_law_1117 rfl (lv_at hl 3 rfl) ?_
  refine va_calli (pc := 1118) (vx_runSW (As := [.ref (gX g), .int (xs (i + 1)), .int (xs (i + 2)), .ref (gO g)]) (rest := []) ⟨hx, hb, hml, hown, hts⟩ (hL_placeOf l hfl g (AL s) σ f (mw g σ th mi ti) (xs (i + 1)) (xs (i + 2)) hI) (vx_cwSW 4 hts gL_law_L_placeOf rfl rfl rfl (by decide +kernel) ⟨Nat.le_of_ble_eq_true rfl, Nat.le_of_ble_eq_true rfl⟩) (cxl_S hNc hP hD hA hK hX hS) rfl rfl hl.1 rfl (lv_room (Nat.le_of_ble_eq_true rfl)) dL_law_1118 ⟨show cells + 2 ≤ 601024 by omega, show slots + 12 ≤ 7293034 by omega⟩) hS (fun _ _ h => h) (fun _ h => h) (fun r1 u1 t1 H1 locs1 ht1 hvm1 hw1 hB1 hz1 hk1 hS => ?_)
  obtain ⟨hP, hD⟩ := hB1
  rw [ht1] at hP
  obtain ⟨rfl, hf1⟩ := hw1
  refine lv_istore (lv' := (5, .int (nI (cdS σ (xs (i + 1)) (xs (i + 2))))) :: vL b g i) hx hb dL_law_1121 hl (by decide) rfl (fun ls hl => ?_)
  refine lv_aload_n (pc := 1123) hx hb dL_law_1123 rfl (lv_at hl 3 rfl) ?_
  refine lw_cell (pc := 1124) hx hb hX0 hbl hbA hS hL hi (lv_at hl 1 rfl) (lv_at hl 5 rfl) 1 (by decide) (by decide) dL_law_1124 dL_law_1125 dL_law_1127 dL_law_1128 dL_law_1129 ?_
  refine lw_cell (pc := 1130) hx hb hX0 hbl hbA hS hL hi (lv_at hl 1 rfl) (lv_at hl 5 rfl) 2 (by decide) (by decide) dL_law_1130 dL_law_1131 dL_law_1133 dL_law_1134 dL_law_1135 ?_
  have hP := kP_perm hP (wm_p g σ σ u1 th mi ti)
  have hD := kD_perm hD (wm_p g σ σ u1 th mi ti)
  refine va_calli (pc := 1136) (va_runV (As := [.int (xs (i + 1)), .int (xs (i + 2))]) (rest := []) ⟨hx, hb, hml, hown, hts⟩ (cX2_placeOf_m l g (AL s) σ (cw g σ ++ ow g u1) th mi ti (xs (i + 1)) (xs (i + 2)) hI) (cwV 2 hts gL_law_X2_placeOf rfl rfl rfl (by decide +kernel) ⟨Nat.le_of_ble_eq_true rfl, Nat.le_of_ble_eq_true rfl⟩) (cx_V (q0 := 0) (ci := 2) (r := (RX2, TX2, 11)) rfl (ma0 g σ th mi ti (cw g σ ++ ow g u1)) hP hD hA hK hX hS) rfl rfl hl.1 rfl (lv_room (Nat.le_of_ble_eq_true rfl)) dL_law_1136 ⟨show cells + 2 + 0 ≤ 601024 by omega, show slots + 12 + 0 ≤ 7293034 by omega⟩) hS (fun _ _ h => h) (fun _ h => h) (fun r2 u2 t2 H2 locs2 ht2 hvm2 hw2 hB2 hz2 hk2 hS => ?_)
  obtain ⟨hP, hD⟩ := hB2
  rw [ht2] at hP
  exact lw_tail (q := 1139) C0 ⟨dL_law_1139, dL_law_1141, dL_law_1142, dL_law_1145, dL_law_1147, dL_law_1152⟩ ⟨dL_law_1154, dL_law_1157, dL_law_1158, dL_law_1159, dL_law_1160, dL_law_1162, dL_law_1163, dL_law_1164⟩ dL_law_1169 (by decide) hcd hI hw2 hf1 hgo hc hs (by omega) (by omega) hP hD hS hl
set_option maxHeartbeats 4000000 in
set_option maxRecDepth 100000 in
/-- the law: isColoured -/
theorem kL_isColoured {p : Program} {e : Env} {s : State} {m : MethodId} {below : List Frame} {meth : Method} {c : Code} {H : Heap} {locs : List Loc} {cells slots : Nat} {Q : State → Prop} {ls : Array Slot} {b L : Nat} {xs : Nat → Int32} {g : GA} {σ : St} {f : Nat → Int64} {th : Int32} {mi ti : Nat → Int32} {i : Nat} (l : Launch) (hfl : l.stackTraces = false) (C0 : LwX p s m meth c b L xs g) (hI : Inv σ) (hi : i + 6 ≤ L) (hc : cells + 110 ≤ 601024) (hs : slots + 600 ≤ 7293034) (hP : va_P (gD g) vwCl (wL g σ f th mi ti) H) (hD : va_D (AL s) (wL g σ f th mi ti)) (hS : va_S (AL s) s.heap H locs) (hl : lv_has ls 9 (vL b g i)) (hgo : LwGo p l e s m below meth c b g i Q 2306 (cells + 110) (slots + 600)) : W p l e room_1 s m #[Value.ref b] below meth c H locs cells slots Q (F0 m 1172 ls []) := by
  obtain ⟨hx, hb, hml, hown, hts, hX0, hbl, hK, hX, hNc, hL⟩ := id C0
  have hA : ∀ q : Nat, s.heap.size ≤ q → AL s q := fun _ h => h
  have hbA : ¬ AL s b := Nat.not_le.mpr hbl
  have hcd : cdS σ (xs (i + 1)) (xs (i + 2)) ≤ 3 := (cdS_le _ _ _)
  refine lv_aload_n (pc := 1172) hx hb dL_law_1172 rfl (lv_at hl 1 rfl) ?_
  refine lw_cell (pc := 1173) hx hb hX0 hbl hbA hS hL hi (lv_at hl 0 rfl) (lv_at hl 4 rfl) 1 (by decide) (by decide) dL_law_1173 dL_law_1174 dL_law_1176 dL_law_1177 dL_law_1178 ?_
  refine lw_cell (pc := 1179) hx hb hX0 hbl hbA hS hL hi (lv_at hl 0 rfl) (lv_at hl 4 rfl) 2 (by decide) (by decide) dL_law_1179 dL_law_1180 dL_law_1182 dL_law_1183 dL_law_1184 ?_
  refine lv_aload_n (pc := 1185) hx hb dL_law_1185 rfl (lv_at hl 3 rfl) ?_
  refine va_calli (pc := 1186) (vx_runSW (As := [.ref (gX g), .int (xs (i + 1)), .int (xs (i + 2)), .ref (gO g)]) (rest := []) ⟨hx, hb, hml, hown, hts⟩ (hL_isColoured l hfl g (AL s) σ f (mw g σ th mi ti) (xs (i + 1)) (xs (i + 2)) hI) (vx_cwSW 4 hts gL_law_L_isColoured rfl rfl rfl (by decide +kernel) ⟨Nat.le_of_ble_eq_true rfl, Nat.le_of_ble_eq_true rfl⟩) (cxl_S hNc hP hD hA hK hX hS) rfl rfl hl.1 rfl (lv_room (Nat.le_of_ble_eq_true rfl)) dL_law_1186 ⟨show cells + 2 ≤ 601024 by omega, show slots + 12 ≤ 7293034 by omega⟩) hS (fun _ _ h => h) (fun _ h => h) (fun r1 u1 t1 H1 locs1 ht1 hvm1 hw1 hB1 hz1 hk1 hS => ?_)
  obtain ⟨hP, hD⟩ := hB1
  rw [ht1] at hP
  obtain ⟨rfl, hf1⟩ := hw1
  refine lv_istore (lv' := (5, .int (nI (cdS σ (xs (i + 1)) (xs (i + 2))))) :: vL b g i) hx hb dL_law_1189 hl (by decide) rfl (fun ls hl => ?_)
  refine lv_aload_n (pc := 1191) hx hb dL_law_1191 rfl (lv_at hl 3 rfl) ?_
  refine lw_cell (pc := 1192) hx hb hX0 hbl hbA hS hL hi (lv_at hl 1 rfl) (lv_at hl 5 rfl) 1 (by decide) (by decide) dL_law_1192 dL_law_1193 dL_law_1195 dL_law_1196 dL_law_1197 ?_
  refine lw_cell (pc := 1198) hx hb hX0 hbl hbA hS hL hi (lv_at hl 1 rfl) (lv_at hl 5 rfl) 2 (by decide) (by decide) dL_law_1198 dL_law_1199 dL_law_1201 dL_law_1202 dL_law_1203 ?_
  have hP := kP_perm hP (wm_p g σ σ u1 th mi ti)
  have hD := kD_perm hD (wm_p g σ σ u1 th mi ti)
  refine va_calli (pc := 1204) (va_runV (As := [.int (xs (i + 1)), .int (xs (i + 2))]) (rest := []) ⟨hx, hb, hml, hown, hts⟩ (cX2_isColoured_m l g (AL s) σ (cw g σ ++ ow g u1) th mi ti (xs (i + 1)) (xs (i + 2)) hI) (cwV 2 hts gL_law_X2_isColoured rfl rfl rfl (by decide +kernel) ⟨Nat.le_of_ble_eq_true rfl, Nat.le_of_ble_eq_true rfl⟩) (cx_V (q0 := 0) (ci := 2) (r := (RX2, TX2, 11)) rfl (ma0 g σ th mi ti (cw g σ ++ ow g u1)) hP hD hA hK hX hS) rfl rfl hl.1 rfl (lv_room (Nat.le_of_ble_eq_true rfl)) dL_law_1204 ⟨show cells + 2 + 0 ≤ 601024 by omega, show slots + 12 + 0 ≤ 7293034 by omega⟩) hS (fun _ _ h => h) (fun _ h => h) (fun r2 u2 t2 H2 locs2 ht2 hvm2 hw2 hB2 hz2 hk2 hS => ?_)
  obtain ⟨hP, hD⟩ := hB2
  rw [ht2] at hP
  exact lw_tailz (q := 1207) C0 ⟨dL_law_1207, dL_law_1209, dL_law_1210, dL_law_1213, dL_law_1215, dL_law_1220⟩ ⟨dL_law_1222, dL_law_1225, dL_law_1226, dL_law_1227, dL_law_1228, dL_law_1230, dL_law_1233, dL_law_1234, dL_law_1237, dL_law_1238, dL_law_1239⟩ dL_law_1244 (by decide) hcd hI hw2 hf1 hgo hc hs (by omega) (by omega) hP hD hS hl
set_option maxHeartbeats 4000000 in
set_option maxRecDepth 100000 in
/-- the law: placeInLigature -/
theorem kL_placeInLigature {p : Program} {e : Env} {s : State} {m : MethodId} {below : List Frame} {meth : Method} {c : Code} {H : Heap} {locs : List Loc} {cells slots : Nat} {Q : State → Prop} {ls : Array Slot} {b L : Nat} {xs : Nat → Int32} {g : GA} {σ : St} {f : Nat → Int64} {th : Int32} {mi ti : Nat → Int32} {i : Nat} (l : Launch) (hfl : l.stackTraces = false) (C0 : LwX p s m meth c b L xs g) (hI : Inv σ) (hi : i + 6 ≤ L) (hc : cells + 110 ≤ 601024) (hs : slots + 600 ≤ 7293034) (hP : va_P (gD g) vwCl (wL g σ f th mi ti) H) (hD : va_D (AL s) (wL g σ f th mi ti)) (hS : va_S (AL s) s.heap H locs) (hl : lv_has ls 9 (vL b g i)) (hgo : LwGo p l e s m below meth c b g i Q 2306 (cells + 110) (slots + 600)) : W p l e room_1 s m #[Value.ref b] below meth c H locs cells slots Q (F0 m 1247 ls []) := by
  obtain ⟨hx, hb, hml, hown, hts, hX0, hbl, hK, hX, hNc, hL⟩ := id C0
  have hA : ∀ q : Nat, s.heap.size ≤ q → AL s q := fun _ h => h
  have hbA : ¬ AL s b := Nat.not_le.mpr hbl
  have hcd : cdS σ (xs (i + 1)) (xs (i + 2)) ≤ 3 := (cdS_le _ _ _)
  refine lv_aload_n (pc := 1247) hx hb dL_law_1247 rfl (lv_at hl 1 rfl) ?_
  refine lw_cell (pc := 1248) hx hb hX0 hbl hbA hS hL hi (lv_at hl 0 rfl) (lv_at hl 4 rfl) 1 (by decide) (by decide) dL_law_1248 dL_law_1249 dL_law_1251 dL_law_1252 dL_law_1253 ?_
  refine lw_cell (pc := 1254) hx hb hX0 hbl hbA hS hL hi (lv_at hl 0 rfl) (lv_at hl 4 rfl) 2 (by decide) (by decide) dL_law_1254 dL_law_1255 dL_law_1257 dL_law_1258 dL_law_1259 ?_
  refine lv_aload_n (pc := 1260) hx hb dL_law_1260 rfl (lv_at hl 3 rfl) ?_
  refine va_calli (pc := 1261) (vx_runSW (As := [.ref (gX g), .int (xs (i + 1)), .int (xs (i + 2)), .ref (gO g)]) (rest := []) ⟨hx, hb, hml, hown, hts⟩ (hL_placeInLigature l hfl g (AL s) σ f (mw g σ th mi ti) (xs (i + 1)) (xs (i + 2)) hI) (vx_cwSW 4 hts gL_law_L_placeInLigature rfl rfl rfl (by decide +kernel) ⟨Nat.le_of_ble_eq_true rfl, Nat.le_of_ble_eq_true rfl⟩) (cxl_S hNc hP hD hA hK hX hS) rfl rfl hl.1 rfl (lv_room (Nat.le_of_ble_eq_true rfl)) dL_law_1261 ⟨show cells + 2 ≤ 601024 by omega, show slots + 12 ≤ 7293034 by omega⟩) hS (fun _ _ h => h) (fun _ h => h) (fun r1 u1 t1 H1 locs1 ht1 hvm1 hw1 hB1 hz1 hk1 hS => ?_)
  obtain ⟨hP, hD⟩ := hB1
  rw [ht1] at hP
  obtain ⟨rfl, hf1⟩ := hw1
  refine lv_istore (lv' := (5, .int (nI (cdS σ (xs (i + 1)) (xs (i + 2))))) :: vL b g i) hx hb dL_law_1264 hl (by decide) rfl (fun ls hl => ?_)
  refine lv_aload_n (pc := 1266) hx hb dL_law_1266 rfl (lv_at hl 3 rfl) ?_
  refine lw_cell (pc := 1267) hx hb hX0 hbl hbA hS hL hi (lv_at hl 1 rfl) (lv_at hl 5 rfl) 1 (by decide) (by decide) dL_law_1267 dL_law_1268 dL_law_1270 dL_law_1271 dL_law_1272 ?_
  refine lw_cell (pc := 1273) hx hb hX0 hbl hbA hS hL hi (lv_at hl 1 rfl) (lv_at hl 5 rfl) 2 (by decide) (by decide) dL_law_1273 dL_law_1274 dL_law_1276 dL_law_1277 dL_law_1278 ?_
  have hP := kP_perm hP (wm_p g σ σ u1 th mi ti)
  have hD := kD_perm hD (wm_p g σ σ u1 th mi ti)
  refine va_calli (pc := 1279) (va_runV (As := [.int (xs (i + 1)), .int (xs (i + 2))]) (rest := []) ⟨hx, hb, hml, hown, hts⟩ (cX2_placeInLigature_m l g (AL s) σ (cw g σ ++ ow g u1) th mi ti (xs (i + 1)) (xs (i + 2)) hI) (cwV 2 hts gL_law_X2_placeInLigature rfl rfl rfl (by decide +kernel) ⟨Nat.le_of_ble_eq_true rfl, Nat.le_of_ble_eq_true rfl⟩) (cx_V (q0 := 0) (ci := 2) (r := (RX2, TX2, 11)) rfl (ma0 g σ th mi ti (cw g σ ++ ow g u1)) hP hD hA hK hX hS) rfl rfl hl.1 rfl (lv_room (Nat.le_of_ble_eq_true rfl)) dL_law_1279 ⟨show cells + 2 + 0 ≤ 601024 by omega, show slots + 12 + 0 ≤ 7293034 by omega⟩) hS (fun _ _ h => h) (fun _ h => h) (fun r2 u2 t2 H2 locs2 ht2 hvm2 hw2 hB2 hz2 hk2 hS => ?_)
  obtain ⟨hP, hD⟩ := hB2
  rw [ht2] at hP
  exact lw_tail (q := 1282) C0 ⟨dL_law_1282, dL_law_1284, dL_law_1285, dL_law_1288, dL_law_1290, dL_law_1295⟩ ⟨dL_law_1297, dL_law_1300, dL_law_1301, dL_law_1302, dL_law_1303, dL_law_1305, dL_law_1306, dL_law_1307⟩ dL_law_1312 (by decide) hcd hI hw2 hf1 hgo hc hs (by omega) (by omega) hP hD hS hl
