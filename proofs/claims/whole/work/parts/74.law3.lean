/-! THE LAW'S CASES -/
set_option maxHeartbeats 4000000 in
set_option maxRecDepth 100000 in
/-- the law: clefsThatFit -/
theorem kL_clefsThatFit {p : Program} {e : Env} {s : State} {m : MethodId} {below : List Frame} {meth : Method} {c : Code} {H : Heap} {locs : List Loc} {cells slots : Nat} {Q : State → Prop} {ls : Array Slot} {b L : Nat} {xs : Nat → Int32} {g : GA} {σ : St} {f : Nat → Int64} {th : Int32} {mi ti : Nat → Int32} {i : Nat} (l : Launch) (hfl : l.stackTraces = false) (C0 : LwX p s m meth c b L xs g) (hI : Inv σ) (hi : i + 6 ≤ L) (hc : cells + 110 ≤ 601024) (hs : slots + 600 ≤ 7293034) (hP : va_P (gD g) vwCl (wL g σ f th mi ti) H) (hD : va_D (AL s) (wL g σ f th mi ti)) (hS : va_S (AL s) s.heap H locs) (hl : lv_has ls 9 (vL b g i)) (hgo : LwGo p l e s m below meth c b g i Q 2306 (cells + 110) (slots + 600)) : W p l e room_1 s m #[Value.ref b] below meth c H locs cells slots Q (F0 m 1787 ls []) := by
  obtain ⟨hx, hb, hml, hown, hts, hX0, hbl, hK, hX, hNc, hL⟩ := id C0
  have hA : ∀ q : Nat, s.heap.size ≤ q → AL s q := fun _ h => h
  have hbA : ¬ AL s b := Nat.not_le.mpr hbl
  have hcd : cdV σ (xs (i + 1)) ≤ 3 := (cdV_le _ _)
  refine lv_aload_n (pc := 1787) hx hb dL_law_1787 rfl (lv_at hl 1 rfl) ?_
  refine lw_cell (pc := 1788) hx hb hX0 hbl hbA hS hL hi (lv_at hl 0 rfl) (lv_at hl 4 rfl) 1 (by decide) (by decide) dL_law_1788 dL_law_1789 dL_law_1791 dL_law_1792 dL_law_1793 ?_
  refine lv_aload_n (pc := 1794) hx hb dL_law_1794 rfl (lv_at hl 3 rfl) ?_
  refine va_calli (pc := 1795) (vx_runSW (As := [.ref (gX g), .int (xs (i + 1)), .ref (gO g)]) (rest := []) ⟨hx, hb, hml, hown, hts⟩ (hL_clefsThatFit l hfl g (AL s) σ f (mw g σ th mi ti) (xs (i + 1)) hI) (vx_cwSW 3 hts gL_law_L_clefsThatFit rfl rfl rfl (by decide +kernel) ⟨Nat.le_of_ble_eq_true rfl, Nat.le_of_ble_eq_true rfl⟩) (cxl_S hNc hP hD hA hK hX hS) rfl rfl hl.1 rfl (lv_room (Nat.le_of_ble_eq_true rfl)) dL_law_1795 ⟨show cells + 1 ≤ 601024 by omega, show slots + 6 ≤ 7293034 by omega⟩) hS (fun _ _ h => h) (fun _ h => h) (fun r1 u1 t1 H1 locs1 ht1 hvm1 hw1 hB1 hz1 hk1 hS => ?_)
  obtain ⟨hP, hD⟩ := hB1
  rw [ht1] at hP
  obtain ⟨rfl, hf1⟩ := hw1
  refine lv_istore (lv' := (5, .int (nI (cdV σ (xs (i + 1))))) :: vL b g i) hx hb dL_law_1798 hl (by decide) rfl (fun ls hl => ?_)
  refine lv_aload_n (pc := 1800) hx hb dL_law_1800 rfl (lv_at hl 3 rfl) ?_
  refine lw_cell (pc := 1801) hx hb hX0 hbl hbA hS hL hi (lv_at hl 1 rfl) (lv_at hl 5 rfl) 1 (by decide) (by decide) dL_law_1801 dL_law_1802 dL_law_1804 dL_law_1805 dL_law_1806 ?_
  have hP := kP_perm hP (wm_p g σ σ u1 th mi ti)
  have hD := kD_perm hD (wm_p g σ σ u1 th mi ti)
  refine va_calli (pc := 1807) (va_runV (As := [.int (xs (i + 1))]) (rest := []) ⟨hx, hb, hml, hown, hts⟩ (cX2_clefsThatFit_m l g (AL s) σ (cw g σ ++ ow g u1) th mi ti (xs (i + 1)) hI) (cwV 1 hts gL_law_X2_clefsThatFit rfl rfl rfl (by decide +kernel) ⟨Nat.le_of_ble_eq_true rfl, Nat.le_of_ble_eq_true rfl⟩) (cx_V (q0 := 0) (ci := 2) (r := (RX2, TX2, 11)) rfl (ma0 g σ th mi ti (cw g σ ++ ow g u1)) hP hD hA hK hX hS) rfl rfl hl.1 rfl (lv_room (Nat.le_of_ble_eq_true rfl)) dL_law_1807 ⟨show cells + 1 + 0 ≤ 601024 by omega, show slots + 6 + 0 ≤ 7293034 by omega⟩) hS (fun _ _ h => h) (fun _ h => h) (fun r2 u2 t2 H2 locs2 ht2 hvm2 hw2 hB2 hz2 hk2 hS => ?_)
  obtain ⟨hP, hD⟩ := hB2
  rw [ht2] at hP
  exact lw_tail (q := 1810) C0 ⟨dL_law_1810, dL_law_1812, dL_law_1813, dL_law_1816, dL_law_1818, dL_law_1823⟩ ⟨dL_law_1825, dL_law_1828, dL_law_1829, dL_law_1830, dL_law_1831, dL_law_1833, dL_law_1834, dL_law_1835⟩ dL_law_1840 (by decide) hcd hI hw2 hf1 hgo hc hs (by omega) (by omega) hP hD hS hl
set_option maxHeartbeats 4000000 in
set_option maxRecDepth 100000 in
/-- the law: clashes -/
theorem kL_clashes {p : Program} {e : Env} {s : State} {m : MethodId} {below : List Frame} {meth : Method} {c : Code} {H : Heap} {locs : List Loc} {cells slots : Nat} {Q : State → Prop} {ls : Array Slot} {b L : Nat} {xs : Nat → Int32} {g : GA} {σ : St} {f : Nat → Int64} {th : Int32} {mi ti : Nat → Int32} {i : Nat} (l : Launch) (hfl : l.stackTraces = false) (C0 : LwX p s m meth c b L xs g) (hI : Inv σ) (hi : i + 6 ≤ L) (hc : cells + 110 ≤ 601024) (hs : slots + 600 ≤ 7293034) (hP : va_P (gD g) vwCl (wL g σ f th mi ti) H) (hD : va_D (AL s) (wL g σ f th mi ti)) (hS : va_S (AL s) s.heap H locs) (hl : lv_has ls 9 (vL b g i)) (hgo : LwGo p l e s m below meth c b g i Q 2306 (cells + 110) (slots + 600)) : W p l e room_1 s m #[Value.ref b] below meth c H locs cells slots Q (F0 m 1843 ls []) := by
  obtain ⟨hx, hb, hml, hown, hts, hX0, hbl, hK, hX, hNc, hL⟩ := id C0
  have hA : ∀ q : Nat, s.heap.size ≤ q → AL s q := fun _ h => h
  have hbA : ¬ AL s b := Nat.not_le.mpr hbl
  have hcd : cd_clashes σ (xs (i + 1)) (xs (i + 2)) ≤ 3 := (cd_clashes_le _ _ _)
  refine lv_aload_n (pc := 1843) hx hb dL_law_1843 rfl (lv_at hl 1 rfl) ?_
  refine lw_cell (pc := 1844) hx hb hX0 hbl hbA hS hL hi (lv_at hl 0 rfl) (lv_at hl 4 rfl) 1 (by decide) (by decide) dL_law_1844 dL_law_1845 dL_law_1847 dL_law_1848 dL_law_1849 ?_
  refine lw_cell (pc := 1850) hx hb hX0 hbl hbA hS hL hi (lv_at hl 0 rfl) (lv_at hl 4 rfl) 2 (by decide) (by decide) dL_law_1850 dL_law_1851 dL_law_1853 dL_law_1854 dL_law_1855 ?_
  refine lv_aload_n (pc := 1856) hx hb dL_law_1856 rfl (lv_at hl 3 rfl) ?_
  refine va_calli (pc := 1857) (vx_runSW (As := [.ref (gX g), .int (xs (i + 1)), .int (xs (i + 2)), .ref (gO g)]) (rest := []) ⟨hx, hb, hml, hown, hts⟩ (hL_clashes l hfl g (AL s) σ f (mw g σ th mi ti) (xs (i + 1)) (xs (i + 2)) hI) (vx_cwSW 4 hts gL_law_L_clashes rfl rfl rfl (by decide +kernel) ⟨Nat.le_of_ble_eq_true rfl, Nat.le_of_ble_eq_true rfl⟩) (cxl_S hNc hP hD hA hK hX hS) rfl rfl hl.1 rfl (lv_room (Nat.le_of_ble_eq_true rfl)) dL_law_1857 ⟨show cells + 4 ≤ 601024 by omega, show slots + 24 ≤ 7293034 by omega⟩) hS (fun _ _ h => h) (fun _ h => h) (fun r1 u1 t1 H1 locs1 ht1 hvm1 hw1 hB1 hz1 hk1 hS => ?_)
  obtain ⟨hP, hD⟩ := hB1
  rw [ht1] at hP
  obtain ⟨rfl, hf1⟩ := hw1
  refine lv_istore (lv' := (5, .int (nI (cd_clashes σ (xs (i + 1)) (xs (i + 2))))) :: vL b g i) hx hb dL_law_1860 hl (by decide) rfl (fun ls hl => ?_)
  refine lv_aload_n (pc := 1862) hx hb dL_law_1862 rfl (lv_at hl 3 rfl) ?_
  refine lw_cell (pc := 1863) hx hb hX0 hbl hbA hS hL hi (lv_at hl 1 rfl) (lv_at hl 5 rfl) 1 (by decide) (by decide) dL_law_1863 dL_law_1864 dL_law_1866 dL_law_1867 dL_law_1868 ?_
  refine lw_cell (pc := 1869) hx hb hX0 hbl hbA hS hL hi (lv_at hl 1 rfl) (lv_at hl 5 rfl) 2 (by decide) (by decide) dL_law_1869 dL_law_1870 dL_law_1872 dL_law_1873 dL_law_1874 ?_
  have hP := kP_perm hP (wm_p g σ σ u1 th mi ti)
  have hD := kD_perm hD (wm_p g σ σ u1 th mi ti)
  refine va_calli (pc := 1875) (va_runV (As := [.int (xs (i + 1)), .int (xs (i + 2))]) (rest := []) ⟨hx, hb, hml, hown, hts⟩ (cX2_clashes_m l g (AL s) σ (cw g σ ++ ow g u1) th mi ti (xs (i + 1)) (xs (i + 2)) hI) (cwV 2 hts gL_law_X2_clashes rfl rfl rfl (by decide +kernel) ⟨Nat.le_of_ble_eq_true rfl, Nat.le_of_ble_eq_true rfl⟩) (cx_V (q0 := 0) (ci := 2) (r := (RX2, TX2, 11)) rfl (ma0 g σ th mi ti (cw g σ ++ ow g u1)) hP hD hA hK hX hS) rfl rfl hl.1 rfl (lv_room (Nat.le_of_ble_eq_true rfl)) dL_law_1875 ⟨show cells + 4 + 0 ≤ 601024 by omega, show slots + 24 + 0 ≤ 7293034 by omega⟩) hS (fun _ _ h => h) (fun _ h => h) (fun r2 u2 t2 H2 locs2 ht2 hvm2 hw2 hB2 hz2 hk2 hS => ?_)
  obtain ⟨hP, hD⟩ := hB2
  rw [ht2] at hP
  exact lw_tail (q := 1878) C0 ⟨dL_law_1878, dL_law_1880, dL_law_1881, dL_law_1884, dL_law_1886, dL_law_1891⟩ ⟨dL_law_1893, dL_law_1896, dL_law_1897, dL_law_1898, dL_law_1899, dL_law_1901, dL_law_1902, dL_law_1903⟩ dL_law_1908 (by decide) hcd hI hw2 hf1 hgo hc hs (by omega) (by omega) hP hD hS hl
set_option maxHeartbeats 4000000 in
set_option maxRecDepth 100000 in
/-- the law: firstClash -/
theorem kL_firstClash {p : Program} {e : Env} {s : State} {m : MethodId} {below : List Frame} {meth : Method} {c : Code} {H : Heap} {locs : List Loc} {cells slots : Nat} {Q : State → Prop} {ls : Array Slot} {b L : Nat} {xs : Nat → Int32} {g : GA} {σ : St} {f : Nat → Int64} {th : Int32} {mi ti : Nat → Int32} {i : Nat} (l : Launch) (hfl : l.stackTraces = false) (C0 : LwX p s m meth c b L xs g) (hI : Inv σ) (hi : i + 6 ≤ L) (hc : cells + 110 ≤ 601024) (hs : slots + 600 ≤ 7293034) (hP : va_P (gD g) vwCl (wL g σ f th mi ti) H) (hD : va_D (AL s) (wL g σ f th mi ti)) (hS : va_S (AL s) s.heap H locs) (hl : lv_has ls 9 (vL b g i)) (hgo : LwGo p l e s m below meth c b g i Q 2306 (cells + 110) (slots + 600)) : W p l e room_1 s m #[Value.ref b] below meth c H locs cells slots Q (F0 m 1911 ls []) := by
  obtain ⟨hx, hb, hml, hown, hts, hX0, hbl, hK, hX, hNc, hL⟩ := id C0
  have hA : ∀ q : Nat, s.heap.size ≤ q → AL s q := fun _ h => h
  have hbA : ¬ AL s b := Nat.not_le.mpr hbl
  have hcd : cd_clashes σ (xs (i + 1)) (xs (i + 2)) ≤ 3 := (cd_clashes_le _ _ _)
  refine lv_aload_n (pc := 1911) hx hb dL_law_1911 rfl (lv_at hl 1 rfl) ?_
  refine lw_cell (pc := 1912) hx hb hX0 hbl hbA hS hL hi (lv_at hl 0 rfl) (lv_at hl 4 rfl) 1 (by decide) (by decide) dL_law_1912 dL_law_1913 dL_law_1915 dL_law_1916 dL_law_1917 ?_
  refine lw_cell (pc := 1918) hx hb hX0 hbl hbA hS hL hi (lv_at hl 0 rfl) (lv_at hl 4 rfl) 2 (by decide) (by decide) dL_law_1918 dL_law_1919 dL_law_1921 dL_law_1922 dL_law_1923 ?_
  refine lv_aload_n (pc := 1924) hx hb dL_law_1924 rfl (lv_at hl 3 rfl) ?_
  refine va_calli (pc := 1925) (vx_runSW (As := [.ref (gX g), .int (xs (i + 1)), .int (xs (i + 2)), .ref (gO g)]) (rest := []) ⟨hx, hb, hml, hown, hts⟩ (hL_firstClash l hfl g (AL s) σ f (mw g σ th mi ti) (xs (i + 1)) (xs (i + 2)) hI) (vx_cwSW 4 hts gL_law_L_firstClash rfl rfl rfl (by decide +kernel) ⟨Nat.le_of_ble_eq_true rfl, Nat.le_of_ble_eq_true rfl⟩) (cxl_S hNc hP hD hA hK hX hS) rfl rfl hl.1 rfl (lv_room (Nat.le_of_ble_eq_true rfl)) dL_law_1925 ⟨show cells + 4 ≤ 601024 by omega, show slots + 24 ≤ 7293034 by omega⟩) hS (fun _ _ h => h) (fun _ h => h) (fun r1 u1 t1 H1 locs1 ht1 hvm1 hw1 hB1 hz1 hk1 hS => ?_)
  obtain ⟨hP, hD⟩ := hB1
  rw [ht1] at hP
  obtain ⟨rfl, hf1⟩ := hw1
  refine lv_istore (lv' := (5, .int (nI (cd_clashes σ (xs (i + 1)) (xs (i + 2))))) :: vL b g i) hx hb dL_law_1928 hl (by decide) rfl (fun ls hl => ?_)
  refine lv_aload_n (pc := 1930) hx hb dL_law_1930 rfl (lv_at hl 3 rfl) ?_
  refine lw_cell (pc := 1931) hx hb hX0 hbl hbA hS hL hi (lv_at hl 1 rfl) (lv_at hl 5 rfl) 1 (by decide) (by decide) dL_law_1931 dL_law_1932 dL_law_1934 dL_law_1935 dL_law_1936 ?_
  refine lw_cell (pc := 1937) hx hb hX0 hbl hbA hS hL hi (lv_at hl 1 rfl) (lv_at hl 5 rfl) 2 (by decide) (by decide) dL_law_1937 dL_law_1938 dL_law_1940 dL_law_1941 dL_law_1942 ?_
  have hP := kP_perm hP (wm_p g σ σ u1 th mi ti)
  have hD := kD_perm hD (wm_p g σ σ u1 th mi ti)
  refine va_calli (pc := 1943) (va_runV (As := [.int (xs (i + 1)), .int (xs (i + 2))]) (rest := []) ⟨hx, hb, hml, hown, hts⟩ (cX2_firstClash_m l g (AL s) σ (cw g σ ++ ow g u1) th mi ti (xs (i + 1)) (xs (i + 2)) hI) (cwV 2 hts gL_law_X2_firstClash rfl rfl rfl (by decide +kernel) ⟨Nat.le_of_ble_eq_true rfl, Nat.le_of_ble_eq_true rfl⟩) (cx_V (q0 := 0) (ci := 2) (r := (RX2, TX2, 11)) rfl (ma0 g σ th mi ti (cw g σ ++ ow g u1)) hP hD hA hK hX hS) rfl rfl hl.1 rfl (lv_room (Nat.le_of_ble_eq_true rfl)) dL_law_1943 ⟨show cells + 4 + 0 ≤ 601024 by omega, show slots + 24 + 0 ≤ 7293034 by omega⟩) hS (fun _ _ h => h) (fun _ h => h) (fun r2 u2 t2 H2 locs2 ht2 hvm2 hw2 hB2 hz2 hk2 hS => ?_)
  obtain ⟨hP, hD⟩ := hB2
  rw [ht2] at hP
  exact lw_tail (q := 1946) C0 ⟨dL_law_1946, dL_law_1948, dL_law_1949, dL_law_1952, dL_law_1954, dL_law_1959⟩ ⟨dL_law_1961, dL_law_1964, dL_law_1965, dL_law_1966, dL_law_1967, dL_law_1969, dL_law_1970, dL_law_1971⟩ dL_law_1976 (by decide) hcd hI hw2 hf1 hgo hc hs (by omega) (by omega) hP hD hS hl
set_option maxHeartbeats 4000000 in
set_option maxRecDepth 100000 in
/-- the law: clashesWith -/
theorem kL_clashesWith {p : Program} {e : Env} {s : State} {m : MethodId} {below : List Frame} {meth : Method} {c : Code} {H : Heap} {locs : List Loc} {cells slots : Nat} {Q : State → Prop} {ls : Array Slot} {b L : Nat} {xs : Nat → Int32} {g : GA} {σ : St} {f : Nat → Int64} {th : Int32} {mi ti : Nat → Int32} {i : Nat} (l : Launch) (hfl : l.stackTraces = false) (C0 : LwX p s m meth c b L xs g) (hI : Inv σ) (hi : i + 6 ≤ L) (hc : cells + 110 ≤ 601024) (hs : slots + 600 ≤ 7293034) (hP : va_P (gD g) vwCl (wL g σ f th mi ti) H) (hD : va_D (AL s) (wL g σ f th mi ti)) (hS : va_S (AL s) s.heap H locs) (hl : lv_has ls 9 (vL b g i)) (hgo : LwGo p l e s m below meth c b g i Q 2306 (cells + 110) (slots + 600)) : W p l e room_1 s m #[Value.ref b] below meth c H locs cells slots Q (F0 m 1979 ls []) := by
  obtain ⟨hx, hb, hml, hown, hts, hX0, hbl, hK, hX, hNc, hL⟩ := id C0
  have hA : ∀ q : Nat, s.heap.size ≤ q → AL s q := fun _ h => h
  have hbA : ¬ AL s b := Nat.not_le.mpr hbl
  have hcd : cdVR σ (xs (i + 1)) (inr 0 5 (xs (i + 2))) ≤ 3 := (cdVR_le _ _ _)
  refine lv_aload_n (pc := 1979) hx hb dL_law_1979 rfl (lv_at hl 1 rfl) ?_
  refine lw_cell (pc := 1980) hx hb hX0 hbl hbA hS hL hi (lv_at hl 0 rfl) (lv_at hl 4 rfl) 1 (by decide) (by decide) dL_law_1980 dL_law_1981 dL_law_1983 dL_law_1984 dL_law_1985 ?_
  refine lw_cell (pc := 1986) hx hb hX0 hbl hbA hS hL hi (lv_at hl 0 rfl) (lv_at hl 4 rfl) 2 (by decide) (by decide) dL_law_1986 dL_law_1987 dL_law_1989 dL_law_1990 dL_law_1991 ?_
  refine lv_aload_n (pc := 1992) hx hb dL_law_1992 rfl (lv_at hl 3 rfl) ?_
  refine va_calli (pc := 1993) (vx_runSW (As := [.ref (gX g), .int (xs (i + 1)), .int (xs (i + 2)), .ref (gO g)]) (rest := []) ⟨hx, hb, hml, hown, hts⟩ (hL_clashesWith l hfl g (AL s) σ f (mw g σ th mi ti) (xs (i + 1)) (xs (i + 2)) hI) (vx_cwSW 4 hts gL_law_L_clashesWith rfl rfl rfl (by decide +kernel) ⟨Nat.le_of_ble_eq_true rfl, Nat.le_of_ble_eq_true rfl⟩) (cxl_S hNc hP hD hA hK hX hS) rfl rfl hl.1 rfl (lv_room (Nat.le_of_ble_eq_true rfl)) dL_law_1993 ⟨show cells + 2 ≤ 601024 by omega, show slots + 12 ≤ 7293034 by omega⟩) hS (fun _ _ h => h) (fun _ h => h) (fun r1 u1 t1 H1 locs1 ht1 hvm1 hw1 hB1 hz1 hk1 hS => ?_)
  obtain ⟨hP, hD⟩ := hB1
  rw [ht1] at hP
  obtain ⟨rfl, hf1⟩ := hw1
  refine lv_istore (lv' := (5, .int (nI (cdVR σ (xs (i + 1)) (inr 0 5 (xs (i + 2)))))) :: vL b g i) hx hb dL_law_1996 hl (by decide) rfl (fun ls hl => ?_)
  refine lv_aload_n (pc := 1998) hx hb dL_law_1998 rfl (lv_at hl 3 rfl) ?_
  refine lw_cell (pc := 1999) hx hb hX0 hbl hbA hS hL hi (lv_at hl 1 rfl) (lv_at hl 5 rfl) 1 (by decide) (by decide) dL_law_1999 dL_law_2000 dL_law_2002 dL_law_2003 dL_law_2004 ?_
  refine lw_cell (pc := 2005) hx hb hX0 hbl hbA hS hL hi (lv_at hl 1 rfl) (lv_at hl 5 rfl) 2 (by decide) (by decide) dL_law_2005 dL_law_2006 dL_law_2008 dL_law_2009 dL_law_2010 ?_
  have hP := kP_perm hP (wm_p g σ σ u1 th mi ti)
  have hD := kD_perm hD (wm_p g σ σ u1 th mi ti)
  refine va_calli (pc := 2011) (va_runV (As := [.int (xs (i + 1)), .int (xs (i + 2))]) (rest := []) ⟨hx, hb, hml, hown, hts⟩ (cX2_clashesWith_m l g (AL s) σ (cw g σ ++ ow g u1) th mi ti (xs (i + 1)) (xs (i + 2)) hI) (cwV 2 hts gL_law_X2_clashesWith rfl rfl rfl (by decide +kernel) ⟨Nat.le_of_ble_eq_true rfl, Nat.le_of_ble_eq_true rfl⟩) (cx_V (q0 := 0) (ci := 2) (r := (RX2, TX2, 11)) rfl (ma0 g σ th mi ti (cw g σ ++ ow g u1)) hP hD hA hK hX hS) rfl rfl hl.1 rfl (lv_room (Nat.le_of_ble_eq_true rfl)) dL_law_2011 ⟨show cells + 2 + 0 ≤ 601024 by omega, show slots + 12 + 0 ≤ 7293034 by omega⟩) hS (fun _ _ h => h) (fun _ h => h) (fun r2 u2 t2 H2 locs2 ht2 hvm2 hw2 hB2 hz2 hk2 hS => ?_)
  obtain ⟨hP, hD⟩ := hB2
  rw [ht2] at hP
  exact lw_tail (q := 2014) C0 ⟨dL_law_2014, dL_law_2016, dL_law_2017, dL_law_2020, dL_law_2022, dL_law_2027⟩ ⟨dL_law_2029, dL_law_2032, dL_law_2033, dL_law_2034, dL_law_2035, dL_law_2037, dL_law_2038, dL_law_2039⟩ dL_law_2044 (by decide) hcd hI hw2 hf1 hgo hc hs (by omega) (by omega) hP hD hS hl
set_option maxHeartbeats 4000000 in
set_option maxRecDepth 100000 in
/-- the law: bestClef -/
theorem kL_bestClef {p : Program} {e : Env} {s : State} {m : MethodId} {below : List Frame} {meth : Method} {c : Code} {H : Heap} {locs : List Loc} {cells slots : Nat} {Q : State → Prop} {ls : Array Slot} {b L : Nat} {xs : Nat → Int32} {g : GA} {σ : St} {f : Nat → Int64} {th : Int32} {mi ti : Nat → Int32} {i : Nat} (l : Launch) (hfl : l.stackTraces = false) (C0 : LwX p s m meth c b L xs g) (hI : Inv σ) (hi : i + 6 ≤ L) (hc : cells + 110 ≤ 601024) (hs : slots + 600 ≤ 7293034) (hP : va_P (gD g) vwCl (wL g σ f th mi ti) H) (hD : va_D (AL s) (wL g σ f th mi ti)) (hS : va_S (AL s) s.heap H locs) (hl : lv_has ls 9 (vL b g i)) (hgo : LwGo p l e s m below meth c b g i Q 2306 (cells + 110) (slots + 600)) : W p l e room_1 s m #[Value.ref b] below meth c H locs cells slots Q (F0 m 2047 ls []) := by
  obtain ⟨hx, hb, hml, hown, hts, hX0, hbl, hK, hX, hNc, hL⟩ := id C0
  have hA : ∀ q : Nat, s.heap.size ≤ q → AL s q := fun _ h => h
  have hbA : ¬ AL s b := Nat.not_le.mpr hbl
  have hcd : cdV σ (xs (i + 1)) ≤ 3 := (cdV_le _ _)
  refine lv_aload_n (pc := 2047) hx hb dL_law_2047 rfl (lv_at hl 1 rfl) ?_
  refine lw_cell (pc := 2048) hx hb hX0 hbl hbA hS hL hi (lv_at hl 0 rfl) (lv_at hl 4 rfl) 1 (by decide) (by decide) dL_law_2048 dL_law_2049 dL_law_2051 dL_law_2052 dL_law_2053 ?_
  refine lv_aload_n (pc := 2054) hx hb dL_law_2054 rfl (lv_at hl 3 rfl) ?_
  refine va_calli (pc := 2055) (vx_runSW (As := [.ref (gX g), .int (xs (i + 1)), .ref (gO g)]) (rest := []) ⟨hx, hb, hml, hown, hts⟩ (hL_bestClef l hfl g (AL s) σ f (mw g σ th mi ti) (xs (i + 1)) hI) (vx_cwSW 3 hts gL_law_L_bestClef rfl rfl rfl (by decide +kernel) ⟨Nat.le_of_ble_eq_true rfl, Nat.le_of_ble_eq_true rfl⟩) (cxl_S hNc hP hD hA hK hX hS) rfl rfl hl.1 rfl (lv_room (Nat.le_of_ble_eq_true rfl)) dL_law_2055 ⟨show cells + 1 ≤ 601024 by omega, show slots + 6 ≤ 7293034 by omega⟩) hS (fun _ _ h => h) (fun _ h => h) (fun r1 u1 t1 H1 locs1 ht1 hvm1 hw1 hB1 hz1 hk1 hS => ?_)
  obtain ⟨hP, hD⟩ := hB1
  rw [ht1] at hP
  obtain ⟨rfl, hf1⟩ := hw1
  refine lv_istore (lv' := (5, .int (nI (cdV σ (xs (i + 1))))) :: vL b g i) hx hb dL_law_2058 hl (by decide) rfl (fun ls hl => ?_)
  refine lv_aload_n (pc := 2060) hx hb dL_law_2060 rfl (lv_at hl 3 rfl) ?_
  refine lw_cell (pc := 2061) hx hb hX0 hbl hbA hS hL hi (lv_at hl 1 rfl) (lv_at hl 5 rfl) 1 (by decide) (by decide) dL_law_2061 dL_law_2062 dL_law_2064 dL_law_2065 dL_law_2066 ?_
  have hP := kP_perm hP (wm_p g σ σ u1 th mi ti)
  have hD := kD_perm hD (wm_p g σ σ u1 th mi ti)
  refine va_calli (pc := 2067) (va_runV (As := [.int (xs (i + 1))]) (rest := []) ⟨hx, hb, hml, hown, hts⟩ (cX2_bestClef_m l g (AL s) σ (cw g σ ++ ow g u1) th mi ti (xs (i + 1)) hI) (cwV 1 hts gL_law_X2_bestClef rfl rfl rfl (by decide +kernel) ⟨Nat.le_of_ble_eq_true rfl, Nat.le_of_ble_eq_true rfl⟩) (cx_V (q0 := 0) (ci := 2) (r := (RX2, TX2, 11)) rfl (ma0 g σ th mi ti (cw g σ ++ ow g u1)) hP hD hA hK hX hS) rfl rfl hl.1 rfl (lv_room (Nat.le_of_ble_eq_true rfl)) dL_law_2067 ⟨show cells + 1 + 0 ≤ 601024 by omega, show slots + 6 + 0 ≤ 7293034 by omega⟩) hS (fun _ _ h => h) (fun _ h => h) (fun r2 u2 t2 H2 locs2 ht2 hvm2 hw2 hB2 hz2 hk2 hS => ?_)
  obtain ⟨hP, hD⟩ := hB2
  rw [ht2] at hP
  exact lw_tail (q := 2070) C0 ⟨dL_law_2070, dL_law_2072, dL_law_2073, dL_law_2076, dL_law_2078, dL_law_2083⟩ ⟨dL_law_2085, dL_law_2088, dL_law_2089, dL_law_2090, dL_law_2091, dL_law_2093, dL_law_2094, dL_law_2095⟩ dL_law_2100 (by decide) hcd hI hw2 hf1 hgo hc hs (by omega) (by omega) hP hD hS hl
set_option maxHeartbeats 4000000 in
set_option maxRecDepth 100000 in
/-- the law: canonClashes -/
theorem kL_canonClashes {p : Program} {e : Env} {s : State} {m : MethodId} {below : List Frame} {meth : Method} {c : Code} {H : Heap} {locs : List Loc} {cells slots : Nat} {Q : State → Prop} {ls : Array Slot} {b L : Nat} {xs : Nat → Int32} {g : GA} {σ : St} {f : Nat → Int64} {th : Int32} {mi ti : Nat → Int32} {i : Nat} (l : Launch) (hfl : l.stackTraces = false) (C0 : LwX p s m meth c b L xs g) (hI : Inv σ) (hi : i + 6 ≤ L) (hc : cells + 110 ≤ 601024) (hs : slots + 600 ≤ 7293034) (hP : va_P (gD g) vwCl (wL g σ f th mi ti) H) (hD : va_D (AL s) (wL g σ f th mi ti)) (hS : va_S (AL s) s.heap H locs) (hl : lv_has ls 9 (vL b g i)) (hgo : LwGo p l e s m below meth c b g i Q 2306 (cells + 110) (slots + 600)) : W p l e room_1 s m #[Value.ref b] below meth c H locs cells slots Q (F0 m 2103 ls []) := by
  obtain ⟨hx, hb, hml, hown, hts, hX0, hbl, hK, hX, hNc, hL⟩ := id C0
  have hA : ∀ q : Nat, s.heap.size ≤ q → AL s q := fun _ h => h
  have hbA : ¬ AL s b := Nat.not_le.mpr hbl
  have hcd : cd_canon σ (xs (i + 1)) (xs (i + 2)) (xs (i + 3)) ≤ 3 := (cd_canon_le _ _ _ _)
  refine lv_aload_n (pc := 2103) hx hb dL_law_2103 rfl (lv_at hl 1 rfl) ?_
  refine lw_cell (pc := 2104) hx hb hX0 hbl hbA hS hL hi (lv_at hl 0 rfl) (lv_at hl 4 rfl) 1 (by decide) (by decide) dL_law_2104 dL_law_2105 dL_law_2107 dL_law_2108 dL_law_2109 ?_
  refine lw_cell (pc := 2110) hx hb hX0 hbl hbA hS hL hi (lv_at hl 0 rfl) (lv_at hl 4 rfl) 2 (by decide) (by decide) dL_law_2110 dL_law_2111 dL_law_2113 dL_law_2114 dL_law_2115 ?_
  refine lw_cell (pc := 2116) hx hb hX0 hbl hbA hS hL hi (lv_at hl 0 rfl) (lv_at hl 4 rfl) 3 (by decide) (by decide) dL_law_2116 dL_law_2117 dL_law_2119 dL_law_2120 dL_law_2121 ?_
  refine lv_aload_n (pc := 2122) hx hb dL_law_2122 rfl (lv_at hl 3 rfl) ?_
  refine va_calli (pc := 2123) (vx_runSW (As := [.ref (gX g), .int (xs (i + 1)), .int (xs (i + 2)), .int (xs (i + 3)), .ref (gO g)]) (rest := []) ⟨hx, hb, hml, hown, hts⟩ (hL_canonClashes l hfl g (AL s) σ f (mw g σ th mi ti) (xs (i + 1)) (xs (i + 2)) (xs (i + 3)) hI) (vx_cwSW 5 hts gL_law_L_canonClashes rfl rfl rfl (by decide +kernel) ⟨Nat.le_of_ble_eq_true rfl, Nat.le_of_ble_eq_true rfl⟩) (cxl_S hNc hP hD hA hK hX hS) rfl rfl hl.1 rfl (lv_room (Nat.le_of_ble_eq_true rfl)) dL_law_2123 ⟨show cells + 3 ≤ 601024 by omega, show slots + 18 ≤ 7293034 by omega⟩) hS (fun _ _ h => h) (fun _ h => h) (fun r1 u1 t1 H1 locs1 ht1 hvm1 hw1 hB1 hz1 hk1 hS => ?_)
  obtain ⟨hP, hD⟩ := hB1
  rw [ht1] at hP
  obtain ⟨rfl, hf1⟩ := hw1
  refine lv_istore (lv' := (5, .int (nI (cd_canon σ (xs (i + 1)) (xs (i + 2)) (xs (i + 3))))) :: vL b g i) hx hb dL_law_2126 hl (by decide) rfl (fun ls hl => ?_)
  refine lv_aload_n (pc := 2128) hx hb dL_law_2128 rfl (lv_at hl 3 rfl) ?_
  refine lw_cell (pc := 2129) hx hb hX0 hbl hbA hS hL hi (lv_at hl 1 rfl) (lv_at hl 5 rfl) 1 (by decide) (by decide) dL_law_2129 dL_law_2130 dL_law_2132 dL_law_2133 dL_law_2134 ?_
  refine lw_cell (pc := 2135) hx hb hX0 hbl hbA hS hL hi (lv_at hl 1 rfl) (lv_at hl 5 rfl) 2 (by decide) (by decide) dL_law_2135 dL_law_2136 dL_law_2138 dL_law_2139 dL_law_2140 ?_
  refine lw_cell (pc := 2141) hx hb hX0 hbl hbA hS hL hi (lv_at hl 1 rfl) (lv_at hl 5 rfl) 3 (by decide) (by decide) dL_law_2141 dL_law_2142 dL_law_2144 dL_law_2145 dL_law_2146 ?_
  have hP := kP_perm hP (wm_p g σ σ u1 th mi ti)
  have hD := kD_perm hD (wm_p g σ σ u1 th mi ti)
  refine va_calli (pc := 2147) (va_runV (As := [.int (xs (i + 1)), .int (xs (i + 2)), .int (xs (i + 3))]) (rest := []) ⟨hx, hb, hml, hown, hts⟩ (cX2_canonClashes_m l g (AL s) σ (cw g σ ++ ow g u1) th mi ti (xs (i + 1)) (xs (i + 2)) (xs (i + 3)) hI) (cwV 3 hts gL_law_X2_canonClashes rfl rfl rfl (by decide +kernel) ⟨Nat.le_of_ble_eq_true rfl, Nat.le_of_ble_eq_true rfl⟩) (cx_V (q0 := 0) (ci := 2) (r := (RX2, TX2, 11)) rfl (ma0 g σ th mi ti (cw g σ ++ ow g u1)) hP hD hA hK hX hS) rfl rfl hl.1 rfl (lv_room (Nat.le_of_ble_eq_true rfl)) dL_law_2147 ⟨show cells + 3 + 0 ≤ 601024 by omega, show slots + 18 + 0 ≤ 7293034 by omega⟩) hS (fun _ _ h => h) (fun _ h => h) (fun r2 u2 t2 H2 locs2 ht2 hvm2 hw2 hB2 hz2 hk2 hS => ?_)
  obtain ⟨hP, hD⟩ := hB2
  rw [ht2] at hP
  exact lw_tail (q := 2150) C0 ⟨dL_law_2150, dL_law_2152, dL_law_2153, dL_law_2156, dL_law_2158, dL_law_2163⟩ ⟨dL_law_2165, dL_law_2168, dL_law_2169, dL_law_2170, dL_law_2171, dL_law_2173, dL_law_2174, dL_law_2175⟩ dL_law_2180 (by decide) hcd hI hw2 hf1 hgo hc hs (by omega) (by omega) hP hD hS hl
set_option maxHeartbeats 4000000 in
set_option maxRecDepth 100000 in
/-- the law: bestDelay -/
theorem kL_bestDelay {p : Program} {e : Env} {s : State} {m : MethodId} {below : List Frame} {meth : Method} {c : Code} {H : Heap} {locs : List Loc} {cells slots : Nat} {Q : State → Prop} {ls : Array Slot} {b L : Nat} {xs : Nat → Int32} {g : GA} {σ : St} {f : Nat → Int64} {th : Int32} {mi ti : Nat → Int32} {i : Nat} (l : Launch) (hfl : l.stackTraces = false) (C0 : LwX p s m meth c b L xs g) (hI : Inv σ) (hi : i + 6 ≤ L) (hc : cells + 110 ≤ 601024) (hs : slots + 600 ≤ 7293034) (hP : va_P (gD g) vwCl (wL g σ f th mi ti) H) (hD : va_D (AL s) (wL g σ f th mi ti)) (hS : va_S (AL s) s.heap H locs) (hl : lv_has ls 9 (vL b g i)) (hgo : LwGo p l e s m below meth c b g i Q 2306 (cells + 110) (slots + 600)) : W p l e room_1 s m #[Value.ref b] below meth c H locs cells slots Q (F0 m 2183 ls []) := by
  obtain ⟨hx, hb, hml, hown, hts, hX0, hbl, hK, hX, hNc, hL⟩ := id C0
  have hA : ∀ q : Nat, s.heap.size ≤ q → AL s q := fun _ h => h
  have hbA : ¬ AL s b := Nat.not_le.mpr hbl
  have hcd : cdVR σ (xs (i + 1)) (inr (-7) 7 (xs (i + 2))) ≤ 3 := (cdVR_le _ _ _)
  refine lv_aload_n (pc := 2183) hx hb dL_law_2183 rfl (lv_at hl 1 rfl) ?_
  refine lw_cell (pc := 2184) hx hb hX0 hbl hbA hS hL hi (lv_at hl 0 rfl) (lv_at hl 4 rfl) 1 (by decide) (by decide) dL_law_2184 dL_law_2185 dL_law_2187 dL_law_2188 dL_law_2189 ?_
  refine lw_cell (pc := 2190) hx hb hX0 hbl hbA hS hL hi (lv_at hl 0 rfl) (lv_at hl 4 rfl) 2 (by decide) (by decide) dL_law_2190 dL_law_2191 dL_law_2193 dL_law_2194 dL_law_2195 ?_
  refine lv_aload_n (pc := 2196) hx hb dL_law_2196 rfl (lv_at hl 3 rfl) ?_
  refine va_calli (pc := 2197) (vx_runSW (As := [.ref (gX g), .int (xs (i + 1)), .int (xs (i + 2)), .ref (gO g)]) (rest := []) ⟨hx, hb, hml, hown, hts⟩ (hL_bestDelay l hfl g (AL s) σ f (mw g σ th mi ti) (xs (i + 1)) (xs (i + 2)) hI) (vx_cwSW 4 hts gL_law_L_bestDelay rfl rfl rfl (by decide +kernel) ⟨Nat.le_of_ble_eq_true rfl, Nat.le_of_ble_eq_true rfl⟩) (cxl_S hNc hP hD hA hK hX hS) rfl rfl hl.1 rfl (lv_room (Nat.le_of_ble_eq_true rfl)) dL_law_2197 ⟨show cells + 2 ≤ 601024 by omega, show slots + 12 ≤ 7293034 by omega⟩) hS (fun _ _ h => h) (fun _ h => h) (fun r1 u1 t1 H1 locs1 ht1 hvm1 hw1 hB1 hz1 hk1 hS => ?_)
  obtain ⟨hP, hD⟩ := hB1
  rw [ht1] at hP
  obtain ⟨rfl, hf1⟩ := hw1
  refine lv_istore (lv' := (5, .int (nI (cdVR σ (xs (i + 1)) (inr (-7) 7 (xs (i + 2)))))) :: vL b g i) hx hb dL_law_2200 hl (by decide) rfl (fun ls hl => ?_)
  refine lv_aload_n (pc := 2202) hx hb dL_law_2202 rfl (lv_at hl 3 rfl) ?_
  refine lw_cell (pc := 2203) hx hb hX0 hbl hbA hS hL hi (lv_at hl 1 rfl) (lv_at hl 5 rfl) 1 (by decide) (by decide) dL_law_2203 dL_law_2204 dL_law_2206 dL_law_2207 dL_law_2208 ?_
  refine lw_cell (pc := 2209) hx hb hX0 hbl hbA hS hL hi (lv_at hl 1 rfl) (lv_at hl 5 rfl) 2 (by decide) (by decide) dL_law_2209 dL_law_2210 dL_law_2212 dL_law_2213 dL_law_2214 ?_
  have hP := kP_perm hP (wm_p g σ σ u1 th mi ti)
  have hD := kD_perm hD (wm_p g σ σ u1 th mi ti)
  refine va_calli (pc := 2215) (va_runV (As := [.int (xs (i + 1)), .int (xs (i + 2))]) (rest := []) ⟨hx, hb, hml, hown, hts⟩ (cX2_bestDelay_m l g (AL s) σ (cw g σ ++ ow g u1) th mi ti (xs (i + 1)) (xs (i + 2)) hI) (cwV 2 hts gL_law_X2_bestDelay rfl rfl rfl (by decide +kernel) ⟨Nat.le_of_ble_eq_true rfl, Nat.le_of_ble_eq_true rfl⟩) (cx_V (q0 := 0) (ci := 2) (r := (RX2, TX2, 11)) rfl (ma0 g σ th mi ti (cw g σ ++ ow g u1)) hP hD hA hK hX hS) rfl rfl hl.1 rfl (lv_room (Nat.le_of_ble_eq_true rfl)) dL_law_2215 ⟨show cells + 2 + 0 ≤ 601024 by omega, show slots + 12 + 0 ≤ 7293034 by omega⟩) hS (fun _ _ h => h) (fun _ h => h) (fun r2 u2 t2 H2 locs2 ht2 hvm2 hw2 hB2 hz2 hk2 hS => ?_)
  obtain ⟨hP, hD⟩ := hB2
  rw [ht2] at hP
  exact lw_tail (q := 2218) C0 ⟨dL_law_2218, dL_law_2220, dL_law_2221, dL_law_2224, dL_law_2226, dL_law_2231⟩ ⟨dL_law_2233, dL_law_2236, dL_law_2237, dL_law_2238, dL_law_2239, dL_law_2241, dL_law_2242, dL_law_2243⟩ dL_law_2248 (by decide) hcd hI hw2 hf1 hgo hc hs (by omega) (by omega) hP hD hS hl
set_option maxHeartbeats 4000000 in
set_option maxRecDepth 100000 in
/-- the law: digest -/
theorem kL_digest {p : Program} {e : Env} {s : State} {m : MethodId} {below : List Frame} {meth : Method} {c : Code} {H : Heap} {locs : List Loc} {cells slots : Nat} {Q : State → Prop} {ls : Array Slot} {b L : Nat} {xs : Nat → Int32} {g : GA} {σ : St} {f : Nat → Int64} {th : Int32} {mi ti : Nat → Int32} {i : Nat} (l : Launch) (hfl : l.stackTraces = false) (C0 : LwX p s m meth c b L xs g) (hI : Inv σ) (hi : i + 6 ≤ L) (hc : cells + 110 ≤ 601024) (hs : slots + 600 ≤ 7293034) (hP : va_P (gD g) vwCl (wL g σ f th mi ti) H) (hD : va_D (AL s) (wL g σ f th mi ti)) (hS : va_S (AL s) s.heap H locs) (hl : lv_has ls 9 (vL b g i)) (hgo : LwGo p l e s m below meth c b g i Q 2306 (cells + 110) (slots + 600)) : W p l e room_1 s m #[Value.ref b] below meth c H locs cells slots Q (F0 m 2292 ls []) := by
  obtain ⟨hx, hb, hml, hown, hts, hX0, hbl, hK, hX, hNc, hL⟩ := id C0
  have hA : ∀ q : Nat, s.heap.size ≤ q → AL s q := fun _ h => h
  have hbA : ¬ AL s b := Nat.not_le.mpr hbl
  refine lv_aload_n (pc := 2292) hx hb dL_law_2292 rfl (lv_at hl 1 rfl) ?_
  refine k_rl (pc := 2293) (va_runV (As := []) (rest := []) ⟨hx, hb, hml, hown, hts⟩ (cX1_digest_m l g (AL s) σ (ow g f ++ mw g σ th mi ti) hI) (cwV 0 hts gL_law_X1_digest rfl rfl rfl (by decide +kernel) ⟨Nat.le_of_ble_eq_true rfl, Nat.le_of_ble_eq_true rfl⟩) (cx_V (q0 := 0) (ci := 1) (r := (RX1, TX1, 2)) rfl (cx0 g σ (ow g f ++ mw g σ th mi ti)) hP hD hA hK hX hS) rfl rfl hl.1 rfl (lv_room (Nat.le_of_ble_eq_true rfl)) dL_law_2293 ⟨show cells + 0 ≤ 601024 by omega, show slots + 0 ≤ 7293034 by omega⟩) (fun r1 hr1 => ?_)
  subst hr1
  refine lv_aload_n (pc := 2296) hx hb dL_law_2296 rfl (lv_at hl 2 rfl) ?_
  have hP := kP_perm hP (wm_p g σ σ f th mi ti)
  have hD := kD_perm hD (wm_p g σ σ f th mi ti)
  refine va_calll (pc := 2297) (va_runV (As := []) (rest := [.long (dig σ)]) ⟨hx, hb, hml, hown, hts⟩ (cX2_digest_m l g (AL s) σ (cw g σ ++ ow g f) th mi ti hI) (cwV 0 hts gL_law_X2_digest rfl rfl rfl (by decide +kernel) ⟨Nat.le_of_ble_eq_true rfl, Nat.le_of_ble_eq_true rfl⟩) (cx_V (q0 := 0) (ci := 2) (r := (RX2, TX2, 11)) rfl (ma0 g σ th mi ti (cw g σ ++ ow g f)) hP hD hA hK hX hS) rfl rfl hl.1 rfl (lv_room (Nat.le_of_ble_eq_true rfl)) dL_law_2297 ⟨show cells + 100 ≤ 601024 by omega, show slots + 516 ≤ 7293034 by omega⟩) hS (fun _ _ h => h) (fun _ h => h) (fun r2 u2 t2 H2 locs2 ht2 hvm2 hw2 hB2 hz2 hk2 hS => ?_)
  obtain ⟨hP, hD⟩ := hB2
  rw [ht2] at hP
  subst hw2
  have hP := kP_perm hP (wm_p g σ σ f 0 u2.1 u2.2).symm
  have hD := kD_perm hD (wm_p g σ σ f 0 u2.1 u2.2).symm
  refine W.lcmp (pc := 2300) hx hb dL_law_2300 ?_
  refine lv_if_eq (tgt := 2306) (pc := 2301) hx hb dL_law_2301 (by decide) (fun z => ?_) (fun z => absurd (lw_c0 _) z)
  exact W.widen (by omega) (by omega) (hgo σ f 0 u2.1 u2.2 _ _ ls hI hP hD hS hl)
