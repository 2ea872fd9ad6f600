/-! THE LAW: its switch and its loop -/
set_option maxHeartbeats 4000000 in
set_option maxRecDepth 100000 in
/-- the law's switch: from the low six bits of a row's first int to the next row -/
theorem law_switch {p : Program} {e : Env} {s : State} {m : MethodId} {below : List Frame} {meth : Method} {c : Code} {H : Heap} {locs : List Loc} {cells slots : Nat} {Q : State → Prop} {ls : Array Slot} {b L : Nat} {xs : Nat → Int32} {g : GA} {σ : St} {f : Nat → Int64} {th : Int32} {mi ti : Nat → Int32} {i : Nat} {d0 : Drawn} (l : Launch) (hfl : l.stackTraces = false) (C0 : LwX p s m meth c b L xs g) (hd0 : s.drawn.sameBut d0 lw_cs) (hI : Inv σ) (hi : i + 6 ≤ L) (hc : cells + 110 ≤ 601024) (hs : slots + 600 ≤ 7293034) (hP : va_P (gD g) vwCl (wL g σ f th mi ti) H) (hD : va_D (AL s) (wL g σ f th mi ti)) (hS : va_S (AL s) s.heap H locs) (hl : lv_has ls 9 (vL b g i)) (hgo : ∀ d', s.drawn.sameBut d' lw_cs → LwGo p l e (s.setDrawn d') m below meth c b g i Q 2306 (cells + 110) (slots + 600)) (k : Nat) (hk : k ≤ 63) : W p l e room_1 (s.setDrawn d0) m #[Value.ref b] below meth c H locs cells slots Q (F0 m 40 ls [.int (nI k)]) := by
  have C1 := C0.draw d0
  have hgo1 := hgo d0 hd0
  obtain ⟨hx, hb, -⟩ := id C0
  rcases Nat.lt_or_ge k 33 with h33 | h33
  · match k, h33 with
    | 0, _ => exact lv_tableIn (off := 148) (tgt := 188) hx hb dL_law_40 (by decide) (by decide) (by decide) (by decide) (kL_addVoice (s := s.setDrawn d0) l hfl C1 hI hi hc hs hP hD hS hl hgo1)
    | 1, _ => exact lv_tableIn (off := 228) (tgt := 268) hx hb dL_law_40 (by decide) (by decide) (by decide) (by decide) (kL_addNote (s := s.setDrawn d0) l hfl C1 hI hi hc hs hP hD hS hl hgo1)
    | 2, _ => exact lv_tableIn (off := 336) (tgt := 376) hx hb dL_law_40 (by decide) (by decide) (by decide) (by decide) (kL_addRest (s := s.setDrawn d0) l hfl C1 hI hi hc hs hP hD hS hl hgo1)
    | 3, _ => exact lv_tableIn (off := 404) (tgt := 444) hx hb dL_law_40 (by decide) (by decide) (by decide) (by decide) (kL_addLigature (s := s.setDrawn d0) l hfl C1 hI hi hc hs hP hD hS hl hgo1)
    | 4, _ => exact lv_tableIn (off := 524) (tgt := 564) hx hb dL_law_40 (by decide) (by decide) (by decide) (by decide) (kL_erase (s := s.setDrawn d0) l hfl C1 hI hi hc hs hP hD hS hl hgo1)
    | 5, _ => exact lv_tableIn (off := 580) (tgt := 620) hx hb dL_law_40 (by decide) (by decide) (by decide) (by decide) (kL_recolour (s := s.setDrawn d0) l hfl C1 hI hi hc hs hP hD hS hl hgo1)
    | 6, _ => exact lv_tableIn (off := 655) (tgt := 695) hx hb dL_law_40 (by decide) (by decide) (by decide) (by decide) (kL_setClef (s := s.setDrawn d0) l hfl C1 hI hi hc hs hP hD hS hl hgo1)
    | 7, _ => exact lv_tableIn (off := 723) (tgt := 763) hx hb dL_law_40 (by decide) (by decide) (by decide) (by decide) (kL_setMensuration (s := s.setDrawn d0) l hfl C1 hI hi hc hs hP hD hS hl hgo1)
    | 8, _ => exact lv_tableIn (off := 815) (tgt := 855) hx hb dL_law_40 (by decide) (by decide) (by decide) (by decide) (kL_voices (s := s.setDrawn d0) l hfl C1 hI hi hc hs hP hD hS hl hgo1)
    | 9, _ => exact lv_tableIn (off := 828) (tgt := 868) hx hb dL_law_40 (by decide) (by decide) (by decide) (by decide) (kL_signs (s := s.setDrawn d0) l hfl C1 hI hi hc hs hP hD hS hl hgo1)
    | 10, _ => exact lv_tableIn (off := 884) (tgt := 924) hx hb dL_law_40 (by decide) (by decide) (by decide) (by decide) (kL_notes (s := s.setDrawn d0) l hfl C1 hI hi hc hs hP hD hS hl hgo1)
    | 11, _ => exact lv_tableIn (off := 940) (tgt := 980) hx hb dL_law_40 (by decide) (by decide) (by decide) (by decide) (kL_ligatures (s := s.setDrawn d0) l hfl C1 hI hi hc hs hP hD hS hl hgo1)
    | 12, _ => exact lv_tableIn (off := 996) (tgt := 1036) hx hb dL_law_40 (by decide) (by decide) (by decide) (by decide) (kL_kindOf (s := s.setDrawn d0) l hfl C1 hI hi hc hs hP hD hS hl hgo1)
    | 13, _ => exact lv_tableIn (off := 1064) (tgt := 1104) hx hb dL_law_40 (by decide) (by decide) (by decide) (by decide) (kL_placeOf (s := s.setDrawn d0) l hfl C1 hI hi hc hs hP hD hS hl hgo1)
    | 14, _ => exact lv_tableIn (off := 1132) (tgt := 1172) hx hb dL_law_40 (by decide) (by decide) (by decide) (by decide) (kL_isColoured (s := s.setDrawn d0) l hfl C1 hI hi hc hs hP hD hS hl hgo1)
    | 15, _ => exact lv_tableIn (off := 1207) (tgt := 1247) hx hb dL_law_40 (by decide) (by decide) (by decide) (by decide) (kL_placeInLigature (s := s.setDrawn d0) l hfl C1 hI hi hc hs hP hD hS hl hgo1)
    | 16, _ => exact lv_tableIn (off := 1275) (tgt := 1315) hx hb dL_law_40 (by decide) (by decide) (by decide) (by decide) (kL_lengthOf (s := s.setDrawn d0) l hfl C1 hI hi hc hs hP hD hS hl hgo1)
    | 17, _ => exact lv_tableIn (off := 1343) (tgt := 1383) hx hb dL_law_40 (by decide) (by decide) (by decide) (by decide) (kL_beginOf (s := s.setDrawn d0) l hfl C1 hI hi hc hs hP hD hS hl hgo1)
    | 18, _ => exact lv_tableIn (off := 1411) (tgt := 1451) hx hb dL_law_40 (by decide) (by decide) (by decide) (by decide) (kL_length (s := s.setDrawn d0) l hfl C1 hI hi hc hs hP hD hS hl hgo1)
    | 19, _ => exact lv_tableIn (off := 1467) (tgt := 1507) hx hb dL_law_40 (by decide) (by decide) (by decide) (by decide) (kL_longest (s := s.setDrawn d0) l hfl C1 hI hi hc hs hP hD hS hl hgo1)
    | 20, _ => exact lv_tableIn (off := 1480) (tgt := 1520) hx hb dL_law_40 (by decide) (by decide) (by decide) (by decide) (kL_signAt (s := s.setDrawn d0) l hfl C1 hI hi hc hs hP hD hS hl hgo1)
    | 21, _ => exact lv_tableIn (off := 1548) (tgt := 1588) hx hb dL_law_40 (by decide) (by decide) (by decide) (by decide) (kL_clefOf (s := s.setDrawn d0) l hfl C1 hI hi hc hs hP hD hS hl hgo1)
    | 22, _ => exact lv_tableIn (off := 1604) (tgt := 1644) hx hb dL_law_40 (by decide) (by decide) (by decide) (by decide) (kL_pitchOf (s := s.setDrawn d0) l hfl C1 hI hi hc hs hP hD hS hl hgo1)
    | 23, _ => exact lv_tableIn (off := 1672) (tgt := 1712) hx hb dL_law_40 (by decide) (by decide) (by decide) (by decide) (kL_fits (s := s.setDrawn d0) l hfl C1 hI hi hc hs hP hD hS hl hgo1)
    | 24, _ => exact lv_tableIn (off := 1747) (tgt := 1787) hx hb dL_law_40 (by decide) (by decide) (by decide) (by decide) (kL_clefsThatFit (s := s.setDrawn d0) l hfl C1 hI hi hc hs hP hD hS hl hgo1)
    | 25, _ => exact lv_tableIn (off := 1803) (tgt := 1843) hx hb dL_law_40 (by decide) (by decide) (by decide) (by decide) (kL_clashes (s := s.setDrawn d0) l hfl C1 hI hi hc hs hP hD hS hl hgo1)
    | 26, _ => exact lv_tableIn (off := 1871) (tgt := 1911) hx hb dL_law_40 (by decide) (by decide) (by decide) (by decide) (kL_firstClash (s := s.setDrawn d0) l hfl C1 hI hi hc hs hP hD hS hl hgo1)
    | 27, _ => exact lv_tableIn (off := 1939) (tgt := 1979) hx hb dL_law_40 (by decide) (by decide) (by decide) (by decide) (kL_clashesWith (s := s.setDrawn d0) l hfl C1 hI hi hc hs hP hD hS hl hgo1)
    | 28, _ => exact lv_tableIn (off := 2007) (tgt := 2047) hx hb dL_law_40 (by decide) (by decide) (by decide) (by decide) (kL_bestClef (s := s.setDrawn d0) l hfl C1 hI hi hc hs hP hD hS hl hgo1)
    | 29, _ => exact lv_tableIn (off := 2063) (tgt := 2103) hx hb dL_law_40 (by decide) (by decide) (by decide) (by decide) (kL_canonClashes (s := s.setDrawn d0) l hfl C1 hI hi hc hs hP hD hS hl hgo1)
    | 30, _ => exact lv_tableIn (off := 2143) (tgt := 2183) hx hb dL_law_40 (by decide) (by decide) (by decide) (by decide) (kL_bestDelay (s := s.setDrawn d0) l hfl C1 hI hi hc hs hP hD hS hl hgo1)
    | 31, _ => exact lv_tableIn (off := 2211) (tgt := 2251) hx hb dL_law_40 (by decide) (by decide) (by decide) (by decide) (kL_meanLength l C0 hd0 hI hc hs hP hD hS hl hgo)
    | 32, _ => exact lv_tableIn (off := 2252) (tgt := 2292) hx hb dL_law_40 (by decide) (by decide) (by decide) (by decide) (kL_digest (s := s.setDrawn d0) l hfl C1 hI hi hc hs hP hD hS hl hgo1)
    | k + 33, h => exact absurd h (by omega)
  · have h6 : (nI k).toInt = (k : Int) := nI_toInt (by omega)
    refine lv_tableOut (tgt := 2306) hx hb dL_law_40 (Or.inr (by rw [h6]; omega)) (by decide) ?_
    exact W.widen (by omega) (by omega) (hgo1 σ f th mi ti H locs ls hI hP hD hS hl)
set_option maxHeartbeats 4000000 in
set_option maxRecDepth 100000 in
/-- THE LAW'S LOOP: at its head, with k rows read, the class and the reference hold the same choirbook -/
theorem law_loop {p : Program} {e : Env} {s : State} {m : MethodId} {below : List Frame} {meth : Method} {c : Code} {b L : Nat} {xs : Nat → Int32} {g : GA} (l : Launch) (hfl : l.stackTraces = false) (C0 : LwX p s m meth c b L xs g) (hr : meth.sig.returnType = ret) (hlocks : meth.locks = false) :
    ∀ (n k : Nat) (cells slots : Nat) (d0 : Drawn), L < 6 * k + 6 * n → 6 * k ≤ L → cells ≤ 1000 + 110 * k → slots ≤ 20000 + 600 * k → s.drawn.sameBut d0 lw_cs → LwGo p l e (s.setDrawn d0) m below meth c b g (6 * k) (lw_Z below #[Value.ref b] s) 23 cells slots := by
  obtain ⟨hx, hb, hml, hown, -, hX0, hbl, hK, -, -, hL⟩ := id C0
  have hbA : ¬ AL s b := Nat.not_le.mpr hbl
  intro n
  induction n with
  | zero =>
    intro k cells slots d0 h1 h2
    exact absurd h1 (by omega)
  | succ n ih =>
    intro k cells slots d0 h1 h2 hc hs hd0 σ f th mi ti H locs ls hI hP hD hS hl
    have hS : va_S (AL s) s.heap H locs := hS
    have hX0 : va_X b L xs (s.setDrawn d0) s.heap := hX0
    refine lv_iload (pc := 23) hx hb dL_law_23 (lv_at hl 4 rfl) ?_
    refine lv_aload_n (pc := 25) hx hb dL_law_25 rfl (lv_at hl 0 rfl) ?_
    refine va_slen (A := AL s) (H0 := s.heap) hx hb hX0 hbl hbA hS dL_law_26 ?_
    refine lv_bipush (v := nI 6) (pc := 27) hx hb dL_law_27 (by decide) ?_
    refine lv_isub (pc := 29) hx hb dL_law_29 ?_
    have hd : (Int32.ofNat L - nI 6).toInt = (L : Int) - 6 := sg_d (a := L) (b := 6) (by omega) (by omega)
    have hk6 : (nI (6 * k)).toInt = ((6 * k : Nat) : Int) := nI_toInt (by omega)
    refine lv_icmp_gt (tgt := 2312) (pc := 30) hx hb dL_law_30 (by decide) (fun z => ?_) (fun z => ?_)
    · refine lv_iconst (v := 1) (pc := 2312) hx hb dL_law_2312 (by decide) ?_
      refine va_forget (fun q hq => hS.2.2 q hq) ?_
      refine W.widen (k := 601024) (n := 7293034) (by omega) (by omega) ?_
      exact lw_ret hd0 hx hb hr hlocks dL_law_2313
    · have hi : 6 * k + 6 ≤ L := by
        rw [Int32.lt_iff_toInt_lt, hd, hk6] at z
        omega
      refine lv_aload_n (pc := 33) hx hb dL_law_33 rfl (lv_at hl 0 rfl) ?_
      refine lv_iload (pc := 34) hx hb dL_law_34 (lv_at hl 4 rfl) ?_
      refine va_sld (A := AL s) (H0 := s.heap) (pc := 36) hx hb hX0 hbl hbA hS (vp_in_nI (n := 6 * k) (N := L) (by omega) (by omega)) dL_law_36 ?_
      rw [show (nI (6 * k)).toNatClampNeg = 6 * k from nI_clamp (by omega)]
      refine lv_bipush (v := 63) (pc := 37) hx hb dL_law_37 (by decide) ?_
      refine lv_iand (pc := 39) hx hb dL_law_39 ?_
      obtain ⟨j, hj, ej⟩ := and63 (xs (6 * k))
      rw [ej]
      refine law_switch l hfl C0 hd0 hI hi (by omega) (by omega) hP hD hS hl (fun d' hd' => ?_) j hj
      intro σ f th mi ti H locs ls hI hP hD hS hl
      refine lv_iinc (v := nI (6 * (k + 1))) (lv' := [(4, .int (nI (6 * (k + 1)))), (0, .ref b), (1, .ref (gX g)), (2, .ref (gM g)), (3, .ref (gO g))]) (pc := 2306) hx hb dL_law_2306 hl (k := 4) rfl (kN_inc (6 * k) 6 rfl) (by decide) rfl (fun ls hl => ?_)
      refine lv_goto (tgt := 23) (pc := 2309) hx hb dL_law_2309 (by decide) ?_
      exact ih (k + 1) (cells + 110) (slots + 600) d' (by omega) (by omega) (by omega) (by omega) hd' σ f th mi ti H locs ls hI hP hD hS (lv_sub hl [1, 2, 3, 4, 0] rfl)
