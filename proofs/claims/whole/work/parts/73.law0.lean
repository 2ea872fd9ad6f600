/-! THE LAW'S BODY: what stands at the head of a case; the script's cells; the world in two orders; a case's tail -/
def AL (s : State) : Nat → Prop := fun q => s.heap.size ≤ q
def wL (g : GA) (σ : St) (f : Nat → Int64) (th : Int32) (mi ti : Nat → Int32) : va_W := cw g σ ++ (ow g f ++ mw g σ th mi ti)
def vL (b : Nat) (g : GA) (i : Nat) : List (Nat × Value) := [(0, .ref b), (1, .ref (gX g)), (2, .ref (gM g)), (3, .ref (gO g)), (4, .int (nI i))]
/-- what stays the same all through the law -/
def LwX (p : Program) (s : State) (m : MethodId) (meth : Method) (c : Code) (b L : Nat) (xs : Nat → Int32) (g : GA) : Prop :=
  p.tables.exec = Jvm.exec ∧ c.code = cL_law ∧ c.maxLocals = 9 ∧ s.vm.findClass RL = some m.cls ∧ (∀ w ∈ wsL_law, w.before #[Value.ref b] s = true) ∧ va_X b L xs s s.heap ∧ b < s.heap.size ∧ va_K (gD g) vwCl (gT g) s ∧ XS (AL s) s ∧ NcS s ∧ L ≤ 3072
theorem LwX.draw {p : Program} {s : State} {m : MethodId} {meth : Method} {c : Code} {b L : Nat} {xs : Nat → Int32} {g : GA} (h : LwX p s m meth c b L xs g) (d : Drawn) : LwX p (s.setDrawn d) m meth c b L xs g := by
  obtain ⟨h1, h2, h3, h4, h5, h6, h7, h8, h9, h10, h11⟩ := h
  exact ⟨h1, h2, h3, h4, dr_words h5 d, h6, h7, va_K.moved (u := s) (U := s.setDrawn d) (Vm.Alike.refl s.vm) h8, XS.same (U := s.setDrawn d) h9 rfl rfl, fun q hq => va_Nc.moved (u := s) (U := s.setDrawn d) (Vm.Alike.refl s.vm) (h10 q hq), h11⟩
/-- the way on: from every state of the two sides, alike -/
def LwGo (p : Program) (l : Launch) (e : Env) (s : State) (m : MethodId) (below : List Frame) (meth : Method) (c : Code) (b : Nat) (g : GA) (i : Nat) (Q : State → Prop) (pc cells slots : Nat) : Prop :=
  ∀ (σ : St) (f : Nat → Int64) (th : Int32) (mi ti : Nat → Int32) (H : Heap) (locs : List Loc) (ls : Array Slot), Inv σ → va_P (gD g) vwCl (wL g σ f th mi ti) H → va_D (AL s) (wL g σ f th mi ti) → va_S (AL s) s.heap H locs → lv_has ls 9 (vL b g i) → W p l e room_1 s m #[Value.ref b] below meth c H locs cells slots Q (F0 m pc ls [])
theorem wm_p (g : GA) (σ τ : St) (f : Nat → Int64) (th : Int32) (mi ti : Nat → Int32) : (mw g τ th mi ti ++ (cw g σ ++ ow g f)).Perm (cw g σ ++ (ow g f ++ mw g τ th mi ti)) := by
  rw [← List.append_assoc (cw g σ)]
  exact List.perm_append_comm
theorem and63 (x : Int32) : ∃ k, k ≤ 63 ∧ x &&& 63 = nI k := by
  refine ⟨(x &&& 63).toBitVec.toNat, ?_, ?_⟩
  · rw [Int32.toBitVec_and, BitVec.toNat_and]
    exact Nat.le_trans Nat.and_le_right (by decide)
  · apply Int32.toBitVec_inj.mp
    apply BitVec.eq_of_toNat_eq
    show _ = (Int32.ofNat _).toBitVec.toNat
    rw [Int32.toBitVec_ofNat']
    simp
theorem lw_c0 (x : Int64) : lg_cmp x x = 0 := by
  unfold lg_cmp
  rw [if_neg (Int64.lt_irrefl), if_pos rfl]
theorem nan_cmp {a : UInt64} (h : isNaN64 a = true) (b : UInt64) : FP.dcmp a b = none := by
  have h1 := isNaN64_iff.mp h
  rw [show (9223372036854775807 : Nat) = 2 ^ 63 - 1 from rfl, Nat.and_two_pow_sub_one_eq_mod] at h1
  have hE : FP.Core.fieldE FP.Core.b64 a.toNat = FP.Core.b64.exps - 1 := by
    show a.toNat / 4503599627370496 % 2048 = 2047
    omega
  have hT : ¬ FP.Core.fieldT FP.Core.b64 a.toNat = 0 := by
    show ¬ a.toNat % 4503599627370496 = 0
    omega
  have hd : FP.Core.decode FP.Core.b64 a.toNat = .nan := by
    unfold FP.Core.decode
    rw [if_pos hE, if_neg hT]
  show FP.Core.order (FP.Core.decode FP.Core.b64 a.toNat) (FP.Core.decode FP.Core.b64 b.toNat) = none
  rw [hd]
  rfl
/-- two means: one number, or both none -/
theorem mn_two {σ : St} {x y : UInt64} (hx : mnP σ x) (hy : mnP σ y) : x = y ∨ (isNaN64 x = true ∧ isNaN64 y = true) := by
  rcases hx with ⟨h, hx⟩ | ⟨h, hx⟩
  · rcases hy with ⟨-, hy⟩ | ⟨h2, -⟩
    · exact Or.inl (hx.trans hy.symm)
    · exact absurd h h2
  · rcases hy with ⟨h2, -⟩ | ⟨-, hy⟩
    · exact absurd h2 h
    · simp only [alike64, Bool.or_eq_true, decide_eq_true_eq, Bool.and_eq_true] at hx hy
      rcases hx with hx | hx
      · rcases hy with hy | hy
        · exact Or.inl (hx.trans hy.symm)
        · exact Or.inr ⟨by rw [hx]; exact hy.2, hy.1⟩
      · rcases hy with hy | hy
        · exact Or.inr ⟨hx.1, by rw [hy]; exact hx.2⟩
        · exact Or.inr ⟨hx.1, hy.1⟩
theorem cxn_S {g : GA} {A : Nat → Prop} {ws : va_W} {s : State} {H : Heap} {locs : List Loc} {As : List Value} (hN : va_AO RX0 s) (hP : va_P (gD g) vwCl ws H) (hD : va_D A ws) (hA : ∀ q : Nat, s.heap.size ≤ q → A q) (hK : va_K (gD g) vwCl (gT g) s) (hX : XS A s) (hS : va_S A s.heap H locs) : PreS s H (va_Pc As (CxN g A ws)) As :=
  ⟨fun a U f mk q => ⟨q.1, (cx_blind (av := As) a U f mk ⟨q.1, q.2.1⟩).2, va_AO.moved (u := U) (U := U.calling f mk a) (Vm.Alike.refl U.vm) q.2.2⟩, fun _ hU hW => ⟨rfl, Cx.next hP hD hA hK hX hS hU hW, va_AO.moved hW.alike hN⟩⟩
theorem cdV_le (σ : St) (p : Int32) : cdV σ p ≤ 3 := by unfold cdV; (repeat' split) <;> decide
theorem cdS_le (σ : St) (p q : Int32) : cdS σ p q ≤ 3 := by unfold cdS; (repeat' split) <;> decide
theorem cdVR_le (σ : St) (p : Int32) (b : Bool) : cdVR σ p b ≤ 3 := by unfold cdVR; (repeat' split) <;> decide
theorem cd_addVoice_le (σ : St) (a b c : Int32) : cd_addVoice σ a b c ≤ 3 := by unfold cd_addVoice; (repeat' split) <;> decide
theorem cd_addNote_le (σ : St) (p k q : Int32) : cd_addNote σ p k q ≤ 3 := by unfold cd_addNote; (repeat' split) <;> decide
theorem cd_addRest_le (σ : St) (p k : Int32) : cd_addRest σ p k ≤ 3 := by unfold cd_addRest; (repeat' split) <;> decide
theorem cd_addLigature_le (σ : St) (p f s t : Int32) : cd_addLigature σ p f s t ≤ 3 := by unfold cd_addLigature; (repeat' split) <;> decide
theorem cd_erase_le (σ : St) (p : Int32) : cd_erase σ p ≤ 3 := cdVR_le _ _ _
theorem cd_recolour_le (σ : St) (p q : Int32) : cd_recolour σ p q ≤ 3 := by unfold cd_recolour; (repeat' split) <;> decide
theorem cd_pitchOf_le (σ : St) (p q : Int32) : cd_pitchOf σ p q ≤ 3 := by unfold cd_pitchOf; (repeat' split) <;> decide
theorem cd_clashes_le (σ : St) (p q : Int32) : cd_clashes σ p q ≤ 3 := by unfold cd_clashes; (repeat' split) <;> decide
theorem cd_canon_le (σ : St) (p d u : Int32) : cd_canon σ p d u ≤ 3 := cdVR_le _ _ _
section KLW
variable {p : Program} {l : Launch} {e : Env} {R : Room} {s : State} {m : MethodId} {args : Array Value} {below : List Frame} {meth : Method} {c : Code} {H : Heap} {locs : List Loc} {cells slots : Nat} {Q : State → Prop}
variable {cc : ByteArray} {pc : Nat} {ls : Array Slot} {rest st : List Value} {A : Nat → Prop} {H0 : Heap}
theorem lw_cell {b L : Nat} {xs : Nat → Int32} {i : Nat} (hexec : p.tables.exec = Jvm.exec) (hb : c.code = cc) (hX : va_X b L xs s H0) (hbl : b < H0.size) (hbA : ¬ A b) (hS : va_S A H0 H locs) (hL : L ≤ 3072) (hi : i + 6 ≤ L) (h0 : ls[0]? = some (.val (.ref b))) (h4 : ls[4]? = some (.val (.int (nI i)))) (k : Nat) (hk : k < 6) {n : Int} (hn : Int32.ofInt n = nI k)
    (d0 : decode cc pc = .ok (.aload_n 0, 1)) (d1 : decode cc (pc + 1) = .ok (.iload 4, 2)) (d2 : decode cc (pc + 1 + 2) = .ok (.iconst n, 1)) (d3 : decode cc (pc + 1 + 2 + 1) = .ok (.iadd, 1)) (d4 : decode cc (pc + 1 + 2 + 1 + 1) = .ok (.iaload, 1))
    (kk : W p l e R s m args below meth c H locs cells slots Q (F0 m (pc + 6) ls (.int (xs (i + k)) :: st))) : W p l e R s m args below meth c H locs cells slots Q (F0 m pc ls st) := by
  refine lv_aload_n hexec hb d0 rfl h0 ?_
  refine lv_iload hexec hb d1 h4 ?_
  refine lv_iconst hexec hb d2 hn ?_
  refine lv_iadd hexec hb d3 ?_
  rw [nI_add]
  refine va_sld hexec hb hX hbl hbA hS (vp_in_nI (by omega) (by omega)) d4 ?_
  rw [nI_clamp (by omega)]
  exact kk
theorem lw_flag {x : Int32} (hexec : p.tables.exec = Jvm.exec) (hb : c.code = cc) (d0 : decode cc pc = .ok (.ifCond .eq 7, 3)) (d1 : decode cc (pc + 3) = .ok (.iconst 1, 1)) (d2 : decode cc (pc + 3 + 1) = .ok (.goto 4, 3)) (d3 : decode cc (pc + 7) = .ok (.iconst 0, 1))
    (kk : W p l e R s m args below meth c H locs cells slots Q (F0 m (pc + 8) ls (.int (bI (!decide (x = 0))) :: st))) : W p l e R s m args below meth c H locs cells slots Q (F0 m pc ls (.int x :: st)) := by
  refine lv_if_eq (tgt := pc + 7) hexec hb d0 (by omega) (fun h => ?_) (fun h => ?_)
  · refine lv_iconst (v := 0) hexec hb d3 (by decide) ?_
    rw [decide_eq_true h] at kk
    exact kk
  · refine lv_iconst (v := 1) hexec hb d1 (by decide) ?_
    refine lv_goto (tgt := pc + 8) hexec hb d2 (by omega) ?_
    rw [decide_eq_false h] at kk
    exact kk
/-- the instructions of a case's tail, from istore 6 on -/
def TlD (cc : ByteArray) (q : Nat) : Prop := decode cc q = .ok (.istore 6, 2) ∧ decode cc (q + 2) = .ok (.aload_n 2, 1) ∧ decode cc (q + 3) = .ok (.invokevirtual 119, 3) ∧ decode cc (q + 6) = .ok (.iload 5, 2) ∧ decode cc (q + 8) = .ok (.if_icmp .eq 5, 3) ∧ decode cc (q + 13) = .ok (.iload 5, 2)
def TlI (cc : ByteArray) (q : Nat) : Prop := decode cc (q + 15) = .ok (.ifCond .ne 15, 3) ∧ decode cc (q + 18) = .ok (.aload_n 3, 1) ∧ decode cc (q + 19) = .ok (.iconst 0, 1) ∧ decode cc (q + 20) = .ok (.laload, 1) ∧ decode cc (q + 21) = .ok (.iload 6, 2) ∧ decode cc (q + 23) = .ok (.i2l, 1) ∧ decode cc (q + 24) = .ok (.lcmp, 1) ∧ decode cc (q + 25) = .ok (.ifCond .eq 5, 3)
def TlZ (cc : ByteArray) (q : Nat) : Prop := decode cc (q + 15) = .ok (.ifCond .ne 22, 3) ∧ decode cc (q + 18) = .ok (.aload_n 3, 1) ∧ decode cc (q + 19) = .ok (.iconst 0, 1) ∧ decode cc (q + 20) = .ok (.laload, 1) ∧ decode cc (q + 21) = .ok (.iload 6, 2) ∧ decode cc (q + 23) = .ok (.ifCond .eq 7, 3) ∧ decode cc (q + 26) = .ok (.lconst 1, 1) ∧ decode cc (q + 27) = .ok (.goto 4, 3) ∧ decode cc (q + 30) = .ok (.lconst 0, 1) ∧ decode cc (q + 31) = .ok (.lcmp, 1) ∧ decode cc (q + 32) = .ok (.ifCond .eq 5, 3)
end KLW
section KTL
variable {p : Program} {l : Launch} {e : Env} {s : State} {m : MethodId} {below : List Frame} {meth : Method} {c : Code} {H : Heap} {locs : List Loc} {cells slots : Nat} {Q : State → Prop} {ls : Array Slot} {b L : Nat} {xs : Nat → Int32} {g : GA} {σ : St} {f : Nat → Int64} {mi ti : Nat → Int32} {i k1 n1 : Nat}
/-- both sides have answered: what they threw is the same, and the world goes back to its order -/
theorem lw_thr (C0 : LwX p s m meth c b L xs g) {q cd : Nat} (T0 : TlD cL_law q) {r : Int32} (hc : k1 ≤ 601024) (hs : n1 ≤ 7293034) (hP : va_P (gD g) vwCl (mw g σ (nI cd) mi ti ++ (cw g σ ++ ow g f)) H) (hD : va_D (AL s) (mw g σ (nI cd) mi ti ++ (cw g σ ++ ow g f))) (hS : va_S (AL s) s.heap H locs) (hl : lv_has ls 9 ((5, .int (nI cd)) :: vL b g i))
    (kk : ∀ ls : Array Slot, lv_has ls 9 ((6, .int r) :: (5, .int (nI cd)) :: vL b g i) → va_P (gD g) vwCl (wL g σ f (nI cd) mi ti) H → va_D (AL s) (wL g σ f (nI cd) mi ti) → W p l e room_1 s m #[Value.ref b] below meth c H locs k1 n1 Q (F0 m (q + 15) ls [.int (nI cd)])) : W p l e room_1 s m #[Value.ref b] below meth c H locs k1 n1 Q (F0 m q ls [.int r]) := by
  obtain ⟨hx, hb, hml, hown, hts, hX0, hbl, hK, hX, hNc, hL⟩ := C0
  obtain ⟨t0, t1, t2, t3, t4, t5⟩ := T0
  have hA : ∀ q : Nat, s.heap.size ≤ q → AL s q := fun _ h => h
  refine lv_istore (lv' := (6, .int r) :: (5, .int (nI cd)) :: vL b g i) hx hb t0 hl (by decide) rfl (fun ls hl => ?_)
  refine lv_aload_n hx hb t1 rfl (lv_at hl 4 rfl) ?_
  refine k_ri (pc := q + 3) (va_runV (As := []) (rest := []) ⟨hx, hb, hml, hown, hts⟩ (cX2_thrown_m l g (AL s) σ (cw g σ ++ ow g f) (nI cd) mi ti) (cwV 0 hts gL_law_X2_thrown rfl rfl rfl (by decide +kernel) ⟨Nat.le_of_ble_eq_true rfl, Nat.le_of_ble_eq_true rfl⟩) (cx_V (q0 := 0) (ci := 2) (r := (RX2, TX2, 11)) rfl (ma0 g σ (nI cd) mi ti (cw g σ ++ ow g f)) hP hD hA hK hX hS) rfl rfl hl.1 rfl (lv_room (Nat.le_of_ble_eq_true rfl)) t2 ⟨hc, hs⟩) (fun r3 hr3 => ?_)
  subst hr3
  refine lv_iload (pc := q + 6) hx hb t3 (lv_at hl 1 rfl) ?_
  refine lv_icmp_eq (pc := q + 8) (tgt := q + 13) hx hb t4 (by omega) (fun z => ?_) (fun z => absurd rfl z)
  refine lv_iload hx hb t5 (lv_at hl 1 rfl) ?_
  exact kk ls hl (kP_perm hP (wm_p g σ σ f (nI cd) mi ti).symm) (kD_perm hD (wm_p g σ σ f (nI cd) mi ti).symm)
theorem lw_end {q : Nat} {off : Int} (hx : p.tables.exec = Jvm.exec) (hb : c.code = cL_law) (d0 : decode cL_law q = .ok (.goto off, 3)) (ho : (q : Int) + off = 2306) (hgo : LwGo p l e s m below meth c b g i Q 2306 (cells + 110) (slots + 600)) (hI : Inv σ) (hk : k1 ≤ cells + 110) (hn : n1 ≤ slots + 600) {th : Int32} (hP : va_P (gD g) vwCl (wL g σ f th mi ti) H) (hD : va_D (AL s) (wL g σ f th mi ti)) (hS : va_S (AL s) s.heap H locs) (hl : lv_has ls 9 (vL b g i)) : W p l e room_1 s m #[Value.ref b] below meth c H locs k1 n1 Q (F0 m q ls []) := by
  refine lv_goto (tgt := 2306) hx hb d0 ho ?_
  exact W.widen hk hn (hgo σ f th mi ti H locs ls hI hP hD hS hl)
theorem lw_tail (C0 : LwX p s m meth c b L xs g) {q cd : Nat} (T0 : TlD cL_law q) (T1 : TlI cL_law q) {off : Int} (d0 : decode cL_law (q + 30) = .ok (.goto off, 3)) (ho : ((q + 30 : Nat) : Int) + off = 2306) {r a : Int32} (hcd : cd ≤ 3) (hI : Inv σ) (hr : cd = 0 → r = a) (hf : cd = 0 → f 0 = a.toInt64) (hgo : LwGo p l e s m below meth c b g i Q 2306 (cells + 110) (slots + 600)) (hc : cells + 110 ≤ 601024) (hs : slots + 600 ≤ 7293034) (hk : k1 ≤ cells + 110) (hn : n1 ≤ slots + 600) (hP : va_P (gD g) vwCl (mw g σ (nI cd) mi ti ++ (cw g σ ++ ow g f)) H) (hD : va_D (AL s) (mw g σ (nI cd) mi ti ++ (cw g σ ++ ow g f))) (hS : va_S (AL s) s.heap H locs) (hl : lv_has ls 9 ((5, .int (nI cd)) :: vL b g i)) : W p l e room_1 s m #[Value.ref b] below meth c H locs k1 n1 Q (F0 m q ls [.int r]) := by
  refine lw_thr C0 T0 (Nat.le_trans hk hc) (Nat.le_trans hn hs) hP hD hS hl (fun ls hl hP hD => ?_)
  obtain ⟨hx, hb, hml, hown, hts, hX0, hbl, hK, hX, hNc, hL⟩ := C0
  obtain ⟨t0, t1, t2, t3, t4, t5, t6, t7⟩ := T1
  have hl2 : lv_has ls 9 (vL b g i) := lv_sub hl [2, 3, 4, 5, 6] rfl
  refine lv_if_ne (tgt := q + 30) hx hb t0 (by omega) (fun z => ?_) (fun z => ?_)
  · exact lw_end hx hb d0 ho hgo hI hk hn hP hD hS hl2
  · have z0 : cd = 0 := (nI_eq (by omega) (by decide)).mp z
    rw [hr z0] at hl
    refine lv_aload_n (pc := q + 18) hx hb t1 rfl (lv_at hl 5 rfl) ?_
    refine lv_iconst (v := nI 0) hx hb t2 (by decide) ?_
    refine va_lald hx hb hK hP 26 3 (oa g σ f (mw g σ (nI cd) mi ti)) rfl (vp_in_nI (n := 0) (by decide) (by decide)) t3 ?_
    refine lv_iload hx hb t4 (lv_at hl 0 rfl) ?_
    refine lv_i2l (pc := q + 23) hx hb t5 rfl ?_
    refine W.lcmp hx hb t6 ?_
    rw [show f (Int32.toNatClampNeg (nI 0)) = a.toInt64 from hf z0]
    refine lv_if_eq (tgt := q + 30) hx hb t7 (by omega) (fun z => ?_) (fun z => absurd (lw_c0 _) z)
    exact lw_end hx hb d0 ho hgo hI hk hn hP hD hS hl2
theorem lw_tailz (C0 : LwX p s m meth c b L xs g) {q cd : Nat} (T0 : TlD cL_law q) (T1 : TlZ cL_law q) {off : Int} (d0 : decode cL_law (q + 37) = .ok (.goto off, 3)) (ho : ((q + 37 : Nat) : Int) + off = 2306) {r : Int32} {a : Bool} (hcd : cd ≤ 3) (hI : Inv σ) (hr : cd = 0 → r = bI a) (hf : cd = 0 → f 0 = (bI a).toInt64) (hgo : LwGo p l e s m below meth c b g i Q 2306 (cells + 110) (slots + 600)) (hc : cells + 110 ≤ 601024) (hs : slots + 600 ≤ 7293034) (hk : k1 ≤ cells + 110) (hn : n1 ≤ slots + 600) (hP : va_P (gD g) vwCl (mw g σ (nI cd) mi ti ++ (cw g σ ++ ow g f)) H) (hD : va_D (AL s) (mw g σ (nI cd) mi ti ++ (cw g σ ++ ow g f))) (hS : va_S (AL s) s.heap H locs) (hl : lv_has ls 9 ((5, .int (nI cd)) :: vL b g i)) : W p l e room_1 s m #[Value.ref b] below meth c H locs k1 n1 Q (F0 m q ls [.int r]) := by
  refine lw_thr C0 T0 (Nat.le_trans hk hc) (Nat.le_trans hn hs) hP hD hS hl (fun ls hl hP hD => ?_)
  obtain ⟨hx, hb, hml, hown, hts, hX0, hbl, hK, hX, hNc, hL⟩ := C0
  obtain ⟨t0, t1, t2, t3, t4, t5, t6, t7, t8, t9, t10⟩ := T1
  have hl2 : lv_has ls 9 (vL b g i) := lv_sub hl [2, 3, 4, 5, 6] rfl
  refine lv_if_ne (tgt := q + 37) hx hb t0 (by omega) (fun z => ?_) (fun z => ?_)
  · exact lw_end hx hb d0 ho hgo hI hk hn hP hD hS hl2
  · have z0 : cd = 0 := (nI_eq (by omega) (by decide)).mp z
    rw [hr z0] at hl
    have hf0 := hf z0
    refine lv_aload_n (pc := q + 18) hx hb t1 rfl (lv_at hl 5 rfl) ?_
    refine lv_iconst (v := nI 0) hx hb t2 (by decide) ?_
    refine va_lald hx hb hK hP 26 3 (oa g σ f (mw g σ (nI cd) mi ti)) rfl (vp_in_nI (n := 0) (by decide) (by decide)) t3 ?_
    refine lv_iload hx hb t4 (lv_at hl 0 rfl) ?_
    cases a with
    | true =>
      refine lv_if_eq (pc := q + 23) (tgt := q + 30) hx hb t5 (by omega) (fun z => absurd z (by decide)) (fun _ => ?_)
      refine lv_lconst (v := 1) hx hb t6 (by decide) ?_
      refine lv_goto (tgt := q + 31) hx hb t7 (by omega) ?_
      refine W.lcmp hx hb t9 ?_
      rw [show f (Int32.toNatClampNeg (nI 0)) = 1 from hf0.trans (by decide)]
      refine lv_if_eq (tgt := q + 37) hx hb t10 (by omega) (fun z => ?_) (fun z => absurd (lw_c0 _) z)
      exact lw_end hx hb d0 ho hgo hI hk hn hP hD hS hl2
    | false =>
      refine lv_if_eq (pc := q + 23) (tgt := q + 30) hx hb t5 (by omega) (fun _ => ?_) (fun z => absurd (by decide) z)
      refine lv_lconst (v := 0) hx hb t8 (by decide) ?_
      refine W.lcmp hx hb t9 ?_
      rw [show f (Int32.toNatClampNeg (nI 0)) = 0 from hf0.trans (by decide)]
      refine lv_if_eq (tgt := q + 37) hx hb t10 (by omega) (fun z => ?_) (fun z => absurd (lw_c0 _) z)
      exact lw_end hx hb d0 ho hgo hI hk hn hP hD hS hl2
end KTL
