/-! ROWS OF OUR OWN: what every method here is given; calls that write nothing; calls that throw and write nothing. -/
def kStr : List (Nat × String) := [(181, "a number is out of its range"), (26, "the book has all its voices"), (174, "no such voice"), (186, "the voice has no room for so many signs"), (184, "a ligature's note is on the place of the one ahead"), (67, "there is no sign to erase"), (177, "no such sign"), (81, "a rest has no colour"), (188, "the clef is missing")]
def eI : String := "java/lang/IndexOutOfBoundsException"
def eA : String := "java/lang/IllegalArgumentException"
def eS : String := "java/lang/IllegalStateException"
def kNF : List (Nat × String × String) := [(64, "count", "I"), (86, "clef", "I"), (98, "kinds", "[I"), (102, "places", "[I"), (105, "colours", "[Z"), (109, "ranks", "[I"), (116, "begins", "[I")]
def kNM : List (Nat × MethodName) := [(15, yX0_init), (31, yX0_measure), (45, yX0_append), (69, yX0_dropLast), (77, yX0_isRest), (83, yX0_turnColour), (89, yX0_end), (92, yX0_countNotes), (95, yX0_countLigatures), (112, yX0_minimsOf), (127, yX0_signLastingAt), (134, yX0_wouldFit), (137, yX0_countFittingClefs)]
def kDc : List String := ["java/lang/RuntimeException", "java/lang/Exception", "java/lang/Throwable"]
/-- what doesn't stand in the words: statics of Throwable, the texts, castable, links to the nest mate -/
def XS (A : Nat → Prop) (U : State) : Prop := vx_Zq Bundle.tN "UNASSIGNED_STACK" Bundle.steD A U U.heap ∧ vx_Zq Bundle.tN "SUPPRESSED_SENTINEL" Bundle.listD A U U.heap ∧ (∀ q ∈ kStr, ∃ a, vk_R RX1 q.1 q.2 a U) ∧ (∀ E ∈ [eI, eA, eS], va_Nw (.castable E E) U) ∧ (∀ q ∈ kNF, va_Nw (.fieldLinkNest RX1 q.1 "ChoirNotes$Voice" q.2.1 q.2.2 RX1) U) ∧ (∀ q ∈ kNM, va_Nw (.methodLinkNest RX1 q.1 q.2 RX1) U) ∧ ∀ Y ∈ kDc, va_Nw (.declares (Bundle.initS Y)) U
theorem XS.next {A : Nat → Prop} {s U : State} {H : Heap} {locs : List Loc} (h : XS A s) (hS : va_S A s.heap H locs) (hU : U.heap = H) (hW : s.WarmedH U.vm) : XS A U := by
  subst hU
  obtain ⟨h1, h2, h3, h4, h5, h6, h7⟩ := h
  exact ⟨vx_Zq.moved hW.alike (h1.kept hS.2.1), vx_Zq.moved hW.alike (h2.kept hS.2.1), fun q hq => (h3 q hq).imp fun a ha => vk_R.warm hW ha, fun E hE => va_Nw.warmC hW (h4 E hE), fun q hq => va_Nw.warmF hW (h5 q hq), fun q hq => va_Nw.warmM hW (h6 q hq), fun q hq => va_Nw.warmD hW (h7 q hq)⟩
theorem XS.same {A : Nat → Prop} {s U : State} (h : XS A s) (hU : U.heap = s.heap) (hv : s.vm = U.vm) : XS A U := by
  obtain ⟨h1, h2, h3, h4, h5, h6, h7⟩ := h
  have hal : s.vm.Alike U.vm := by rw [hv]; exact Vm.Alike.refl _
  refine ⟨?_, ?_, fun q hq => (h3 q hq).imp fun a ha => vk_R.same hv.symm ha, fun E hE => va_Nw.same rfl hv (h4 E hE), fun q hq => va_Nw.same rfl hv (h5 q hq), fun q hq => va_Nw.same rfl hv (h6 q hq), fun q hq => va_Nw.same rfl hv (h7 q hq)⟩
  · rw [hU]; exact vx_Zq.moved hal h1
  · rw [hU]; exact vx_Zq.moved hal h2
/-- what a method is given: the cells ws, apart, in A; how the classes lie; XS -/
def Cx (g : GA) (A : Nat → Prop) (ws : va_W) (U : State) : Prop := va_P (gD g) vwCl ws U.heap ∧ va_D A ws ∧ (∀ q : Nat, U.heap.size ≤ q → A q) ∧ va_K (gD g) vwCl (gT g) U ∧ XS A U
theorem Cx.next {g : GA} {A : Nat → Prop} {ws : va_W} {s U : State} {H : Heap} {locs : List Loc} (hP : va_P (gD g) vwCl ws H) (hD : va_D A ws) (hA : ∀ q : Nat, s.heap.size ≤ q → A q) (hK : va_K (gD g) vwCl (gT g) s) (hX : XS A s) (hS : va_S A s.heap H locs) (hU : U.heap = H) (hW : s.WarmedH U.vm) : Cx g A ws U :=
  ⟨by rw [hU]; exact hP, hD, fun q h => hA q (Nat.le_trans hS.1 (by rw [hU] at h; exact h)), va_K.moved hW.alike hK, hX.next hS hU hW⟩
theorem cx_blind {g : GA} {A : Nat → Prop} {ws : va_W} {av : List Value} : FrameBlind (va_Pc av (Cx g A ws)) := fun a U f mk q =>
  ⟨q.1, q.2.1, q.2.2.1, q.2.2.2.1, va_K.moved (u := U) (U := U.calling f mk a) (Vm.Alike.refl U.vm) q.2.2.2.2.1, XS.same (U := U.calling f mk a) q.2.2.2.2.2 rfl rfl⟩
theorem cx_S {g : GA} {A : Nat → Prop} {ws : va_W} {s : State} {H : Heap} {locs : List Loc} {As : List Value} (hP : va_P (gD g) vwCl ws H) (hD : va_D A ws) (hA : ∀ q : Nat, s.heap.size ≤ q → A q) (hK : va_K (gD g) vwCl (gT g) s) (hX : XS A s) (hS : va_S A s.heap H locs) : PreS s H (va_Pc As (Cx g A ws)) As :=
  ⟨cx_blind, fun _ hU hW => ⟨rfl, Cx.next hP hD hA hK hX hS hU hW⟩⟩
theorem cx_V {g : GA} {A : Nat → Prop} {ws : va_W} {s : State} {H : Heap} {locs : List Loc} {As : List Value} {b q0 ci : Nat} {r : vw_C} {fs : List Value} (hc : vwCl[ci]? = some r) (he : ws[q0]? = some (b, .inr (ci, fs))) (hP : va_P (gD g) vwCl ws H) (hD : va_D A ws) (hA : ∀ q : Nat, s.heap.size ≤ q → A q) (hK : va_K (gD g) vwCl (gT g) s) (hX : XS A s) (hS : va_S A s.heap H locs) : PreV s H r.1 b (va_Pc (.ref b :: As) (Cx g A ws)) As :=
  ⟨cx_blind, va_recv hK hP hc he, fun _ hU hW => ⟨rfl, Cx.next hP hD hA hK hX hS hU hW⟩⟩
/-- an answer that is a cell, nothing written -/
def kSr (post : Nat → Prop) : Array Value → State → Outcome → State → Prop := fun _ st oc t => ∃ r : Nat, oc = .returned (some (.ref r)) ∧ post r ∧ t.heap = st.heap
def kSv (post : Prop) : Array Value → State → Outcome → State → Prop := fun _ st oc t => oc = .returned none ∧ post ∧ t.heap = st.heap
/-- it writes: the new cells -/
def kB (g : GA) (A : Nat → Prop) (ws : va_W) (t : State) : Prop := va_P (gD g) vwCl ws t.heap ∧ va_D A ws
/-- what it throws, nothing written -/
def kX (cond : String → Prop) : String → State → State → Prop := fun E st t => cond E ∧ va_F (fun _ => False) st t
theorem k_nil {L : List Loc} (h : ∀ q ∈ L, (fun _ : Addr => False) q.base) : L = [] := by
  cases L with
  | nil => rfl
  | cons x y => exact (h x List.mem_cons_self).elim
section KR
variable {p : Program} {l : Launch} {e : Env} {R : Room} {s : State} {m : MethodId} {args : Array Value} {below : List Frame} {meth : Method} {c : Code} {H : Heap} {locs : List Loc} {cells slots : Nat} {Q : State → Prop}
variable {pc : Nat} {ls : Array Slot} {rest st0 : List Value} {a : Array Value} {mc ms : Nat}
theorem k_ri {post : Int32 → Prop} (hr : va_Run p l e R s m args below meth c H locs cells slots 0 0 (F0 m pc ls st0) rest (vp_Si post a) (fun _ => False)) (kk : ∀ r : Int32, post r → W p l e R s m args below meth c H locs cells slots Q (F0 m (pc + 3) ls (.int r :: rest))) : W p l e R s m args below meth c H locs cells slots Q (F0 m pc ls st0) := by
  intro T hT X
  obtain ⟨v, st₀, t, T', L, h0, X', hL, e1, e2, ⟨r, hv, hp, hh⟩, st⟩ := hr T hT X
  cases hv
  have hl := k_nil hL
  subst hl
  rw [List.append_nil] at X'
  obtain ⟨t2, a1, b1⟩ := kk r hp T' (by rw [e1, hh, h0]) X'
  exact ⟨t2, st t2 a1, b1⟩
theorem k_rl {post : Int64 → Prop} (hr : va_Run p l e R s m args below meth c H locs cells slots 0 0 (F0 m pc ls st0) rest (vp_Sl post a) (fun _ => False)) (kk : ∀ r : Int64, post r → W p l e R s m args below meth c H locs cells slots Q (F0 m (pc + 3) ls (.long r :: rest))) : W p l e R s m args below meth c H locs cells slots Q (F0 m pc ls st0) := by
  intro T hT X
  obtain ⟨v, st₀, t, T', L, h0, X', hL, e1, e2, ⟨r, hv, hp, hh⟩, st⟩ := hr T hT X
  cases hv
  have hl := k_nil hL
  subst hl
  rw [List.append_nil] at X'
  obtain ⟨t2, a1, b1⟩ := kk r hp T' (by rw [e1, hh, h0]) X'
  exact ⟨t2, st t2 a1, b1⟩
theorem k_rv {post : Prop} (hr : va_Run p l e R s m args below meth c H locs cells slots 0 0 (F0 m pc ls st0) rest (kSv post a) (fun _ => False)) (kk : post → W p l e R s m args below meth c H locs cells slots Q (F0 m (pc + 3) ls rest)) : W p l e R s m args below meth c H locs cells slots Q (F0 m pc ls st0) := by
  intro T hT X
  obtain ⟨v, st₀, t, T', L, h0, X', hL, e1, e2, ⟨hv, hp, hh⟩, st⟩ := hr T hT X
  cases hv
  have hl := k_nil hL
  subst hl
  rw [List.append_nil] at X'
  obtain ⟨t2, a1, b1⟩ := kk hp T' (by rw [e1, hh, h0]) X'
  exact ⟨t2, st t2 a1, b1⟩
theorem k_cong {x y : Int32} (h : x = y) (k : W p l e R s m args below meth c H locs cells slots Q (F0 m pc ls (.int y :: rest))) : W p l e R s m args below meth c H locs cells slots Q (F0 m pc ls (.int x :: rest)) := by
  subst h
  exact k
theorem k_kept {st₀ t : State} (h0 : st₀.heap = H) (hF : va_F (fun _ => False) st₀ t) : H.size ≤ t.heap.size ∧ ∀ q : Nat, q < H.size → t.heap[q]? = H[q]? := by
  obtain ⟨h1, h2⟩ := hF
  rw [h0] at h1 h2
  exact ⟨h1, fun q hq => h2 q hq (fun z => z)⟩
/-- a call that may throw; the caller has no table -/
theorem k_xo {Qc : Array Value → State → Outcome → State → Prop} {free : Addr → Prop} {cond : String → Prop} {MC MS : Nat} {E : String} {ce : Cell} {q : Addr} {H1 : Heap} (hno : ∀ x ∈ c.exceptionTable.toList, False) (hlocks : meth.locks = false) (hz : s.heap.size ≤ H1.size) (hk : ∀ q : Nat, q < s.heap.size → H1[q]? = s.heap[q]?) (hcell : H1[q]? = some ce) (hv : ce.vm = .none) (hcl : s.vm.findClass E = some ce.cls) (hE : cond E) (hc : cells ≤ MC) (hs : slots ≤ MS) :
    vx_W p l e R s m args below meth c H1 [] cells slots (vx_MQ below Qc (kX cond) args s MC MS free) (F0 m pc ls rest) q :=
  vx_out (fun x hx => (hno x hx).elim) hlocks hcell hv hcl (fun t ht _ => ⟨hE, by rw [ht]; exact hz, fun q hq _ => by rw [ht]; exact hk q hq⟩) (fun z hz => absurd hz List.not_mem_nil) hc hs
section KX
variable {Qc : Array Value → State → Outcome → State → Prop} {free : Addr → Prop} {cond cond' : String → Prop} {MC MS : Nat}
theorem k_xi {post : Int32 → Prop} (hr : vx_Run p l e R s m args below meth c s.heap [] cells slots mc ms (F0 m pc ls st0) rest (vp_Si post a) (kX cond) (fun _ => False)) (hno : ∀ x ∈ c.exceptionTable.toList, False) (hlocks : meth.locks = false) (himp : ∀ E, cond E → cond' E) (hc : cells + mc ≤ MC) (hs : slots + ms ≤ MS)
    (kk : ∀ r : Int32, post r → W p l e R s m args below meth c s.heap [] (cells + mc) (slots + ms) (vx_MQ below Qc (kX cond') args s MC MS free) (F0 m (pc + 3) ls (.int r :: rest))) : W p l e R s m args below meth c s.heap [] cells slots (vx_MQ below Qc (kX cond') args s MC MS free) (F0 m pc ls st0) := by
  intro T hT X
  rcases hr T hT X with ⟨v, st₀, t, T', L, h0, X', hL, e1, e2, ⟨r, hv, hp, hh⟩, st⟩ | ⟨q, st₀, t, T', L, E, ce, h0, X', hL, e1, e2, ⟨hE, hF⟩, hce, hcv, hcl, st⟩
  · cases hv
    have hl := k_nil hL
    subst hl
    rw [List.append_nil] at X'
    obtain ⟨t2, a1, b1⟩ := kk r hp T' (by rw [e1, hh, h0]) X'
    exact ⟨t2, st t2 a1, b1⟩
  · have hl := k_nil hL
    subst hl
    rw [List.append_nil] at X'
    obtain ⟨f1, f2⟩ := k_kept h0 hF
    obtain ⟨t2, a1, b1⟩ := k_xo (p := p) (l := l) (e := e) (R := R) (args := args) (below := below) (pc := pc) (ls := ls) (rest := rest) (Qc := Qc) (free := free) (cond := cond') (MC := MC) (MS := MS) (H1 := t.heap) hno hlocks f1 f2 hce hcv hcl (himp E hE) hc hs T' e1 X'
    exact ⟨t2, st.trans a1, b1⟩
theorem k_xv {post : Prop} (hr : vx_Run p l e R s m args below meth c s.heap [] cells slots mc ms (F0 m pc ls st0) rest (kSv post a) (kX cond) (fun _ => False)) (hno : ∀ x ∈ c.exceptionTable.toList, False) (hlocks : meth.locks = false) (himp : ∀ E, cond E → cond' E) (hc : cells + mc ≤ MC) (hs : slots + ms ≤ MS)
    (kk : post → W p l e R s m args below meth c s.heap [] (cells + mc) (slots + ms) (vx_MQ below Qc (kX cond') args s MC MS free) (F0 m (pc + 3) ls rest)) : W p l e R s m args below meth c s.heap [] cells slots (vx_MQ below Qc (kX cond') args s MC MS free) (F0 m pc ls st0) := by
  intro T hT X
  rcases hr T hT X with ⟨v, st₀, t, T', L, h0, X', hL, e1, e2, ⟨hv, hp, hh⟩, st⟩ | ⟨q, st₀, t, T', L, E, ce, h0, X', hL, e1, e2, ⟨hE, hF⟩, hce, hcv, hcl, st⟩
  · cases hv
    have hl := k_nil hL
    subst hl
    rw [List.append_nil] at X'
    obtain ⟨t2, a1, b1⟩ := kk hp T' (by rw [e1, hh, h0]) X'
    exact ⟨t2, st t2 a1, b1⟩
  · have hl := k_nil hL
    subst hl
    rw [List.append_nil] at X'
    obtain ⟨f1, f2⟩ := k_kept h0 hF
    obtain ⟨t2, a1, b1⟩ := k_xo (p := p) (l := l) (e := e) (R := R) (args := args) (below := below) (pc := pc) (ls := ls) (rest := rest) (Qc := Qc) (free := free) (cond := cond') (MC := MC) (MS := MS) (H1 := t.heap) hno hlocks f1 f2 hce hcv hcl (himp E hE) hc hs T' e1 X'
    exact ⟨t2, st.trans a1, b1⟩
theorem k_xr {post : Nat → Prop} (hr : vx_Run p l e R s m args below meth c s.heap [] cells slots mc ms (F0 m pc ls st0) rest (kSr post a) (kX cond) (fun _ => False)) (hno : ∀ x ∈ c.exceptionTable.toList, False) (hlocks : meth.locks = false) (himp : ∀ E, cond E → cond' E) (hc : cells + mc ≤ MC) (hs : slots + ms ≤ MS)
    (kk : ∀ r : Nat, post r → W p l e R s m args below meth c s.heap [] (cells + mc) (slots + ms) (vx_MQ below Qc (kX cond') args s MC MS free) (F0 m (pc + 3) ls (.ref r :: rest))) : W p l e R s m args below meth c s.heap [] cells slots (vx_MQ below Qc (kX cond') args s MC MS free) (F0 m pc ls st0) := by
  intro T hT X
  rcases hr T hT X with ⟨v, st₀, t, T', L, h0, X', hL, e1, e2, ⟨r, hv, hp, hh⟩, st⟩ | ⟨q, st₀, t, T', L, E, ce, h0, X', hL, e1, e2, ⟨hE, hF⟩, hce, hcv, hcl, st⟩
  · cases hv
    have hl := k_nil hL
    subst hl
    rw [List.append_nil] at X'
    obtain ⟨t2, a1, b1⟩ := kk r hp T' (by rw [e1, hh, h0]) X'
    exact ⟨t2, st t2 a1, b1⟩
  · have hl := k_nil hL
    subst hl
    rw [List.append_nil] at X'
    obtain ⟨f1, f2⟩ := k_kept h0 hF
    obtain ⟨t2, a1, b1⟩ := k_xo (p := p) (l := l) (e := e) (R := R) (args := args) (below := below) (pc := pc) (ls := ls) (rest := rest) (Qc := Qc) (free := free) (cond := cond') (MC := MC) (MS := MS) (H1 := t.heap) hno hlocks f1 f2 hce hcv hcl (himp E hE) hc hs T' e1 X'
    exact ⟨t2, st.trans a1, b1⟩
end KX
end KR
section KA
variable {p : Program} {l : Launch} {e : Env} {R : Room} {s : State} {m : MethodId} {args : Array Value} {below : List Frame} {meth : Method} {c : Code} {H : Heap} {locs : List Loc} {cells slots : Nat} {Q : State → Prop}
variable {cc : ByteArray} {pc : Nat} {ls : Array Slot} {rest : List Value} {D : va_G} {cl : List vw_C} {A : Nat → Prop} {a : Nat} {tys : List (ClassId × FieldType)} {ws : va_W} {H0 : Heap}
theorem k_iald (hexec : p.tables.exec = Jvm.exec) (hb : c.code = cc) (hK : va_K D cl tys s) (hP : va_P D cl ws H) (q0 t0 : Nat) {cA : ClassId} {n : Nat} {f : Nat → Int32} (ha : ws[q0]? = some (a, .inl (cA, n, .inl f))) (ht : tys[t0]? = some (cA, .int)) {i : Int32} (j : Nat) (hij : i = nI j) (hj : j < n) (hn : n < 2 ^ 31) {x : Int32} (hx : f j = x) (hdg : decode cc pc = .ok (.iaload, 1))
    (kk : W p l e R s m args below meth c H locs cells slots Q (F0 m (pc + 1) ls (.int x :: rest))) : W p l e R s m args below meth c H locs cells slots Q (F0 m pc ls (.int i :: .ref a :: rest)) := by
  subst hij; subst hx
  refine va_iald hexec hb hK hP q0 t0 ha ht (vp_in_nI hj hn) hdg ?_
  rw [nI_clamp (by omega)]
  exact kk
theorem k_zald (hexec : p.tables.exec = Jvm.exec) (hb : c.code = cc) (hK : va_K D cl tys s) (hP : va_P D cl ws H) (q0 t0 : Nat) {cA : ClassId} {n : Nat} {f : Nat → Int32} (ha : ws[q0]? = some (a, .inl (cA, n, .inl f))) (ht : tys[t0]? = some (cA, .boolean)) {i : Int32} (j : Nat) (hij : i = nI j) (hj : j < n) (hn : n < 2 ^ 31) {x : Int32} (hx : f j = x) (hdg : decode cc pc = .ok (.baload, 1))
    (kk : W p l e R s m args below meth c H locs cells slots Q (F0 m (pc + 1) ls (.int x :: rest))) : W p l e R s m args below meth c H locs cells slots Q (F0 m pc ls (.int i :: .ref a :: rest)) := by
  subst hij; subst hx
  refine va_zald hexec hb hK hP q0 t0 ha ht (vp_in_nI hj hn) hdg ?_
  rw [nI_clamp (by omega)]
  exact kk
theorem k_aald (hexec : p.tables.exec = Jvm.exec) (hb : c.code = cc) (hK : va_K D cl tys s) (hP : va_P D cl ws H) (q0 t0 : Nat) {cA : ClassId} {C : String} {n : Nat} {f : Nat → Option Nat} (ha : ws[q0]? = some (a, .inl (cA, n, .inr (.inr (.inr (.inr f)))))) (ht : tys[t0]? = some (cA, .object C)) {i : Int32} (j : Nat) (hij : i = nI j) (hj : j < n) (hn : n < 2 ^ 31) {x : Nat} (hx : f j = some x) (hdg : decode cc pc = .ok (.aaload, 1))
    (kk : W p l e R s m args below meth c H locs cells slots Q (F0 m (pc + 1) ls (.ref x :: rest))) : W p l e R s m args below meth c H locs cells slots Q (F0 m pc ls (.int i :: .ref a :: rest)) := by
  subst hij
  refine va_aldq hexec hb hK hP q0 t0 ha ht (vp_in_nI hj hn) hdg ?_
  rw [nI_clamp (by omega), hx]
  exact kk
theorem k_iast (hexec : p.tables.exec = Jvm.exec) (hb : c.code = cc) (hK : va_K D cl tys s) (hP : va_P D cl ws H) (hD : va_D A ws) (hS : va_S A H0 H locs) (q0 t0 : Nat) {cA : ClassId} {n : Nat} {f : Nat → Int32} (ha : ws[q0]? = some (a, .inl (cA, n, .inl f))) (ht : tys[t0]? = some (cA, .int)) {i x : Int32} (j : Nat) (hij : i = nI j) (hj : j < n) (hn : n < 2 ^ 31) {ws' : va_W} (hw : ws.set q0 (a, .inl (cA, n, .inl (upd f j x))) = ws') (hdg : decode cc pc = .ok (.iastore, 1))
    (kk : ∀ (H1 : Heap) (locs1 : List Loc), va_P D cl ws' H1 → va_D A ws' → va_S A H0 H1 locs1 → W p l e R s m args below meth c H1 locs1 cells slots Q (F0 m (pc + 1) ls rest)) : W p l e R s m args below meth c H locs cells slots Q (F0 m pc ls (.int x :: .int i :: .ref a :: rest)) := by
  subst hij; subst hw
  refine va_iast hexec hb hK hP hD hS q0 t0 ha ht (vp_in_nI hj hn) hdg (fun H1 locs1 h1 h2 h3 => ?_)
  rw [nI_clamp (by omega)] at h1 h2
  exact kk H1 locs1 h1 h2 h3
theorem k_zast (hexec : p.tables.exec = Jvm.exec) (hb : c.code = cc) (hK : va_K D cl tys s) (hP : va_P D cl ws H) (hD : va_D A ws) (hS : va_S A H0 H locs) (q0 t0 : Nat) {cA : ClassId} {n : Nat} {f : Nat → Int32} (ha : ws[q0]? = some (a, .inl (cA, n, .inl f))) (ht : tys[t0]? = some (cA, .boolean)) {i x : Int32} (j : Nat) (hij : i = nI j) (hj : j < n) (hn : n < 2 ^ 31) {ws' : va_W} (hx : vp_nar .boolean x = x) (hw : ws.set q0 (a, .inl (cA, n, .inl (upd f j x))) = ws') (hdg : decode cc pc = .ok (.bastore, 1))
    (kk : ∀ (H1 : Heap) (locs1 : List Loc), va_P D cl ws' H1 → va_D A ws' → va_S A H0 H1 locs1 → W p l e R s m args below meth c H1 locs1 cells slots Q (F0 m (pc + 1) ls rest)) : W p l e R s m args below meth c H locs cells slots Q (F0 m pc ls (.int x :: .int i :: .ref a :: rest)) := by
  subst hij; subst hw
  refine va_zast hexec hb hK hP hD hS q0 t0 ha ht (vp_in_nI hj hn) hdg (fun H1 locs1 h1 h2 h3 => ?_)
  rw [nI_clamp (by omega)] at h1 h2
  first
    | (rw [hx] at h1 h2; exact kk H1 locs1 h1 h2 h3)
    | exact kk H1 locs1 h1 h2 h3
end KA
section KL
variable {p : Program} {l : Launch} {e : Env} {R : Room} {s : State} {m : MethodId} {args : Array Value} {below : List Frame} {meth : Method} {c : Code} {H : Heap} {locs : List Loc} {cells slots : Nat} {Q : State → Prop}
variable {pc : Nat} {st0 : List Value}
theorem k_loop1 {nL : Nat} {T1 : Type} (I : T1 → Prop) (μ : T1 → Nat) (L : T1 → List (Nat × Value)) (step : ∀ (a1 : T1), I a1 → (∀ (b1 : T1), I b1 → μ b1 < μ a1 → ∀ ls : Array Slot, lv_has ls nL (L b1) → W p l e R s m args below meth c H locs cells slots Q (F0 m pc ls st0)) → ∀ ls : Array Slot, lv_has ls nL (L a1) → W p l e R s m args below meth c H locs cells slots Q (F0 m pc ls st0)) (a1 : T1) (h0 : I a1) {ls : Array Slot} (hl : lv_has ls nL (L a1)) : W p l e R s m args below meth c H locs cells slots Q (F0 m pc ls st0) := by
  have key : ∀ (n : Nat) (a1 : T1), μ a1 < n → I a1 → ∀ ls : Array Slot, lv_has ls nL (L a1) → W p l e R s m args below meth c H locs cells slots Q (F0 m pc ls st0) := by
    intro n
    induction n with
    | zero => intro a1 hm; omega
    | succ n ih =>
      intro a1 hm hI ls hl
      exact step a1 hI (fun b1 hb hlt ls hl => ih b1 (by omega) hb ls hl) ls hl
  exact key (μ a1 + 1) a1 (Nat.lt_succ_self _) h0 ls hl
theorem k_loopW1 {nL : Nat} {T1 : Type} {D : va_G} {cl : List vw_C} {A : Nat → Prop} (I : T1 → Prop) (μ : T1 → Nat) (L : T1 → List (Nat × Value)) (WS : T1 → va_W) (step : ∀ (a1 : T1), I a1 → (∀ (b1 : T1), I b1 → μ b1 < μ a1 → ∀ (H : Heap) (locs : List Loc) (ls : Array Slot), va_P D cl (WS b1) H → va_D A (WS b1) → va_S A s.heap H locs → lv_has ls nL (L b1) → W p l e R s m args below meth c H locs cells slots Q (F0 m pc ls st0)) → ∀ (H : Heap) (locs : List Loc) (ls : Array Slot), va_P D cl (WS a1) H → va_D A (WS a1) → va_S A s.heap H locs → lv_has ls nL (L a1) → W p l e R s m args below meth c H locs cells slots Q (F0 m pc ls st0)) (a1 : T1) (h0 : I a1) {ls : Array Slot} (hP : va_P D cl (WS a1) H) (hD : va_D A (WS a1)) (hS : va_S A s.heap H locs) (hl : lv_has ls nL (L a1)) : W p l e R s m args below meth c H locs cells slots Q (F0 m pc ls st0) := by
  have key : ∀ (n : Nat) (a1 : T1), μ a1 < n → I a1 → ∀ (H : Heap) (locs : List Loc) (ls : Array Slot), va_P D cl (WS a1) H → va_D A (WS a1) → va_S A s.heap H locs → lv_has ls nL (L a1) → W p l e R s m args below meth c H locs cells slots Q (F0 m pc ls st0) := by
    intro n
    induction n with
    | zero => intro a1 hm; omega
    | succ n ih =>
      intro a1 hm hI H locs ls hP hD hS hl
      exact step a1 hI (fun b1 hb hlt H locs ls hP hD hS hl => ih b1 (by omega) hb H locs ls hP hD hS hl) H locs ls hP hD hS hl
  exact key (μ a1 + 1) a1 (Nat.lt_succ_self _) h0 H locs ls hP hD hS hl
theorem k_loop2 {nL : Nat} {T1 T2 : Type} (I : T1 → T2 → Prop) (μ : T1 → T2 → Nat) (L : T1 → T2 → List (Nat × Value)) (step : ∀ (a1 : T1) (a2 : T2), I a1 a2 → (∀ (b1 : T1) (b2 : T2), I b1 b2 → μ b1 b2 < μ a1 a2 → ∀ ls : Array Slot, lv_has ls nL (L b1 b2) → W p l e R s m args below meth c H locs cells slots Q (F0 m pc ls st0)) → ∀ ls : Array Slot, lv_has ls nL (L a1 a2) → W p l e R s m args below meth c H locs cells slots Q (F0 m pc ls st0)) (a1 : T1) (a2 : T2) (h0 : I a1 a2) {ls : Array Slot} (hl : lv_has ls nL (L a1 a2)) : W p l e R s m args below meth c H locs cells slots Q (F0 m pc ls st0) := by
  have key : ∀ (n : Nat) (a1 : T1) (a2 : T2), μ a1 a2 < n → I a1 a2 → ∀ ls : Array Slot, lv_has ls nL (L a1 a2) → W p l e R s m args below meth c H locs cells slots Q (F0 m pc ls st0) := by
    intro n
    induction n with
    | zero => intro a1 a2 hm; omega
    | succ n ih =>
      intro a1 a2 hm hI ls hl
      exact step a1 a2 hI (fun b1 b2 hb hlt ls hl => ih b1 b2 (by omega) hb ls hl) ls hl
  exact key (μ a1 a2 + 1) a1 a2 (Nat.lt_succ_self _) h0 ls hl
theorem k_loopW2 {nL : Nat} {T1 T2 : Type} {D : va_G} {cl : List vw_C} {A : Nat → Prop} (I : T1 → T2 → Prop) (μ : T1 → T2 → Nat) (L : T1 → T2 → List (Nat × Value)) (WS : T1 → T2 → va_W) (step : ∀ (a1 : T1) (a2 : T2), I a1 a2 → (∀ (b1 : T1) (b2 : T2), I b1 b2 → μ b1 b2 < μ a1 a2 → ∀ (H : Heap) (locs : List Loc) (ls : Array Slot), va_P D cl (WS b1 b2) H → va_D A (WS b1 b2) → va_S A s.heap H locs → lv_has ls nL (L b1 b2) → W p l e R s m args below meth c H locs cells slots Q (F0 m pc ls st0)) → ∀ (H : Heap) (locs : List Loc) (ls : Array Slot), va_P D cl (WS a1 a2) H → va_D A (WS a1 a2) → va_S A s.heap H locs → lv_has ls nL (L a1 a2) → W p l e R s m args below meth c H locs cells slots Q (F0 m pc ls st0)) (a1 : T1) (a2 : T2) (h0 : I a1 a2) {ls : Array Slot} (hP : va_P D cl (WS a1 a2) H) (hD : va_D A (WS a1 a2)) (hS : va_S A s.heap H locs) (hl : lv_has ls nL (L a1 a2)) : W p l e R s m args below meth c H locs cells slots Q (F0 m pc ls st0) := by
  have key : ∀ (n : Nat) (a1 : T1) (a2 : T2), μ a1 a2 < n → I a1 a2 → ∀ (H : Heap) (locs : List Loc) (ls : Array Slot), va_P D cl (WS a1 a2) H → va_D A (WS a1 a2) → va_S A s.heap H locs → lv_has ls nL (L a1 a2) → W p l e R s m args below meth c H locs cells slots Q (F0 m pc ls st0) := by
    intro n
    induction n with
    | zero => intro a1 a2 hm; omega
    | succ n ih =>
      intro a1 a2 hm hI H locs ls hP hD hS hl
      exact step a1 a2 hI (fun b1 b2 hb hlt H locs ls hP hD hS hl => ih b1 b2 (by omega) hb H locs ls hP hD hS hl) H locs ls hP hD hS hl
  exact key (μ a1 a2 + 1) a1 a2 (Nat.lt_succ_self _) h0 H locs ls hP hD hS hl
theorem k_loop3 {nL : Nat} {T1 T2 T3 : Type} (I : T1 → T2 → T3 → Prop) (μ : T1 → T2 → T3 → Nat) (L : T1 → T2 → T3 → List (Nat × Value)) (step : ∀ (a1 : T1) (a2 : T2) (a3 : T3), I a1 a2 a3 → (∀ (b1 : T1) (b2 : T2) (b3 : T3), I b1 b2 b3 → μ b1 b2 b3 < μ a1 a2 a3 → ∀ ls : Array Slot, lv_has ls nL (L b1 b2 b3) → W p l e R s m args below meth c H locs cells slots Q (F0 m pc ls st0)) → ∀ ls : Array Slot, lv_has ls nL (L a1 a2 a3) → W p l e R s m args below meth c H locs cells slots Q (F0 m pc ls st0)) (a1 : T1) (a2 : T2) (a3 : T3) (h0 : I a1 a2 a3) {ls : Array Slot} (hl : lv_has ls nL (L a1 a2 a3)) : W p l e R s m args below meth c H locs cells slots Q (F0 m pc ls st0) := by
  have key : ∀ (n : Nat) (a1 : T1) (a2 : T2) (a3 : T3), μ a1 a2 a3 < n → I a1 a2 a3 → ∀ ls : Array Slot, lv_has ls nL (L a1 a2 a3) → W p l e R s m args below meth c H locs cells slots Q (F0 m pc ls st0) := by
    intro n
    induction n with
    | zero => intro a1 a2 a3 hm; omega
    | succ n ih =>
      intro a1 a2 a3 hm hI ls hl
      exact step a1 a2 a3 hI (fun b1 b2 b3 hb hlt ls hl => ih b1 b2 b3 (by omega) hb ls hl) ls hl
  exact key (μ a1 a2 a3 + 1) a1 a2 a3 (Nat.lt_succ_self _) h0 ls hl
theorem k_loopW3 {nL : Nat} {T1 T2 T3 : Type} {D : va_G} {cl : List vw_C} {A : Nat → Prop} (I : T1 → T2 → T3 → Prop) (μ : T1 → T2 → T3 → Nat) (L : T1 → T2 → T3 → List (Nat × Value)) (WS : T1 → T2 → T3 → va_W) (step : ∀ (a1 : T1) (a2 : T2) (a3 : T3), I a1 a2 a3 → (∀ (b1 : T1) (b2 : T2) (b3 : T3), I b1 b2 b3 → μ b1 b2 b3 < μ a1 a2 a3 → ∀ (H : Heap) (locs : List Loc) (ls : Array Slot), va_P D cl (WS b1 b2 b3) H → va_D A (WS b1 b2 b3) → va_S A s.heap H locs → lv_has ls nL (L b1 b2 b3) → W p l e R s m args below meth c H locs cells slots Q (F0 m pc ls st0)) → ∀ (H : Heap) (locs : List Loc) (ls : Array Slot), va_P D cl (WS a1 a2 a3) H → va_D A (WS a1 a2 a3) → va_S A s.heap H locs → lv_has ls nL (L a1 a2 a3) → W p l e R s m args below meth c H locs cells slots Q (F0 m pc ls st0)) (a1 : T1) (a2 : T2) (a3 : T3) (h0 : I a1 a2 a3) {ls : Array Slot} (hP : va_P D cl (WS a1 a2 a3) H) (hD : va_D A (WS a1 a2 a3)) (hS : va_S A s.heap H locs) (hl : lv_has ls nL (L a1 a2 a3)) : W p l e R s m args below meth c H locs cells slots Q (F0 m pc ls st0) := by
  have key : ∀ (n : Nat) (a1 : T1) (a2 : T2) (a3 : T3), μ a1 a2 a3 < n → I a1 a2 a3 → ∀ (H : Heap) (locs : List Loc) (ls : Array Slot), va_P D cl (WS a1 a2 a3) H → va_D A (WS a1 a2 a3) → va_S A s.heap H locs → lv_has ls nL (L a1 a2 a3) → W p l e R s m args below meth c H locs cells slots Q (F0 m pc ls st0) := by
    intro n
    induction n with
    | zero => intro a1 a2 a3 hm; omega
    | succ n ih =>
      intro a1 a2 a3 hm hI H locs ls hP hD hS hl
      exact step a1 a2 a3 hI (fun b1 b2 b3 hb hlt H locs ls hP hD hS hl => ih b1 b2 b3 (by omega) hb H locs ls hP hD hS hl) H locs ls hP hD hS hl
  exact key (μ a1 a2 a3 + 1) a1 a2 a3 (Nat.lt_succ_self _) h0 H locs ls hP hD hS hl
theorem k_loop4 {nL : Nat} {T1 T2 T3 T4 : Type} (I : T1 → T2 → T3 → T4 → Prop) (μ : T1 → T2 → T3 → T4 → Nat) (L : T1 → T2 → T3 → T4 → List (Nat × Value)) (step : ∀ (a1 : T1) (a2 : T2) (a3 : T3) (a4 : T4), I a1 a2 a3 a4 → (∀ (b1 : T1) (b2 : T2) (b3 : T3) (b4 : T4), I b1 b2 b3 b4 → μ b1 b2 b3 b4 < μ a1 a2 a3 a4 → ∀ ls : Array Slot, lv_has ls nL (L b1 b2 b3 b4) → W p l e R s m args below meth c H locs cells slots Q (F0 m pc ls st0)) → ∀ ls : Array Slot, lv_has ls nL (L a1 a2 a3 a4) → W p l e R s m args below meth c H locs cells slots Q (F0 m pc ls st0)) (a1 : T1) (a2 : T2) (a3 : T3) (a4 : T4) (h0 : I a1 a2 a3 a4) {ls : Array Slot} (hl : lv_has ls nL (L a1 a2 a3 a4)) : W p l e R s m args below meth c H locs cells slots Q (F0 m pc ls st0) := by
  have key : ∀ (n : Nat) (a1 : T1) (a2 : T2) (a3 : T3) (a4 : T4), μ a1 a2 a3 a4 < n → I a1 a2 a3 a4 → ∀ ls : Array Slot, lv_has ls nL (L a1 a2 a3 a4) → W p l e R s m args below meth c H locs cells slots Q (F0 m pc ls st0) := by
    intro n
    induction n with
    | zero => intro a1 a2 a3 a4 hm; omega
    | succ n ih =>
      intro a1 a2 a3 a4 hm hI ls hl
      exact step a1 a2 a3 a4 hI (fun b1 b2 b3 b4 hb hlt ls hl => ih b1 b2 b3 b4 (by omega) hb ls hl) ls hl
  exact key (μ a1 a2 a3 a4 + 1) a1 a2 a3 a4 (Nat.lt_succ_self _) h0 ls hl
theorem k_loopW4 {nL : Nat} {T1 T2 T3 T4 : Type} {D : va_G} {cl : List vw_C} {A : Nat → Prop} (I : T1 → T2 → T3 → T4 → Prop) (μ : T1 → T2 → T3 → T4 → Nat) (L : T1 → T2 → T3 → T4 → List (Nat × Value)) (WS : T1 → T2 → T3 → T4 → va_W) (step : ∀ (a1 : T1) (a2 : T2) (a3 : T3) (a4 : T4), I a1 a2 a3 a4 → (∀ (b1 : T1) (b2 : T2) (b3 : T3) (b4 : T4), I b1 b2 b3 b4 → μ b1 b2 b3 b4 < μ a1 a2 a3 a4 → ∀ (H : Heap) (locs : List Loc) (ls : Array Slot), va_P D cl (WS b1 b2 b3 b4) H → va_D A (WS b1 b2 b3 b4) → va_S A s.heap H locs → lv_has ls nL (L b1 b2 b3 b4) → W p l e R s m args below meth c H locs cells slots Q (F0 m pc ls st0)) → ∀ (H : Heap) (locs : List Loc) (ls : Array Slot), va_P D cl (WS a1 a2 a3 a4) H → va_D A (WS a1 a2 a3 a4) → va_S A s.heap H locs → lv_has ls nL (L a1 a2 a3 a4) → W p l e R s m args below meth c H locs cells slots Q (F0 m pc ls st0)) (a1 : T1) (a2 : T2) (a3 : T3) (a4 : T4) (h0 : I a1 a2 a3 a4) {ls : Array Slot} (hP : va_P D cl (WS a1 a2 a3 a4) H) (hD : va_D A (WS a1 a2 a3 a4)) (hS : va_S A s.heap H locs) (hl : lv_has ls nL (L a1 a2 a3 a4)) : W p l e R s m args below meth c H locs cells slots Q (F0 m pc ls st0) := by
  have key : ∀ (n : Nat) (a1 : T1) (a2 : T2) (a3 : T3) (a4 : T4), μ a1 a2 a3 a4 < n → I a1 a2 a3 a4 → ∀ (H : Heap) (locs : List Loc) (ls : Array Slot), va_P D cl (WS a1 a2 a3 a4) H → va_D A (WS a1 a2 a3 a4) → va_S A s.heap H locs → lv_has ls nL (L a1 a2 a3 a4) → W p l e R s m args below meth c H locs cells slots Q (F0 m pc ls st0) := by
    intro n
    induction n with
    | zero => intro a1 a2 a3 a4 hm; omega
    | succ n ih =>
      intro a1 a2 a3 a4 hm hI H locs ls hP hD hS hl
      exact step a1 a2 a3 a4 hI (fun b1 b2 b3 b4 hb hlt H locs ls hP hD hS hl => ih b1 b2 b3 b4 (by omega) hb H locs ls hP hD hS hl) H locs ls hP hD hS hl
  exact key (μ a1 a2 a3 a4 + 1) a1 a2 a3 a4 (Nat.lt_succ_self _) h0 H locs ls hP hD hS hl
theorem k_loop5 {nL : Nat} {T1 T2 T3 T4 T5 : Type} (I : T1 → T2 → T3 → T4 → T5 → Prop) (μ : T1 → T2 → T3 → T4 → T5 → Nat) (L : T1 → T2 → T3 → T4 → T5 → List (Nat × Value)) (step : ∀ (a1 : T1) (a2 : T2) (a3 : T3) (a4 : T4) (a5 : T5), I a1 a2 a3 a4 a5 → (∀ (b1 : T1) (b2 : T2) (b3 : T3) (b4 : T4) (b5 : T5), I b1 b2 b3 b4 b5 → μ b1 b2 b3 b4 b5 < μ a1 a2 a3 a4 a5 → ∀ ls : Array Slot, lv_has ls nL (L b1 b2 b3 b4 b5) → W p l e R s m args below meth c H locs cells slots Q (F0 m pc ls st0)) → ∀ ls : Array Slot, lv_has ls nL (L a1 a2 a3 a4 a5) → W p l e R s m args below meth c H locs cells slots Q (F0 m pc ls st0)) (a1 : T1) (a2 : T2) (a3 : T3) (a4 : T4) (a5 : T5) (h0 : I a1 a2 a3 a4 a5) {ls : Array Slot} (hl : lv_has ls nL (L a1 a2 a3 a4 a5)) : W p l e R s m args below meth c H locs cells slots Q (F0 m pc ls st0) := by
  have key : ∀ (n : Nat) (a1 : T1) (a2 : T2) (a3 : T3) (a4 : T4) (a5 : T5), μ a1 a2 a3 a4 a5 < n → I a1 a2 a3 a4 a5 → ∀ ls : Array Slot, lv_has ls nL (L a1 a2 a3 a4 a5) → W p l e R s m args below meth c H locs cells slots Q (F0 m pc ls st0) := by
    intro n
    induction n with
    | zero => intro a1 a2 a3 a4 a5 hm; omega
    | succ n ih =>
      intro a1 a2 a3 a4 a5 hm hI ls hl
      exact step a1 a2 a3 a4 a5 hI (fun b1 b2 b3 b4 b5 hb hlt ls hl => ih b1 b2 b3 b4 b5 (by omega) hb ls hl) ls hl
  exact key (μ a1 a2 a3 a4 a5 + 1) a1 a2 a3 a4 a5 (Nat.lt_succ_self _) h0 ls hl
theorem k_loopW5 {nL : Nat} {T1 T2 T3 T4 T5 : Type} {D : va_G} {cl : List vw_C} {A : Nat → Prop} (I : T1 → T2 → T3 → T4 → T5 → Prop) (μ : T1 → T2 → T3 → T4 → T5 → Nat) (L : T1 → T2 → T3 → T4 → T5 → List (Nat × Value)) (WS : T1 → T2 → T3 → T4 → T5 → va_W) (step : ∀ (a1 : T1) (a2 : T2) (a3 : T3) (a4 : T4) (a5 : T5), I a1 a2 a3 a4 a5 → (∀ (b1 : T1) (b2 : T2) (b3 : T3) (b4 : T4) (b5 : T5), I b1 b2 b3 b4 b5 → μ b1 b2 b3 b4 b5 < μ a1 a2 a3 a4 a5 → ∀ (H : Heap) (locs : List Loc) (ls : Array Slot), va_P D cl (WS b1 b2 b3 b4 b5) H → va_D A (WS b1 b2 b3 b4 b5) → va_S A s.heap H locs → lv_has ls nL (L b1 b2 b3 b4 b5) → W p l e R s m args below meth c H locs cells slots Q (F0 m pc ls st0)) → ∀ (H : Heap) (locs : List Loc) (ls : Array Slot), va_P D cl (WS a1 a2 a3 a4 a5) H → va_D A (WS a1 a2 a3 a4 a5) → va_S A s.heap H locs → lv_has ls nL (L a1 a2 a3 a4 a5) → W p l e R s m args below meth c H locs cells slots Q (F0 m pc ls st0)) (a1 : T1) (a2 : T2) (a3 : T3) (a4 : T4) (a5 : T5) (h0 : I a1 a2 a3 a4 a5) {ls : Array Slot} (hP : va_P D cl (WS a1 a2 a3 a4 a5) H) (hD : va_D A (WS a1 a2 a3 a4 a5)) (hS : va_S A s.heap H locs) (hl : lv_has ls nL (L a1 a2 a3 a4 a5)) : W p l e R s m args below meth c H locs cells slots Q (F0 m pc ls st0) := by
  have key : ∀ (n : Nat) (a1 : T1) (a2 : T2) (a3 : T3) (a4 : T4) (a5 : T5), μ a1 a2 a3 a4 a5 < n → I a1 a2 a3 a4 a5 → ∀ (H : Heap) (locs : List Loc) (ls : Array Slot), va_P D cl (WS a1 a2 a3 a4 a5) H → va_D A (WS a1 a2 a3 a4 a5) → va_S A s.heap H locs → lv_has ls nL (L a1 a2 a3 a4 a5) → W p l e R s m args below meth c H locs cells slots Q (F0 m pc ls st0) := by
    intro n
    induction n with
    | zero => intro a1 a2 a3 a4 a5 hm; omega
    | succ n ih =>
      intro a1 a2 a3 a4 a5 hm hI H locs ls hP hD hS hl
      exact step a1 a2 a3 a4 a5 hI (fun b1 b2 b3 b4 b5 hb hlt H locs ls hP hD hS hl => ih b1 b2 b3 b4 b5 (by omega) hb H locs ls hP hD hS hl) H locs ls hP hD hS hl
  exact key (μ a1 a2 a3 a4 a5 + 1) a1 a2 a3 a4 a5 (Nat.lt_succ_self _) h0 H locs ls hP hD hS hl
end KL
theorem kN_inc (a n : Nat) {k : Int32} (h : nI n = k) : nI a + k = nI (a + n) := by
  rw [← h]
  exact nI_add a n
theorem kN_b (b : Bool) : vp_nar .boolean (bI b) = bI b := by cases b <;> rfl
theorem bI_0 {b : Bool} : bI b = 0 ↔ b = false := by cases b <;> simp [bI]
theorem bI_n0 {b : Bool} : ¬ bI b = 0 ↔ b = true := by cases b <;> simp [bI]
theorem bI_nar (b : Bool) : narrow .boolean (.int (bI b)) = .int (bI b) := by cases b <;> rfl
theorem nf_64 {A : Nat → Prop} {s : State} (h : XS A s) : va_Nw (.fieldLinkNest RX1 64 "ChoirNotes$Voice" "count" "I" RX1) s := h.2.2.2.2.1 (64, "count", "I") (by simp [kNF])
theorem nf_86 {A : Nat → Prop} {s : State} (h : XS A s) : va_Nw (.fieldLinkNest RX1 86 "ChoirNotes$Voice" "clef" "I" RX1) s := h.2.2.2.2.1 (86, "clef", "I") (by simp [kNF])
theorem nf_98 {A : Nat → Prop} {s : State} (h : XS A s) : va_Nw (.fieldLinkNest RX1 98 "ChoirNotes$Voice" "kinds" "[I" RX1) s := h.2.2.2.2.1 (98, "kinds", "[I") (by simp [kNF])
theorem nf_102 {A : Nat → Prop} {s : State} (h : XS A s) : va_Nw (.fieldLinkNest RX1 102 "ChoirNotes$Voice" "places" "[I" RX1) s := h.2.2.2.2.1 (102, "places", "[I") (by simp [kNF])
theorem nf_105 {A : Nat → Prop} {s : State} (h : XS A s) : va_Nw (.fieldLinkNest RX1 105 "ChoirNotes$Voice" "colours" "[Z" RX1) s := h.2.2.2.2.1 (105, "colours", "[Z") (by simp [kNF])
theorem nf_109 {A : Nat → Prop} {s : State} (h : XS A s) : va_Nw (.fieldLinkNest RX1 109 "ChoirNotes$Voice" "ranks" "[I" RX1) s := h.2.2.2.2.1 (109, "ranks", "[I") (by simp [kNF])
theorem nf_116 {A : Nat → Prop} {s : State} (h : XS A s) : va_Nw (.fieldLinkNest RX1 116 "ChoirNotes$Voice" "begins" "[I" RX1) s := h.2.2.2.2.1 (116, "begins", "[I") (by simp [kNF])
theorem nm_15 {A : Nat → Prop} {s : State} (h : XS A s) : va_Nw (.methodLinkNest RX1 15 yX0_init RX1) s := h.2.2.2.2.2.1 (15, yX0_init) (by simp [kNM])
theorem nm_31 {A : Nat → Prop} {s : State} (h : XS A s) : va_Nw (.methodLinkNest RX1 31 yX0_measure RX1) s := h.2.2.2.2.2.1 (31, yX0_measure) (by simp [kNM])
theorem nm_45 {A : Nat → Prop} {s : State} (h : XS A s) : va_Nw (.methodLinkNest RX1 45 yX0_append RX1) s := h.2.2.2.2.2.1 (45, yX0_append) (by simp [kNM])
theorem nm_69 {A : Nat → Prop} {s : State} (h : XS A s) : va_Nw (.methodLinkNest RX1 69 yX0_dropLast RX1) s := h.2.2.2.2.2.1 (69, yX0_dropLast) (by simp [kNM])
theorem nm_77 {A : Nat → Prop} {s : State} (h : XS A s) : va_Nw (.methodLinkNest RX1 77 yX0_isRest RX1) s := h.2.2.2.2.2.1 (77, yX0_isRest) (by simp [kNM])
theorem nm_83 {A : Nat → Prop} {s : State} (h : XS A s) : va_Nw (.methodLinkNest RX1 83 yX0_turnColour RX1) s := h.2.2.2.2.2.1 (83, yX0_turnColour) (by simp [kNM])
theorem nm_89 {A : Nat → Prop} {s : State} (h : XS A s) : va_Nw (.methodLinkNest RX1 89 yX0_end RX1) s := h.2.2.2.2.2.1 (89, yX0_end) (by simp [kNM])
theorem nm_92 {A : Nat → Prop} {s : State} (h : XS A s) : va_Nw (.methodLinkNest RX1 92 yX0_countNotes RX1) s := h.2.2.2.2.2.1 (92, yX0_countNotes) (by simp [kNM])
theorem nm_95 {A : Nat → Prop} {s : State} (h : XS A s) : va_Nw (.methodLinkNest RX1 95 yX0_countLigatures RX1) s := h.2.2.2.2.2.1 (95, yX0_countLigatures) (by simp [kNM])
theorem nm_112 {A : Nat → Prop} {s : State} (h : XS A s) : va_Nw (.methodLinkNest RX1 112 yX0_minimsOf RX1) s := h.2.2.2.2.2.1 (112, yX0_minimsOf) (by simp [kNM])
theorem nm_127 {A : Nat → Prop} {s : State} (h : XS A s) : va_Nw (.methodLinkNest RX1 127 yX0_signLastingAt RX1) s := h.2.2.2.2.2.1 (127, yX0_signLastingAt) (by simp [kNM])
theorem nm_134 {A : Nat → Prop} {s : State} (h : XS A s) : va_Nw (.methodLinkNest RX1 134 yX0_wouldFit RX1) s := h.2.2.2.2.2.1 (134, yX0_wouldFit) (by simp [kNM])
theorem nm_137 {A : Nat → Prop} {s : State} (h : XS A s) : va_Nw (.methodLinkNest RX1 137 yX0_countFittingClefs RX1) s := h.2.2.2.2.2.1 (137, yX0_countFittingClefs) (by simp [kNM])
theorem pk_mul2 (a b c : Nat) : nI a * nI b * nI c = nI (a * b * c) := by rw [pk_mul, pk_mul]
theorem pk_mul1 (a b : Nat) : nI a * nI b = nI (a * b) := pk_mul a b
