/-! THE LAW'S HELPERS: the law's row out; a call that is caught -/
def kNc : List (String × String) := [(eI, eA), (eI, eS), (eA, eI), (eA, eS), (eS, eI), (eS, eA)]
/-- no exception is another's kind -/
def NcS (U : State) : Prop := ∀ q ∈ kNc, va_Nc q.1 q.2 U
def ow (g : GA) (f : Nat → Int64) : va_W := [(gO g, .inl (gJ g, 1, .inr (.inl f)))]
theorem oa (g : GA) (σ : St) (f : Nat → Int64) (r : va_W) : (cw g σ ++ (ow g f ++ r))[26]? = some (gO g, .inl (gJ g, 1, .inr (.inl f))) := rfl
theorem os (g : GA) (σ : St) (f f' : Nat → Int64) (r : va_W) : (cw g σ ++ (ow g f ++ r)).set 26 (gO g, .inl (gJ g, 1, .inr (.inl f'))) = cw g σ ++ (ow g f' ++ r) := rfl
theorem uB_self (σ : St) : uB σ (sB σ) = σ := rfl
def CxL (g : GA) (A : Nat → Prop) (ws : va_W) (U : State) : Prop := Cx g A ws U ∧ NcS U
theorem cxl_S {g : GA} {A : Nat → Prop} {ws : va_W} {s : State} {H : Heap} {locs : List Loc} {As : List Value} (hN : NcS s) (hP : va_P (gD g) vwCl ws H) (hD : va_D A ws) (hA : ∀ q : Nat, s.heap.size ≤ q → A q) (hK : va_K (gD g) vwCl (gT g) s) (hX : XS A s) (hS : va_S A s.heap H locs) : PreS s H (va_Pc As (CxL g A ws)) As :=
  ⟨fun a U f mk q => ⟨q.1, (cx_blind (av := As) a U f mk ⟨q.1, q.2.1⟩).2, q.2.2⟩, fun _ hU hW => ⟨rfl, Cx.next hP hD hA hK hX hS hU hW, fun q hq => va_Nc.moved hW.alike (hN q hq)⟩⟩
section KH
variable {p : Program} {l : Launch} {e : Env} {R : Room} {s : State} {m : MethodId} {args : Array Value} {below : List Frame} {meth : Method} {c : Code} {H : Heap} {locs : List Loc} {cells slots : Nat} {Q : State → Prop}
variable {pc : Nat} {ls : Array Slot} {rest st0 : List Value} {a : Array Value} {mc ms : Nat} {A : Nat → Prop} {cond : String → Prop}
theorem k_hri {post : Int32 → Prop} (hr : vx_Run p l e R s m args below meth c H locs cells slots mc ms (F0 m pc ls st0) rest (vp_Si post a) (kX cond) (fun _ => False)) (hS : va_S A s.heap H locs)
    (kx : ∀ (E : String) (ce : Cell) (q9 : Addr) (H1 : Heap) (locs1 : List Loc), cond E → va_S A s.heap H1 locs1 → (∀ q : Nat, q < H.size → H1[q]? = H[q]?) → H1[q9]? = some ce → ce.vm = .none → s.vm.findClass E = some ce.cls → vx_W p l e R s m args below meth c H1 locs1 (cells + mc) (slots + ms) Q (F0 m pc ls rest) q9)
    (kk : ∀ r : Int32, post r → W p l e R s m args below meth c H locs (cells + mc) (slots + ms) Q (F0 m (pc + 3) ls (.int r :: rest))) : W p l e R s m args below meth c H locs cells slots Q (F0 m pc ls st0) := by
  intro T hT X
  rcases hr T hT X with ⟨v, st₀, t, T', L, h0, X', hL, e1, e2, ⟨r, hv, hp, hh⟩, st⟩ | ⟨q, st₀, t, T', L, E, ce, h0, X', hL, e1, e2, ⟨hE, hF⟩, hce, hcv, hcl, st⟩
  · cases hv
    have hl := k_nil hL
    subst hl
    rw [List.append_nil] at X'
    obtain ⟨t2, a1, b1⟩ := kk r hp T' (by rw [e1, hh, h0]) X'
    exact ⟨t2, st t2 a1, b1⟩
  · obtain ⟨f1, f2⟩ := k_kept h0 hF
    obtain ⟨k1, k2, k3⟩ := vx_keep (A1 := fun _ => False) (free := fun _ => False) h0 e1 hS (by intro q _ z; exact z.elim) (by intro q z; exact z.elim) hL hF
    obtain ⟨t2, a1, b1⟩ := kx E ce q T'.heap (locs ++ L) hE k3 (fun q hq => by rw [e1]; exact f2 q hq) (by rw [e1]; exact hce) hcv hcl T' rfl X'
    exact ⟨t2, st.trans a1, b1⟩
theorem k_hwi {S : Type} {post : Int32 → S → Prop} {B : S → State → Prop} (hr : vx_Run p l e R s m args below meth c H locs cells slots mc ms (F0 m pc ls st0) rest (va_Qi post B A a) (kX cond) A) (hS : va_S A s.heap H locs)
    (kx : ∀ (E : String) (ce : Cell) (q9 : Addr) (H1 : Heap) (locs1 : List Loc), cond E → va_S A s.heap H1 locs1 → (∀ q : Nat, q < H.size → H1[q]? = H[q]?) → H1[q9]? = some ce → ce.vm = .none → s.vm.findClass E = some ce.cls → vx_W p l e R s m args below meth c H1 locs1 (cells + mc) (slots + ms) Q (F0 m pc ls rest) q9)
    (kk : ∀ (r : Int32) (u : S) (t : State) (H1 : Heap) (locs1 : List Loc), t.heap = H1 → post r u → B u t → va_S A s.heap H1 locs1 → W p l e R s m args below meth c H1 locs1 (cells + mc) (slots + ms) Q (F0 m (pc + 3) ls (.int r :: rest))) : W p l e R s m args below meth c H locs cells slots Q (F0 m pc ls st0) := by
  intro T hT X
  rcases hr T hT X with ⟨v, st₀, t, T', L, h0, X', hL, e1, e2, ⟨⟨r, u, hv, hp, hb⟩, hF⟩, st⟩ | ⟨q, st₀, t, T', L, E, ce, h0, X', hL, e1, e2, ⟨hE, hF⟩, hce, hcv, hcl, st⟩
  · cases hv
    obtain ⟨k1, k2, k3⟩ := vx_keep h0 e1 hS (fun _ _ z => z) (fun _ z => z) hL hF
    obtain ⟨t2, a1, b1⟩ := kk r u t T'.heap (locs ++ L) e1.symm hp hb k3 T' rfl X'
    exact ⟨t2, st t2 a1, b1⟩
  · obtain ⟨f1, f2⟩ := k_kept h0 hF
    obtain ⟨k1, k2, k3⟩ := vx_keep (A1 := fun _ => False) (free := A) h0 e1 hS (fun _ _ z => z.elim) (fun _ z => z) hL hF
    obtain ⟨t2, a1, b1⟩ := kx E ce q T'.heap (locs ++ L) hE k3 (fun q hq => by rw [e1]; exact f2 q hq) (by rw [e1]; exact hce) hcv hcl T' rfl X'
    exact ⟨t2, st.trans a1, b1⟩
theorem k_last {cc : ByteArray} {D : va_G} {cl : List vw_C} {tys : List (ClassId × FieldType)} {ws : va_W} {ad : Nat} {H0 : Heap} (hexec : p.tables.exec = Jvm.exec) (hb : c.code = cc) (hK : va_K D cl tys s) (hP : va_P D cl ws H) (hD : va_D A ws) (hS : va_S A H0 H locs) (q0 t0 : Nat) {cA : ClassId} {n : Nat} {f : Nat → Int64} (ha : ws[q0]? = some (ad, .inl (cA, n, .inr (.inl f)))) (ht : tys[t0]? = some (cA, .long)) {i : Int32} {x : Int64} (j : Nat) (hij : i = nI j) (hj : j < n) (hn : n < 2 ^ 31) {ws' : va_W} (hw : ws.set q0 (ad, .inl (cA, n, .inr (.inl (vp_updL f j x)))) = ws') (hdg : decode cc pc = .ok (.lastore, 1))
    (kk : ∀ (H1 : Heap) (locs1 : List Loc), va_P D cl ws' H1 → va_D A ws' → va_S A H0 H1 locs1 → W p l e R s m args below meth c H1 locs1 cells slots Q (F0 m (pc + 1) ls rest)) : W p l e R s m args below meth c H locs cells slots Q (F0 m pc ls (.long x :: .int i :: .ref ad :: rest)) := by
  subst hij; subst hw
  refine va_last hexec hb hK hP hD hS q0 t0 ha ht (vp_in_nI hj hn) hdg (fun H1 locs1 h1 h2 h3 => ?_)
  rw [nI_clamp (by omega)] at h1 h2
  exact kk H1 locs1 h1 h2 h3
end KH
theorem k_ofWH {l : Launch} {y : MethodName} {ws ws' : List Cond} {rm : Room} {Pc : Array Value → State → Prop} {Qc : Array Value → State → Outcome → State → Prop} {mc ms : Nat} {free : Addr → Prop} {cc : ByteArray} {maxL : Nat} {ret : Option FieldType} {hh : List (Nat × Nat × Nat × Nat)}
    (hy : plainName y.cls = true) (hw : ws = Cond.codeWith y cc maxL ret hh :: ws')
    (body : ∀ p e s m args below meth c s₁, BodyLoose p l y (headSpec ws rm) cc maxL ret e s m args below meth c s₁ → c.maxLocals = maxL → c.exceptionTable.toList = tableOf hh → Pc args s →
      W p l e (headSpec ws rm).room s m args below meth c s.heap [] 0 0 (MQ below Qc args s mc ms free) (entryFrame m args maxL)) : Met l y ws rm Pc Qc mc ms free := by
  refine MetFree.of_bodyS (code := cc) (maxLocals := maxL) (ret := ret) hy ?_ ?_
  · intro args s m h hn
    obtain ⟨m9, meth, c, hn9, h1, h2, h3, h4, -, h5, h6, -⟩ := Cond.codeWith_spec (atoms_spec (ws := ws) h _ (by rw [hw]; exact List.mem_cons_self))
    cases hn.symm.trans hn9
    exact ⟨meth, c, h1, h2, h3, h4, h5, h6⟩
  · intro p e s m args below meth c s₁ B hml hP _
    have hh0 : s₁.heap = s.heap := by rw [B.state]; rfl
    have ht := vx_table (x := y) B (atoms_spec (ws := ws) B.pre _ (by rw [hw]; exact List.mem_cons_self))
    obtain ⟨t, a1, o, b1, b2, b3⟩ := body p e s m args below meth c s₁ B hml ht hP s₁ hh0 (Stand.of_body B)
    exact ⟨t, o, a1, b1, b2, ⟨b3.1, b3.2⟩⟩
theorem st_Nc {args : Array Value} {s : State} (hgv : (Jvm.Cond.and given_1 narrow_1).before args s = true) : NcS s := by
  have hf := flat_of_before _ hgv
  exact List.forall_mem_cons.mpr ⟨va_Nc.of (hf _ (by decide +kernel)), List.forall_mem_cons.mpr ⟨va_Nc.of (hf _ (by decide +kernel)), List.forall_mem_cons.mpr ⟨va_Nc.of (hf _ (by decide +kernel)), List.forall_mem_cons.mpr ⟨va_Nc.of (hf _ (by decide +kernel)), List.forall_mem_cons.mpr ⟨va_Nc.of (hf _ (by decide +kernel)), List.forall_mem_cons.mpr ⟨va_Nc.of (hf _ (by decide +kernel)), fun _ h => absurd h List.not_mem_nil⟩⟩⟩⟩⟩⟩
