/-! A throw of the class: nothing written -/
abbrev kNm : List String := ["java/lang/RuntimeException", "java/lang/Exception"]
theorem XS.cast {A : Nat → Prop} {s : State} (h : XS A s) {E : String} (hE : E ∈ [eI, eA, eS]) : va_Nw (.castable E E) s := h.2.2.2.1 E hE
section KT
variable {p : Program} {l : Launch} {e : Env} {R : Room} {s : State} {m : MethodId} {args : Array Value} {below : List Frame} {meth : Method} {c : Code} {cells slots : Nat}
variable {pc : Nat} {ls : Array Slot} {rest : List Value}
theorem k_throw {cc : ByteArray} {A : Nat → Prop} {Qc : Array Value → State → Outcome → State → Prop} {free : Addr → Prop} {cond : String → Prop} {MC MS : Nat} {cls text : String} {ik is ic : Nat} {Ts : List Cond} (hexec : p.tables.exec = Jvm.exec) (hb : c.code = cc) (hl : l.stackTraces = false) (hown : s.vm.findClass RX1 = some m.cls) (hts : ∀ w ∈ Ts, w.before args s = true) (hX : XS A s)
    (hE : cls ∈ [eI, eA, eS]) (hcls : Bundle.fit cls = true) (hstr : (is, text) ∈ kStr) (hk : Cond.classLink RX1 ik cls ∈ Ts) (hini : Cond.initialized cls ∈ Ts) (hw : ∀ w ∈ (vx_atS RX1 ic cls kNm).filter goodWord, w ∈ Ts) (hbad : ∀ w ∈ (vx_atS RX1 ic cls kNm).filter (fun w => !goodWord w), w ∈ [Cond.castable cls cls, Cond.declares (Bundle.initS "java/lang/RuntimeException"), Cond.declares (Bundle.initS "java/lang/Exception"), Cond.declares (Bundle.initS "java/lang/Throwable")]) (hgood : ∀ w ∈ Cond.classLink RX1 ik cls :: Cond.initialized cls :: vx_atS RX1 ic cls kNm, vx_ot w = true)
    (hsize : ls.size = c.maxLocals) (d0 : decode cc pc = .ok (.new ik, 3)) (d3 : decode cc (pc + 3) = .ok (.dup, 1)) (d4 : decode cc (pc + 4) = .ok (.ldc is, 2)) (d6 : decode cc (pc + 6) = .ok (.invokespecial ic, 3)) (d9 : decode cc (pc + 9) = .ok (.athrow, 1)) (hno : ∀ x ∈ c.exceptionTable.toList, False) (hlocks : meth.locks = false)
    (hRf : 5 < R.frames) (hRl : (rest.map fun v => v.category).sum + 82 ≤ R.locals) (hRc : cells + 1 ≤ R.cells) (hRs : slots + 6 ≤ R.slots) (hc : cells + 1 ≤ MC) (hs : slots + 6 ≤ MS) (hcond : cond cls) :
    W p l e R s m args below meth c s.heap [] cells slots (vx_MQ below Qc (kX cond) args s MC MS free) (F0 m pc ls rest) := by
  obtain ⟨sa, hsa⟩ := hX.2.2.1 (is, text) hstr
  refine vx_throwS (A := A) (names := kNm) (sa := sa) (text := text) hexec hb hl hown hcls (by decide +kernel) (hts _ hk) (hts _ hini) hsa (vx_hat (fun w h => hts w (hw w h)) hbad ?_) hgood hX.1 hX.2.1 va_S.rf hsize d0 d3 d4 d6 d9 (fun x hx => (hno x hx).elim) hRf hRl hRc hRs hlocks (fun t _ h1 h2 => ⟨hcond, h1, fun q hq _ => h2 q hq⟩) (fun z hz => absurd hz List.not_mem_nil) hc hs
  exact vx_c (va_Nw.use rfl (hX.cast hE)) (vx_c (va_Nw.use rfl (hX.2.2.2.2.2.2 _ (by decide))) (vx_c (va_Nw.use rfl (hX.2.2.2.2.2.2 _ (by decide))) (vx_c (va_Nw.use rfl (hX.2.2.2.2.2.2 _ (by decide))) vx_n)))
end KT
