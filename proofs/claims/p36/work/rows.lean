section
/-! NOT A PROOF OF THE PROPERTY. These rows show that the printed statement is empty: its premise says of the law's own entry that the class file has its code with NO exception table, and the class file has one (747 .. 806 -> 810, IllegalStateException). No launch meets that; so the claim holds of nothing, its refutation of nothing, and its witness can't be. (REPORT.md, 'STATEMENT') -/
/-- the law's class file doesn't have the law's entry as a code without an exception table -/
theorem pe_law : classFile.hasCode x code maxLocals ret = false := by decide +kernel
/-- it has it with one row of an exception table, and in all else as the statement has it -/
theorem pe_with : classFile.hasCodeWith x code maxLocals ret [(747, 806, 810, 133)] = true := by decide +kernel
/-- no launch meets the premise -/
theorem pe_none (l : Launch) : ¬ Jvm.D.Lists l classFile x code maxLocals ret tables_1 room_1 := by
  intro h
  obtain ⟨-, hf, hl, -⟩ := h
  have hm : (x, code, maxLocals, ret) ∈ (Jvm.D.headSpec (Cond.code x code maxLocals ret :: tables_1) room_1).pre.codes ++ (Jvm.D.headSpec (Cond.code x code maxLocals ret :: tables_1) room_1).post.codes :=
    List.mem_append_left _ (List.mem_append_left _ (List.mem_singleton.mpr rfl))
  have h1 : ((l.file? x.cls).any fun f => f.hasCode x code maxLocals ret) = true := hl.1 (x, code, maxLocals, ret) hm
  rw [hf, Option.any_some, pe_law] at h1
  exact Bool.noConfusion h1
/-- so the witness that the hand-in wants is false -/
theorem pe_lists : ¬ ListsClaimed_1 := pe_none launch0
theorem pe_witness : ¬ WitnessClaimed_1 := fun ⟨_, _, _, _, _, _, h⟩ => pe_none launch0 h.1
/-- and so is each refutation -/
theorem pe_refuted_1 : ¬ RefutedClaimed_1_1 := fun ⟨l, _, _, _, _, _, _, _, h, _⟩ => pe_none l h.1
theorem pe_refuted_2 : ¬ RefutedClaimed_1_2 := fun ⟨l, _, _, _, _, _, _, _, h, _⟩ => pe_none l h.1
/-- the owed statement, true of nothing: it says nothing of the class -/
theorem i_vc : Claimed_1_1 ∧ Claimed_1_2 := ⟨fun l _ h _ => absurd h (pe_none l), fun l _ h _ => absurd h (pe_none l)⟩
end
